/-! all kinds of few points, by evaluation -/
def kq_pos (n i j k : Nat) : Nat := (n - 1 - i) * (n - 2 - i) * (n - 3 - i) / 6 + (n - 1 - j) * (n - 2 - j) / 2 + (n - 1 - k)
/-- the table of n points that the bits of x say -/
def kq_T (n x : Nat) : Nat → Nat → Nat → Bool := nB_F n fun i j k => !x.testBit (kq_pos n i j k)
def kq_lex (f w : Nat × Nat × Nat → Bool) : List (Nat × Nat × Nat) → Bool
  | [] => false
  | t :: l => if f t == w t then kq_lex f w l else f t
def kq_rim (n : Nat) (B : Nat → Nat → Nat → Bool) (r : Nat) : Bool := (List.range n).any fun j => j != r && (List.range n).all fun z => z == r || (z == j || B r j z)
def kq_nam (n : Nat) (B : Nat → Nat → Nat → Bool) (r a : Nat) : Nat := ((List.range n).find? fun x => pz_F n B r x == a).getD 0
def kq_ahd (n : Nat) (L : List (Nat × Nat × Nat)) (B C : Nat → Nat → Nat → Bool) : Bool := (List.range n).any fun r => kq_rim n C r && kq_lex (fun t => C (kq_nam n C r t.1) (kq_nam n C r t.2.1) (kq_nam n C r t.2.2)) (fun t => B t.1 t.2.1 t.2.2) L
def kq_chk (n : Nat) (L : List (Nat × Nat × Nat)) (K : List Nat) (x : Nat) : Bool := if wy_F n (kq_T n x) = 0 then kq_rim n (kq_T n x) 0 && ((List.range n).all (fun a => pz_F n (kq_T n x) 0 a == a) && ((!kq_ahd n L (kq_T n x) (kq_T n x) && !kq_ahd n L (kq_T n x) (mb_F n (kq_T n x))) == K.contains x)) else !K.contains x
def kq_L (n : Nat) : List Nat := (List.range (kn_F n)).map (kv_F n)
theorem tl_6 : tl_F 6 = [(0, 1, 2), (0, 1, 3), (0, 1, 4), (0, 1, 5), (0, 2, 3), (0, 2, 4), (0, 2, 5), (0, 3, 4), (0, 3, 5), (0, 4, 5), (1, 2, 3), (1, 2, 4), (1, 2, 5), (1, 3, 4), (1, 3, 5), (1, 4, 5), (2, 3, 4), (2, 3, 5), (2, 4, 5), (3, 4, 5)] := by decide +kernel
theorem tl_5 : tl_F 5 = [(0, 1, 2), (0, 1, 3), (0, 1, 4), (0, 2, 3), (0, 2, 4), (0, 3, 4), (1, 2, 3), (1, 2, 4), (1, 3, 4), (2, 3, 4)] := by decide +kernel
theorem tl_4 : tl_F 4 = [(0, 1, 2), (0, 1, 3), (0, 2, 3), (1, 2, 3)] := by decide +kernel
theorem tl_3 : tl_F 3 = [(0, 1, 2)] := by decide +kernel
theorem kq_c3 : (List.range 1).all (kq_chk 3 [(0, 1, 2)] [0]) = true := by decide +kernel
theorem kq_c4 : (List.range 2).all (kq_chk 4 [(0, 1, 2), (0, 1, 3), (0, 2, 3), (1, 2, 3)] [0, 1]) = true := by decide +kernel
theorem kq_c5 : (List.range 16).all (kq_chk 5 [(0, 1, 2), (0, 1, 3), (0, 1, 4), (0, 2, 3), (0, 2, 4), (0, 3, 4), (1, 2, 3), (1, 2, 4), (1, 3, 4), (2, 3, 4)] [0, 1, 7]) = true := by decide +kernel
theorem kq_c6 : (List.range 1024).all (kq_chk 6 [(0, 1, 2), (0, 1, 3), (0, 1, 4), (0, 1, 5), (0, 2, 3), (0, 2, 4), (0, 2, 5), (0, 3, 4), (0, 3, 5), (0, 4, 5), (1, 2, 3), (1, 2, 4), (1, 2, 5), (1, 3, 4), (1, 3, 5), (1, 4, 5), (2, 3, 4), (2, 3, 5), (2, 4, 5), (3, 4, 5)] [0, 1, 3, 7, 15, 23, 31, 63, 76, 183, 191, 254, 255, 510, 531, 947]) = true := by decide +kernel
