/-! the memory at the start -/
def m0_M (L : Nat) (xs : Nat → Int32) : pt_M := (fun k f _ => if k = 3 ∧ f = 2 then -2 else if (k = 2 ∧ f = 7) ∨ (k = 7 ∧ f = 8) then -1 else 0, fun k _ => if k = 44 then upd (upd (upd (upd (upd (upd (upd (fun _ => 0) 0 0) 1 0) 2 0) 3 (-1)) 4 (-1)) 5 (-1)) 6 (-1) else fun _ => 0, fun _ _ => 0, fun q => q, L, xs)
theorem m0_iv {L : Nat} {xs : Nat → Int32} : IV_P (m0_M L xs) := by
  refine ⟨(0, fun _ => 0, fun _ => 0, fun _ _ _ _ => false, -1, 0, fun _ => 0), ⟨⟨rfl, by decide, fun p hp => absurd hp (Nat.not_lt_zero p)⟩, fun p hp => hp, fun p q _ _ h => h, fun s _ => .inl ⟨rfl, rfl⟩, fun i _ => ?_, rfl, rfl, Nat.zero_le _, fun p hp => absurd hp (Nat.not_lt_zero p)⟩, rfl, ⟨by decide, fun p hp => absurd hp (Nat.not_lt_zero p)⟩, fun s _ => ⟨rfl, .inl rfl⟩, rfl, rfl, fun p hp => absurd hp (Nat.not_lt_zero p), fun n a b => .inl ?_⟩
  · exact (⟨by decide, by decide⟩ : pt_in (0 : Int32) 10)
  · have c : n = 3 ∨ n = 4 ∨ n = 5 ∨ n = 6 := by omega
    rcases c with rfl | rfl | rfl | rfl <;> rfl
def of0 (k i : Nat) : Nat := match k with
  | 2 => 0
  | 10 => 1
  | 3 => if i = 0 then 2 else 16 + 4 * i
  | 11 => if i = 0 then 3 else 17 + 4 * i
  | 12 => if i = 0 then 4 else 18 + 4 * i
  | 13 => if i = 0 then 5 else 19 + 4 * i
  | 4 => 6
  | 14 => 7
  | 5 => 8
  | 15 => 9
  | 6 => 10
  | 16 => 11
  | 17 => 12
  | 18 => 13
  | 19 => 14
  | 20 => 15
  | 21 => 16
  | 22 => 17
  | 23 => 18
  | 24 => 19
  | 7 => 44
  | 50 => 61
  | k => k + 15
/-- where things lie: the script, the constants, what the law makes -/
def ad0 (b h0 : Nat) (a5 : Nat → Nat) (k i : Nat) : Nat := if k = 51 then b else if 60 ≤ k then a5 k else h0 + of0 k i
def e0_L (cA : Nat → ClassId) (h0 : Nat) : List va_E := [.inr (4, [.ref (h0 + 1), .ref (h0 + 2), .ref (h0 + 6), .ref (h0 + 8), .ref (h0 + 10), .ref (h0 + 15), .int 0, .int (-1), .ref (h0 + 16), .ref (h0 + 17), .ref (h0 + 18), .ref (h0 + 19)]),
  .inl (cA 3, 6, .inr (.inr (.inr (.inr (va_up ((va_up ((va_up ((va_up ((va_up ((va_up (fun _ => none) 0 (some (h0 + 20)))) 1 (some (h0 + 24)))) 2 (some (h0 + 28)))) 3 (some (h0 + 32)))) 4 (some (h0 + 36)))) 5 (some (h0 + 40))))))),
  .inr (2, [.int 0, .ref (h0 + 3), .int (-2), .int 0, .ref (h0 + 4), .ref (h0 + 5)]),
  .inl (cA 0, 100, .inl fun _ => 0),
  .inl (cA 0, 120, .inl fun _ => 0),
  .inl (cA 0, 120, .inl fun _ => 0),
  .inr (3, [.ref (h0 + 7), .int 0]),
  .inl (cA 0, 140, .inl fun _ => 0),
  .inr (0, [.ref (h0 + 9)]),
  .inl (cA 0, 10, .inl fun _ => 0),
  .inr (1, [.ref (h0 + 11), .ref (h0 + 12), .ref (h0 + 13), .ref (h0 + 14)]),
  .inl (cA 0, 45, .inl fun _ => 0),
  .inl (cA 0, 10, .inl fun _ => 0),
  .inl (cA 0, 10, .inl fun _ => 0),
  .inl (cA 0, 100, .inl fun _ => 0),
  .inl (cA 0, 120, .inl fun _ => 0),
  .inl (cA 0, 10, .inl fun _ => 0),
  .inl (cA 0, 10, .inl fun _ => 0),
  .inl (cA 0, 10, .inl fun _ => 0),
  .inl (cA 0, 120, .inl fun _ => 0),
  .inr (2, [.int 0, .ref (h0 + 21), .int (-2), .int 0, .ref (h0 + 22), .ref (h0 + 23)]),
  .inl (cA 0, 100, .inl fun _ => 0),
  .inl (cA 0, 120, .inl fun _ => 0),
  .inl (cA 0, 120, .inl fun _ => 0),
  .inr (2, [.int 0, .ref (h0 + 25), .int (-2), .int 0, .ref (h0 + 26), .ref (h0 + 27)]),
  .inl (cA 0, 100, .inl fun _ => 0),
  .inl (cA 0, 120, .inl fun _ => 0),
  .inl (cA 0, 120, .inl fun _ => 0),
  .inr (2, [.int 0, .ref (h0 + 29), .int (-2), .int 0, .ref (h0 + 30), .ref (h0 + 31)]),
  .inl (cA 0, 100, .inl fun _ => 0),
  .inl (cA 0, 120, .inl fun _ => 0),
  .inl (cA 0, 120, .inl fun _ => 0),
  .inr (2, [.int 0, .ref (h0 + 33), .int (-2), .int 0, .ref (h0 + 34), .ref (h0 + 35)]),
  .inl (cA 0, 100, .inl fun _ => 0),
  .inl (cA 0, 120, .inl fun _ => 0),
  .inl (cA 0, 120, .inl fun _ => 0),
  .inr (2, [.int 0, .ref (h0 + 37), .int (-2), .int 0, .ref (h0 + 38), .ref (h0 + 39)]),
  .inl (cA 0, 100, .inl fun _ => 0),
  .inl (cA 0, 120, .inl fun _ => 0),
  .inl (cA 0, 120, .inl fun _ => 0),
  .inr (2, [.int 0, .ref (h0 + 41), .int (-2), .int 0, .ref (h0 + 42), .ref (h0 + 43)]),
  .inl (cA 0, 100, .inl fun _ => 0),
  .inl (cA 0, 120, .inl fun _ => 0),
  .inl (cA 0, 120, .inl fun _ => 0),
  .inr (5, [.int 0, .ref (h0 + 45), .int 0, .int 0, .ref (h0 + 46), .ref (h0 + 47), .ref (h0 + 48), .ref (h0 + 49), .int (-1), .ref (h0 + 50), .ref (h0 + 51), .ref (h0 + 52), .ref (h0 + 53), .ref (h0 + 54), .ref (h0 + 55), .ref (h0 + 56), .int 0, .ref (h0 + 57), .ref (h0 + 58), .ref (h0 + 59), .ref (h0 + 60)]),
  .inl (cA 1, 140, .inl fun _ => 0),
  .inl (cA 0, 6, .inl fun _ => 0),
  .inl (cA 0, 960, .inl fun _ => 0),
  .inl (cA 2, 10, .inr (.inl fun _ => 0)),
  .inl (cA 2, 10, .inr (.inl fun _ => 0)),
  .inl (cA 0, 10, .inl fun _ => 0),
  .inl (cA 0, 5, .inl fun _ => 0),
  .inl (cA 0, 120, .inl fun _ => 0),
  .inl (cA 0, 120, .inl fun _ => 0),
  .inl (cA 0, 120, .inl fun _ => 0),
  .inl (cA 0, 120, .inl fun _ => 0),
  .inl (cA 1, 120, .inl fun _ => 0),
  .inl (cA 0, 10, .inl fun _ => 0),
  .inl (cA 0, 100, .inl fun _ => 0),
  .inl (cA 0, 7, .inl (upd ((upd ((upd ((upd ((upd ((upd ((upd (fun _ => 0) 0 0)) 1 0)) 2 0)) 3 (-1))) 4 (-1))) 5 (-1))) 6 (-1))),
  .inl (cA 0, 448, .inl fun _ => 0),
  .inl (cA 2, 1, .inr (.inl fun _ => 0))]
theorem arrV_cg {cA : ClassId} {n : Nat} {f g : Nat → Value} (h : ∀ j, j < n → f j = g j) : arrV cA n f = arrV cA n g := by
  unfold arrV
  congr 1
  apply Array.ext
  · simp
  · intro i h1 h2
    simp at h1
    simp [h i h1]
section M0
variable {D : va_G} {cA : Nat → ClassId} {b h0 L : Nat} {a5 : Nat → Nat} {xs : Nat → Int32} {H : Heap}
theorem e0_2_0 : pt_ce (ad0 b h0 a5) cA (m0_M L xs) 2 0 = (e0_L cA h0)[of0 2 0]? := rfl
theorem e0_3_0 : pt_ce (ad0 b h0 a5) cA (m0_M L xs) 3 0 = (e0_L cA h0)[of0 3 0]? := rfl
theorem e0_3_1 : pt_ce (ad0 b h0 a5) cA (m0_M L xs) 3 1 = (e0_L cA h0)[of0 3 1]? := rfl
theorem e0_3_2 : pt_ce (ad0 b h0 a5) cA (m0_M L xs) 3 2 = (e0_L cA h0)[of0 3 2]? := rfl
theorem e0_3_3 : pt_ce (ad0 b h0 a5) cA (m0_M L xs) 3 3 = (e0_L cA h0)[of0 3 3]? := rfl
theorem e0_3_4 : pt_ce (ad0 b h0 a5) cA (m0_M L xs) 3 4 = (e0_L cA h0)[of0 3 4]? := rfl
theorem e0_3_5 : pt_ce (ad0 b h0 a5) cA (m0_M L xs) 3 5 = (e0_L cA h0)[of0 3 5]? := rfl
theorem e0_3_6 : pt_ce (ad0 b h0 a5) cA (m0_M L xs) 3 6 = (e0_L cA h0)[of0 3 6]? := rfl
theorem e0_4_0 : pt_ce (ad0 b h0 a5) cA (m0_M L xs) 4 0 = (e0_L cA h0)[of0 4 0]? := rfl
theorem e0_5_0 : pt_ce (ad0 b h0 a5) cA (m0_M L xs) 5 0 = (e0_L cA h0)[of0 5 0]? := rfl
theorem e0_6_0 : pt_ce (ad0 b h0 a5) cA (m0_M L xs) 6 0 = (e0_L cA h0)[of0 6 0]? := rfl
theorem e0_7_0 : pt_ce (ad0 b h0 a5) cA (m0_M L xs) 7 0 = (e0_L cA h0)[of0 7 0]? := rfl
theorem e0_11_0 : pt_ce (ad0 b h0 a5) cA (m0_M L xs) 11 0 = (e0_L cA h0)[of0 11 0]? := rfl
theorem e0_11_1 : pt_ce (ad0 b h0 a5) cA (m0_M L xs) 11 1 = (e0_L cA h0)[of0 11 1]? := rfl
theorem e0_11_2 : pt_ce (ad0 b h0 a5) cA (m0_M L xs) 11 2 = (e0_L cA h0)[of0 11 2]? := rfl
theorem e0_11_3 : pt_ce (ad0 b h0 a5) cA (m0_M L xs) 11 3 = (e0_L cA h0)[of0 11 3]? := rfl
theorem e0_11_4 : pt_ce (ad0 b h0 a5) cA (m0_M L xs) 11 4 = (e0_L cA h0)[of0 11 4]? := rfl
theorem e0_11_5 : pt_ce (ad0 b h0 a5) cA (m0_M L xs) 11 5 = (e0_L cA h0)[of0 11 5]? := rfl
theorem e0_11_6 : pt_ce (ad0 b h0 a5) cA (m0_M L xs) 11 6 = (e0_L cA h0)[of0 11 6]? := rfl
theorem e0_12_0 : pt_ce (ad0 b h0 a5) cA (m0_M L xs) 12 0 = (e0_L cA h0)[of0 12 0]? := rfl
theorem e0_12_1 : pt_ce (ad0 b h0 a5) cA (m0_M L xs) 12 1 = (e0_L cA h0)[of0 12 1]? := rfl
theorem e0_12_2 : pt_ce (ad0 b h0 a5) cA (m0_M L xs) 12 2 = (e0_L cA h0)[of0 12 2]? := rfl
theorem e0_12_3 : pt_ce (ad0 b h0 a5) cA (m0_M L xs) 12 3 = (e0_L cA h0)[of0 12 3]? := rfl
theorem e0_12_4 : pt_ce (ad0 b h0 a5) cA (m0_M L xs) 12 4 = (e0_L cA h0)[of0 12 4]? := rfl
theorem e0_12_5 : pt_ce (ad0 b h0 a5) cA (m0_M L xs) 12 5 = (e0_L cA h0)[of0 12 5]? := rfl
theorem e0_12_6 : pt_ce (ad0 b h0 a5) cA (m0_M L xs) 12 6 = (e0_L cA h0)[of0 12 6]? := rfl
theorem e0_13_0 : pt_ce (ad0 b h0 a5) cA (m0_M L xs) 13 0 = (e0_L cA h0)[of0 13 0]? := rfl
theorem e0_13_1 : pt_ce (ad0 b h0 a5) cA (m0_M L xs) 13 1 = (e0_L cA h0)[of0 13 1]? := rfl
theorem e0_13_2 : pt_ce (ad0 b h0 a5) cA (m0_M L xs) 13 2 = (e0_L cA h0)[of0 13 2]? := rfl
theorem e0_13_3 : pt_ce (ad0 b h0 a5) cA (m0_M L xs) 13 3 = (e0_L cA h0)[of0 13 3]? := rfl
theorem e0_13_4 : pt_ce (ad0 b h0 a5) cA (m0_M L xs) 13 4 = (e0_L cA h0)[of0 13 4]? := rfl
theorem e0_13_5 : pt_ce (ad0 b h0 a5) cA (m0_M L xs) 13 5 = (e0_L cA h0)[of0 13 5]? := rfl
theorem e0_13_6 : pt_ce (ad0 b h0 a5) cA (m0_M L xs) 13 6 = (e0_L cA h0)[of0 13 6]? := rfl
theorem e0_14_0 : pt_ce (ad0 b h0 a5) cA (m0_M L xs) 14 0 = (e0_L cA h0)[of0 14 0]? := rfl
theorem e0_15_0 : pt_ce (ad0 b h0 a5) cA (m0_M L xs) 15 0 = (e0_L cA h0)[of0 15 0]? := rfl
theorem e0_16_0 : pt_ce (ad0 b h0 a5) cA (m0_M L xs) 16 0 = (e0_L cA h0)[of0 16 0]? := rfl
theorem e0_17_0 : pt_ce (ad0 b h0 a5) cA (m0_M L xs) 17 0 = (e0_L cA h0)[of0 17 0]? := rfl
theorem e0_18_0 : pt_ce (ad0 b h0 a5) cA (m0_M L xs) 18 0 = (e0_L cA h0)[of0 18 0]? := rfl
theorem e0_19_0 : pt_ce (ad0 b h0 a5) cA (m0_M L xs) 19 0 = (e0_L cA h0)[of0 19 0]? := rfl
theorem e0_20_0 : pt_ce (ad0 b h0 a5) cA (m0_M L xs) 20 0 = (e0_L cA h0)[of0 20 0]? := rfl
theorem e0_21_0 : pt_ce (ad0 b h0 a5) cA (m0_M L xs) 21 0 = (e0_L cA h0)[of0 21 0]? := rfl
theorem e0_22_0 : pt_ce (ad0 b h0 a5) cA (m0_M L xs) 22 0 = (e0_L cA h0)[of0 22 0]? := rfl
theorem e0_23_0 : pt_ce (ad0 b h0 a5) cA (m0_M L xs) 23 0 = (e0_L cA h0)[of0 23 0]? := rfl
theorem e0_24_0 : pt_ce (ad0 b h0 a5) cA (m0_M L xs) 24 0 = (e0_L cA h0)[of0 24 0]? := rfl
theorem e0_30_0 : pt_ce (ad0 b h0 a5) cA (m0_M L xs) 30 0 = (e0_L cA h0)[of0 30 0]? := rfl
theorem e0_31_0 : pt_ce (ad0 b h0 a5) cA (m0_M L xs) 31 0 = (e0_L cA h0)[of0 31 0]? := rfl
theorem e0_32_0 : pt_ce (ad0 b h0 a5) cA (m0_M L xs) 32 0 = (e0_L cA h0)[of0 32 0]? := rfl
theorem e0_33_0 : pt_ce (ad0 b h0 a5) cA (m0_M L xs) 33 0 = (e0_L cA h0)[of0 33 0]? := rfl
theorem e0_34_0 : pt_ce (ad0 b h0 a5) cA (m0_M L xs) 34 0 = (e0_L cA h0)[of0 34 0]? := rfl
theorem e0_35_0 : pt_ce (ad0 b h0 a5) cA (m0_M L xs) 35 0 = (e0_L cA h0)[of0 35 0]? := rfl
theorem e0_36_0 : pt_ce (ad0 b h0 a5) cA (m0_M L xs) 36 0 = (e0_L cA h0)[of0 36 0]? := rfl
theorem e0_37_0 : pt_ce (ad0 b h0 a5) cA (m0_M L xs) 37 0 = (e0_L cA h0)[of0 37 0]? := rfl
theorem e0_38_0 : pt_ce (ad0 b h0 a5) cA (m0_M L xs) 38 0 = (e0_L cA h0)[of0 38 0]? := rfl
theorem e0_39_0 : pt_ce (ad0 b h0 a5) cA (m0_M L xs) 39 0 = (e0_L cA h0)[of0 39 0]? := rfl
theorem e0_40_0 : pt_ce (ad0 b h0 a5) cA (m0_M L xs) 40 0 = (e0_L cA h0)[of0 40 0]? := rfl
theorem e0_41_0 : pt_ce (ad0 b h0 a5) cA (m0_M L xs) 41 0 = (e0_L cA h0)[of0 41 0]? := rfl
theorem e0_42_0 : pt_ce (ad0 b h0 a5) cA (m0_M L xs) 42 0 = (e0_L cA h0)[of0 42 0]? := rfl
theorem e0_43_0 : pt_ce (ad0 b h0 a5) cA (m0_M L xs) 43 0 = (e0_L cA h0)[of0 43 0]? := rfl
theorem e0_44_0 : pt_ce (ad0 b h0 a5) cA (m0_M L xs) 44 0 = (e0_L cA h0)[of0 44 0]? := rfl
theorem e0_45_0 : pt_ce (ad0 b h0 a5) cA (m0_M L xs) 45 0 = (e0_L cA h0)[of0 45 0]? := rfl
theorem e0_50_0 : pt_ce (ad0 b h0 a5) cA (m0_M L xs) 50 0 = (e0_L cA h0)[of0 50 0]? := rfl
theorem e0_10 (h : nw0_P D h0 (e0_L cA h0) H) : va_at D vwCl (h0 + 1, .inl (cA 3, 6, .inr (.inr (.inr (.inr fun p => some (ad0 b h0 a5 3 (p + 1))))))) H := by
  have z : H[h0 + 1]? = _ := h.2 1 _ rfl
  show H[h0 + 1]? = some (vp_cell _ _)
  rw [z, vp_cell_q, vp_cell_q]
  congr 1
theorem ob_hi {k : Nat} (h : 51 ≤ k) : pt_ob k = none := by
  unfold pt_ob
  split <;> first | rfl | omega
theorem ak_hi {k : Nat} (h : 51 ≤ k) : pt_ak k = none := by
  unfold pt_ak
  split <;> first | rfl | omega
set_option maxHeartbeats 4000000 in
theorem e0_hd (h : nw0_P D h0 (e0_L cA h0) H) : pt_Hd D (ad0 b h0 a5) cA (m0_M L xs) H := by
  intro k i e hi he
  have key : ∀ o, pt_ce (ad0 b h0 a5) cA (m0_M L xs) k i = (e0_L cA h0)[o]? → ad0 b h0 a5 k i = h0 + o → va_at D vwCl (ad0 b h0 a5 k i, e) H := fun o h1 h2 => by
    rw [h2]
    exact h.2 o e (h1.symm.trans he)
  have hk : k < 51 := by
    rcases Nat.lt_or_ge k 51 with z | z
    · exact z
    · unfold pt_ce at he
      rw [ob_hi z, ak_hi z] at he
      cases he
  match k, hk, i, hi, he, key with
  | 0, _, _, _, he, _ =>
    have he : (none : Option va_E) = some e := he
    cases he
  | 1, _, _, _, he, _ =>
    have he : (none : Option va_E) = some e := he
    cases he
  | 2, _, 0, _, _, key => exact key (of0 2 0) e0_2_0 rfl
  | 2, _, i + 1, hi, _, _ =>
    have hi : i + 1 < 1 := hi
    omega
  | 3, _, 0, _, _, key => exact key (of0 3 0) e0_3_0 rfl
  | 3, _, 1, _, _, key => exact key (of0 3 1) e0_3_1 rfl
  | 3, _, 2, _, _, key => exact key (of0 3 2) e0_3_2 rfl
  | 3, _, 3, _, _, key => exact key (of0 3 3) e0_3_3 rfl
  | 3, _, 4, _, _, key => exact key (of0 3 4) e0_3_4 rfl
  | 3, _, 5, _, _, key => exact key (of0 3 5) e0_3_5 rfl
  | 3, _, 6, _, _, key => exact key (of0 3 6) e0_3_6 rfl
  | 3, _, i + 7, hi, _, _ =>
    have hi : i + 7 < 7 := hi
    omega
  | 4, _, 0, _, _, key => exact key (of0 4 0) e0_4_0 rfl
  | 4, _, i + 1, hi, _, _ =>
    have hi : i + 1 < 1 := hi
    omega
  | 5, _, 0, _, _, key => exact key (of0 5 0) e0_5_0 rfl
  | 5, _, i + 1, hi, _, _ =>
    have hi : i + 1 < 1 := hi
    omega
  | 6, _, 0, _, _, key => exact key (of0 6 0) e0_6_0 rfl
  | 6, _, i + 1, hi, _, _ =>
    have hi : i + 1 < 1 := hi
    omega
  | 7, _, 0, _, _, key => exact key (of0 7 0) e0_7_0 rfl
  | 7, _, i + 1, hi, _, _ =>
    have hi : i + 1 < 1 := hi
    omega
  | 8, _, _, _, he, _ =>
    have he : (none : Option va_E) = some e := he
    cases he
  | 9, _, _, _, he, _ =>
    have he : (none : Option va_E) = some e := he
    cases he
  | 10, _, 0, _, he, _ =>
    cases he
    exact e0_10 h
  | 10, _, i + 1, hi, _, _ =>
    have hi : i + 1 < 1 := hi
    omega
  | 11, _, 0, _, _, key => exact key (of0 11 0) e0_11_0 rfl
  | 11, _, 1, _, _, key => exact key (of0 11 1) e0_11_1 rfl
  | 11, _, 2, _, _, key => exact key (of0 11 2) e0_11_2 rfl
  | 11, _, 3, _, _, key => exact key (of0 11 3) e0_11_3 rfl
  | 11, _, 4, _, _, key => exact key (of0 11 4) e0_11_4 rfl
  | 11, _, 5, _, _, key => exact key (of0 11 5) e0_11_5 rfl
  | 11, _, 6, _, _, key => exact key (of0 11 6) e0_11_6 rfl
  | 11, _, i + 7, hi, _, _ =>
    have hi : i + 7 < 7 := hi
    omega
  | 12, _, 0, _, _, key => exact key (of0 12 0) e0_12_0 rfl
  | 12, _, 1, _, _, key => exact key (of0 12 1) e0_12_1 rfl
  | 12, _, 2, _, _, key => exact key (of0 12 2) e0_12_2 rfl
  | 12, _, 3, _, _, key => exact key (of0 12 3) e0_12_3 rfl
  | 12, _, 4, _, _, key => exact key (of0 12 4) e0_12_4 rfl
  | 12, _, 5, _, _, key => exact key (of0 12 5) e0_12_5 rfl
  | 12, _, 6, _, _, key => exact key (of0 12 6) e0_12_6 rfl
  | 12, _, i + 7, hi, _, _ =>
    have hi : i + 7 < 7 := hi
    omega
  | 13, _, 0, _, _, key => exact key (of0 13 0) e0_13_0 rfl
  | 13, _, 1, _, _, key => exact key (of0 13 1) e0_13_1 rfl
  | 13, _, 2, _, _, key => exact key (of0 13 2) e0_13_2 rfl
  | 13, _, 3, _, _, key => exact key (of0 13 3) e0_13_3 rfl
  | 13, _, 4, _, _, key => exact key (of0 13 4) e0_13_4 rfl
  | 13, _, 5, _, _, key => exact key (of0 13 5) e0_13_5 rfl
  | 13, _, 6, _, _, key => exact key (of0 13 6) e0_13_6 rfl
  | 13, _, i + 7, hi, _, _ =>
    have hi : i + 7 < 7 := hi
    omega
  | 14, _, 0, _, _, key => exact key (of0 14 0) e0_14_0 rfl
  | 14, _, i + 1, hi, _, _ =>
    have hi : i + 1 < 1 := hi
    omega
  | 15, _, 0, _, _, key => exact key (of0 15 0) e0_15_0 rfl
  | 15, _, i + 1, hi, _, _ =>
    have hi : i + 1 < 1 := hi
    omega
  | 16, _, 0, _, _, key => exact key (of0 16 0) e0_16_0 rfl
  | 16, _, i + 1, hi, _, _ =>
    have hi : i + 1 < 1 := hi
    omega
  | 17, _, 0, _, _, key => exact key (of0 17 0) e0_17_0 rfl
  | 17, _, i + 1, hi, _, _ =>
    have hi : i + 1 < 1 := hi
    omega
  | 18, _, 0, _, _, key => exact key (of0 18 0) e0_18_0 rfl
  | 18, _, i + 1, hi, _, _ =>
    have hi : i + 1 < 1 := hi
    omega
  | 19, _, 0, _, _, key => exact key (of0 19 0) e0_19_0 rfl
  | 19, _, i + 1, hi, _, _ =>
    have hi : i + 1 < 1 := hi
    omega
  | 20, _, 0, _, _, key => exact key (of0 20 0) e0_20_0 rfl
  | 20, _, i + 1, hi, _, _ =>
    have hi : i + 1 < 1 := hi
    omega
  | 21, _, 0, _, _, key => exact key (of0 21 0) e0_21_0 rfl
  | 21, _, i + 1, hi, _, _ =>
    have hi : i + 1 < 1 := hi
    omega
  | 22, _, 0, _, _, key => exact key (of0 22 0) e0_22_0 rfl
  | 22, _, i + 1, hi, _, _ =>
    have hi : i + 1 < 1 := hi
    omega
  | 23, _, 0, _, _, key => exact key (of0 23 0) e0_23_0 rfl
  | 23, _, i + 1, hi, _, _ =>
    have hi : i + 1 < 1 := hi
    omega
  | 24, _, 0, _, _, key => exact key (of0 24 0) e0_24_0 rfl
  | 24, _, i + 1, hi, _, _ =>
    have hi : i + 1 < 1 := hi
    omega
  | 25, _, _, _, he, _ =>
    have he : (none : Option va_E) = some e := he
    cases he
  | 26, _, _, _, he, _ =>
    have he : (none : Option va_E) = some e := he
    cases he
  | 27, _, _, _, he, _ =>
    have he : (none : Option va_E) = some e := he
    cases he
  | 28, _, _, _, he, _ =>
    have he : (none : Option va_E) = some e := he
    cases he
  | 29, _, _, _, he, _ =>
    have he : (none : Option va_E) = some e := he
    cases he
  | 30, _, 0, _, _, key => exact key (of0 30 0) e0_30_0 rfl
  | 30, _, i + 1, hi, _, _ =>
    have hi : i + 1 < 1 := hi
    omega
  | 31, _, 0, _, _, key => exact key (of0 31 0) e0_31_0 rfl
  | 31, _, i + 1, hi, _, _ =>
    have hi : i + 1 < 1 := hi
    omega
  | 32, _, 0, _, _, key => exact key (of0 32 0) e0_32_0 rfl
  | 32, _, i + 1, hi, _, _ =>
    have hi : i + 1 < 1 := hi
    omega
  | 33, _, 0, _, _, key => exact key (of0 33 0) e0_33_0 rfl
  | 33, _, i + 1, hi, _, _ =>
    have hi : i + 1 < 1 := hi
    omega
  | 34, _, 0, _, _, key => exact key (of0 34 0) e0_34_0 rfl
  | 34, _, i + 1, hi, _, _ =>
    have hi : i + 1 < 1 := hi
    omega
  | 35, _, 0, _, _, key => exact key (of0 35 0) e0_35_0 rfl
  | 35, _, i + 1, hi, _, _ =>
    have hi : i + 1 < 1 := hi
    omega
  | 36, _, 0, _, _, key => exact key (of0 36 0) e0_36_0 rfl
  | 36, _, i + 1, hi, _, _ =>
    have hi : i + 1 < 1 := hi
    omega
  | 37, _, 0, _, _, key => exact key (of0 37 0) e0_37_0 rfl
  | 37, _, i + 1, hi, _, _ =>
    have hi : i + 1 < 1 := hi
    omega
  | 38, _, 0, _, _, key => exact key (of0 38 0) e0_38_0 rfl
  | 38, _, i + 1, hi, _, _ =>
    have hi : i + 1 < 1 := hi
    omega
  | 39, _, 0, _, _, key => exact key (of0 39 0) e0_39_0 rfl
  | 39, _, i + 1, hi, _, _ =>
    have hi : i + 1 < 1 := hi
    omega
  | 40, _, 0, _, _, key => exact key (of0 40 0) e0_40_0 rfl
  | 40, _, i + 1, hi, _, _ =>
    have hi : i + 1 < 1 := hi
    omega
  | 41, _, 0, _, _, key => exact key (of0 41 0) e0_41_0 rfl
  | 41, _, i + 1, hi, _, _ =>
    have hi : i + 1 < 1 := hi
    omega
  | 42, _, 0, _, _, key => exact key (of0 42 0) e0_42_0 rfl
  | 42, _, i + 1, hi, _, _ =>
    have hi : i + 1 < 1 := hi
    omega
  | 43, _, 0, _, _, key => exact key (of0 43 0) e0_43_0 rfl
  | 43, _, i + 1, hi, _, _ =>
    have hi : i + 1 < 1 := hi
    omega
  | 44, _, 0, _, _, key => exact key (of0 44 0) e0_44_0 rfl
  | 44, _, i + 1, hi, _, _ =>
    have hi : i + 1 < 1 := hi
    omega
  | 45, _, 0, _, _, key => exact key (of0 45 0) e0_45_0 rfl
  | 45, _, i + 1, hi, _, _ =>
    have hi : i + 1 < 1 := hi
    omega
  | 46, _, _, _, he, _ =>
    have he : (none : Option va_E) = some e := he
    cases he
  | 47, _, _, _, he, _ =>
    have he : (none : Option va_E) = some e := he
    cases he
  | 48, _, _, _, he, _ =>
    have he : (none : Option va_E) = some e := he
    cases he
  | 49, _, _, _, he, _ =>
    have he : (none : Option va_E) = some e := he
    cases he
  | 50, _, 0, _, _, key => exact key (of0 50 0) e0_50_0 rfl
  | 50, _, i + 1, hi, _, _ =>
    have hi : i + 1 < 1 := hi
    omega
  | k + 51, hk, _, _, _, _ => omega
end M0
