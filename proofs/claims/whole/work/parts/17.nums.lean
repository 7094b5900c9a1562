/-! numbers, memories, loops: what the walks use -/
def pt_pk (l : List (Nat × pt_V)) (ks : List Nat) : List (Nat × pt_V) := ks.filterMap fun k => l[k]?
theorem pt_pick {Y : pt_Y} {pc : Nat} {l l' : List (Nat × pt_V)} {st : List pt_V} {M : pt_M} (ks : List Nat) (h : pt_pk l ks = l') : pt_Go Y (pc, l, st, M) (pc, l', st, M) := by
  refine pt_drop fun q hq => ?_
  rw [← h] at hq
  obtain ⟨k, -, hk⟩ := List.mem_filterMap.mp hq
  exact List.mem_of_getElem? hk
theorem pt_nt_nI {n : Nat} (h : n < 2 ^ 31) : pt_nt (nI n) = n := nI_clamp h
theorem pt_in_nI {n N : Nat} (h : n < N) (hN : N < 2 ^ 31) : pt_in (nI n) N := by
  unfold pt_in
  rw [nI_toInt (by omega)]
  omega
theorem pt_in_of {x : Int32} {n : Nat} (h0 : ¬ x < 0) (h : ¬ nI n ≤ x) (hn : n < 2 ^ 31) : pt_in x n := by
  obtain ⟨j, hj, rfl⟩ := nI_of h0
  rw [nI_leI hn hj] at h
  exact pt_in_nI (by omega) hn
theorem pt_lit (n : Nat) : (OfNat.ofNat n : Int32) = nI n := rfl
theorem pt_m1 : (-1 : Int32) = Int32.ofInt (-1) := rfl
theorem pt_sh (i : Nat) (h : i < 32) : ((nI i &&& 31).toBitVec.smod 32).toNat = i := by
  have : ∀ i, i < 32 → ((nI i &&& 31).toBitVec.smod 32).toNat = i := by decide +kernel
  exact this i h
theorem pt_shl (a i : Nat) (h : i < 32) (ha : a * 2 ^ i < 2 ^ 32) : nI a <<< (nI i &&& 31) = nI (a * 2 ^ i) := pk_shlN _ i (pt_sh i h) ha
theorem pt_shl1 (i : Nat) (h : i < 31) : (1 : Int32) <<< (nI i &&& 31) = nI (2 ^ i) := by
  have := pt_shl 1 i (by omega) (by rw [Nat.one_mul]; exact Nat.pow_lt_pow_right (by decide) (by omega))
  rw [Nat.one_mul] at this
  exact this
theorem pt_shr {n i : Nat} (hn : n < 2 ^ 31) (h : i < 32) : nI n >>> (nI i &&& 31) = nI (n / 2 ^ i) := pk_shrN hn _ i (pt_sh i h)
theorem pt_and1 {n : Nat} (hn : n < 2 ^ 32) : nI n &&& 1 = nI (n % 2) := pk_andN hn 1 (by decide)
theorem pt_bit {n i : Nat} (hn : n < 2 ^ 31) (h : i < 32) : (nI n >>> (nI i &&& 31)) &&& 1 = if n.testBit i then 1 else 0 := by
  have h2 : n / 2 ^ i < 2 ^ 31 := Nat.lt_of_le_of_lt (Nat.div_le_self _ _) hn
  rw [pt_shr hn h, pt_and1 (by omega)]
  have : (n / 2 ^ i) % 2 = if n.testBit i then 1 else 0 := by
    rw [Nat.testBit_eq_decide_div_mod_eq]
    rcases Nat.mod_two_eq_zero_or_one (n / 2 ^ i) with h | h <;> simp [h]
  rw [this]
  cases n.testBit i <;> rfl
theorem pt_bit1 {n i : Nat} (hn : n < 2 ^ 31) (h : i < 32) : (nI n >>> (nI i &&& 31)) &&& 1 = 1 ↔ n.testBit i = true := by
  rw [pt_bit hn h]
  cases n.testBit i <;> decide
theorem pt_or (a b : Nat) : nI a ||| nI b = nI (a ||| b) := by
  apply Int32.toBitVec_inj.mp
  show BitVec.ofNat 32 a ||| BitVec.ofNat 32 b = BitVec.ofNat 32 (a ||| b)
  apply BitVec.eq_of_toNat_eq
  simp [BitVec.toNat_or, BitVec.toNat_ofNat, Nat.or_mod_two_pow]
theorem pt_and (a b : Nat) : nI a &&& nI b = nI (a &&& b) := by
  apply Int32.toBitVec_inj.mp
  show BitVec.ofNat 32 a &&& BitVec.ofNat 32 b = BitVec.ofNat 32 (a &&& b)
  apply BitVec.eq_of_toNat_eq
  simp [BitVec.toNat_and, BitVec.toNat_ofNat, Nat.and_mod_two_pow]
theorem pt_xor (a b : Nat) : nI a ^^^ nI b = nI (a ^^^ b) := by
  apply Int32.toBitVec_inj.mp
  show BitVec.ofNat 32 a ^^^ BitVec.ofNat 32 b = BitVec.ofNat 32 (a ^^^ b)
  apply BitVec.eq_of_toNat_eq
  simp [BitVec.toNat_xor, BitVec.toNat_ofNat, Nat.xor_mod_two_pow]
theorem pt_eq {a b : Nat} (ha : a < 2 ^ 31) (hb : b < 2 ^ 31) : nI a = nI b ↔ a = b := nI_eq ha hb
/-- reading behind a write -/
theorem pt_F_wF (M : pt_M) (k f i : Nat) (v : Int32) (k' f' i' : Nat) : pt_F (pt_wF M k f i v) k' f' i' = if k' = k ∧ f' = f ∧ i' = i then v else pt_F M k' f' i' := rfl
theorem pt_F_wA (M : pt_M) (k i : Nat) (g : Nat → Int32) : pt_F (pt_wA M k i g) = pt_F M := rfl
theorem pt_F_wG (M : pt_M) (k : Nat) (g : Nat → Int64) : pt_F (pt_wG M k g) = pt_F M := rfl
theorem pt_F_wR (M : pt_M) (p v : Nat) : pt_F (pt_wR M p v) = pt_F M := rfl
theorem pt_A_wF (M : pt_M) (k f i : Nat) (v : Int32) : pt_A (pt_wF M k f i v) = pt_A M := rfl
theorem pt_A_wA' (M : pt_M) (k i : Nat) (g : Nat → Int32) (k' i' : Nat) : pt_A (pt_wA M k i g) k' i' = if k' = k ∧ i' = i then g else pt_A M k' i' := rfl
theorem pt_A_wG (M : pt_M) (k : Nat) (g : Nat → Int64) : pt_A (pt_wG M k g) = pt_A M := rfl
theorem pt_A_wR (M : pt_M) (p v : Nat) : pt_A (pt_wR M p v) = pt_A M := rfl
theorem pt_G_wF (M : pt_M) (k f i : Nat) (v : Int32) : pt_G (pt_wF M k f i v) = pt_G M := rfl
theorem pt_G_wA (M : pt_M) (k i : Nat) (g : Nat → Int32) : pt_G (pt_wA M k i g) = pt_G M := rfl
theorem pt_G_wG' (M : pt_M) (k : Nat) (g : Nat → Int64) (k' : Nat) : pt_G (pt_wG M k g) k' = if k' = k then g else pt_G M k' := rfl
theorem pt_G_wR (M : pt_M) (p v : Nat) : pt_G (pt_wR M p v) = pt_G M := rfl
theorem pt_R_wF (M : pt_M) (k f i : Nat) (v : Int32) : pt_R (pt_wF M k f i v) = pt_R M := rfl
theorem pt_R_wA (M : pt_M) (k i : Nat) (g : Nat → Int32) : pt_R (pt_wA M k i g) = pt_R M := rfl
theorem pt_R_wG (M : pt_M) (k : Nat) (g : Nat → Int64) : pt_R (pt_wG M k g) = pt_R M := rfl
theorem pt_R_wR (M : pt_M) (p v q : Nat) : pt_R (pt_wR M p v) q = if q = p then v else pt_R M q := rfl
/-- writing twice -/
theorem pt_wA_wA (M : pt_M) (k i : Nat) (g g' : Nat → Int32) : pt_wA (pt_wA M k i g) k i g' = pt_wA M k i g' := by
  unfold pt_wA
  congr 2
  funext k' i'
  dsimp only
  split <;> rfl
theorem pt_wA_self (M : pt_M) (k i : Nat) : pt_wA M k i (pt_A M k i) = M := by
  obtain ⟨F, A, G, R, X⟩ := M
  unfold pt_wA pt_A
  congr 2
  funext k' i'
  dsimp only
  split
  · rename_i h
    obtain ⟨rfl, rfl⟩ := h
    rfl
  · rfl
theorem pt_wF_wF (M : pt_M) (k f i : Nat) (v v' : Int32) : pt_wF (pt_wF M k f i v) k f i v' = pt_wF M k f i v' := by
  unfold pt_wF
  congr 1
  funext k' f' i'
  dsimp only
  split <;> rfl
/-- loops -/
theorem pt_for {Y : pt_Y} (S : Nat → pt_S) (n : Nat) (h : ∀ i, i < n → pt_Go Y (S i) (S (i + 1))) : ∀ d i, i + d = n → pt_Go Y (S i) (S n)
  | 0, i, e => by
    have : i = n := by omega
    subst this
    exact pt_Go.rf
  | d + 1, i, e => (h i (by omega)).tr (pt_for S n h d (i + 1) (by omega))
theorem pt_for0 {Y : pt_Y} (S : Nat → pt_S) {n : Nat} (h : ∀ i, i < n → pt_Go Y (S i) (S (i + 1))) : pt_Go Y (S 0) (S n) := pt_for S n h n 0 (by omega)
theorem pt_fori {Y : pt_Y} (S : Nat → pt_S) {i n : Nat} (hi : i ≤ n) (h : ∀ j, i ≤ j → j < n → pt_Go Y (S j) (S (j + 1))) : pt_Go Y (S i) (S n) := by
  have := pt_for (fun j => S (i + j)) (n - i) (fun j hj => h (i + j) (by omega) (by omega)) (n - i) 0 (by omega)
  have e : i + (n - i) = n := by omega
  simp only [Nat.add_zero, e] at this
  exact this
theorem pt_narI (x : Int32) : narrow .int (.int x) = .int x := rfl
theorem pt_nar0 : narrow .boolean (.int 0) = .int 0 := rfl
theorem pt_nar1 : narrow .boolean (.int 1) = .int 1 := rfl
def pt_b (b : Bool) : Int32 := if b then 1 else 0
theorem pt_narb (b : Bool) : narrow .boolean (.int (pt_b b)) = .int (pt_b b) := by cases b <;> rfl
