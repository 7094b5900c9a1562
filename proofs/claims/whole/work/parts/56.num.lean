/-! NUMBERS OF PLACES: ints and longs tell the same -/
theorem bm_32 {n : Int} (h1 : -2147483648 ≤ n) (h2 : n < 2147483648) : n.bmod (2 ^ 32) = n := by
  have e : ((2 ^ 32 : Nat) : Int) = 4294967296 := rfl
  unfold Int.bmod
  rw [e]
  dsimp only
  split <;> omega
theorem bm_64 {n : Int} (h1 : -9223372036854775808 ≤ n) (h2 : n < 9223372036854775808) : n.bmod (2 ^ 64) = n := by
  have e : ((2 ^ 64 : Nat) : Int) = 18446744073709551616 := rfl
  unfold Int.bmod
  rw [e]
  dsimp only
  split <;> omega
theorem mul_b {p q : Int} (h1 : -20000 ≤ p) (h2 : p ≤ 20000) (h3 : -20000 ≤ q) (h4 : q ≤ 20000) : -400000000 ≤ p * q ∧ p * q ≤ 400000000 := by
  have hp : p.natAbs ≤ 20000 := by omega
  have hq : q.natAbs ≤ 20000 := by omega
  have h := Nat.mul_le_mul hp hq
  rw [← Int.natAbs_mul] at h
  omega
def pn_P (x : Int32) : Prop := -10000 ≤ x.toInt ∧ x.toInt ≤ 10000
theorem d_32 {x y : Int32} (hx : pn_P x) (hy : pn_P y) : (x - y).toInt = x.toInt - y.toInt := by
  unfold pn_P at hx hy
  rw [Int32.toInt_sub, bm_32 (by omega) (by omega)]
theorem d_64 {x y : Int32} (hx : pn_P x) (hy : pn_P y) : (x.toInt64 - y.toInt64).toInt = x.toInt - y.toInt := by
  unfold pn_P at hx hy
  rw [Int64.toInt_sub, Int32.toInt_toInt64, Int32.toInt_toInt64, bm_64 (by omega) (by omega)]
/-- the doubled area of three places, whole -/
def ea_F (X Y : Nat → Int32) (i j k : Nat) : Int := ((X j).toInt - (X i).toInt) * ((Y k).toInt - (Y i).toInt) - ((Y j).toInt - (Y i).toInt) * ((X k).toInt - (X i).toInt)
theorem ea_b {X Y : Nat → Int32} {i j k : Nat} (hx : ∀ q, q = i ∨ q = j ∨ q = k → pn_P (X q) ∧ pn_P (Y q)) : (-400000000 ≤ ((X j).toInt - (X i).toInt) * ((Y k).toInt - (Y i).toInt) ∧ ((X j).toInt - (X i).toInt) * ((Y k).toInt - (Y i).toInt) ≤ 400000000) ∧ (-400000000 ≤ ((Y j).toInt - (Y i).toInt) * ((X k).toInt - (X i).toInt) ∧ ((Y j).toInt - (Y i).toInt) * ((X k).toInt - (X i).toInt) ≤ 400000000) := by
  have a := hx i (Or.inl rfl)
  have b := hx j (Or.inr (Or.inl rfl))
  have c := hx k (Or.inr (Or.inr rfl))
  unfold pn_P at a b c
  exact ⟨mul_b (by omega) (by omega) (by omega) (by omega), mul_b (by omega) (by omega) (by omega) (by omega)⟩
theorem ar_32 {X Y : Nat → Int32} {i j k : Nat} (hx : ∀ q, q = i ∨ q = j ∨ q = k → pn_P (X q) ∧ pn_P (Y q)) : (ar_F X Y i j k).toInt = ea_F X Y i j k := by
  have a := hx i (Or.inl rfl)
  have b := hx j (Or.inr (Or.inl rfl))
  have c := hx k (Or.inr (Or.inr rfl))
  obtain ⟨h1, h2⟩ := ea_b hx
  unfold ar_F ea_F
  rw [Int32.toInt_sub, Int32.toInt_mul, Int32.toInt_mul, d_32 b.1 a.1, d_32 c.2 a.2, d_32 b.2 a.2, d_32 c.1 a.1, bm_32 (n := ((X j).toInt - (X i).toInt) * ((Y k).toInt - (Y i).toInt)) (by omega) (by omega), bm_32 (n := ((Y j).toInt - (Y i).toInt) * ((X k).toInt - (X i).toInt)) (by omega) (by omega), bm_32 (by omega) (by omega)]
def al_64 (X Y : Nat → Int32) (i j k : Nat) : Int64 := ((((X j).toInt64 - (X i).toInt64) * ((Y k).toInt64 - (Y i).toInt64)) - (((Y j).toInt64 - (Y i).toInt64) * ((X k).toInt64 - (X i).toInt64)))
theorem ar_64 {X Y : Nat → Int32} {i j k : Nat} (hx : ∀ q, q = i ∨ q = j ∨ q = k → pn_P (X q) ∧ pn_P (Y q)) : (al_64 X Y i j k).toInt = ea_F X Y i j k := by
  have a := hx i (Or.inl rfl)
  have b := hx j (Or.inr (Or.inl rfl))
  have c := hx k (Or.inr (Or.inr rfl))
  obtain ⟨h1, h2⟩ := ea_b hx
  unfold al_64 ea_F
  rw [Int64.toInt_sub, Int64.toInt_mul, Int64.toInt_mul, d_64 b.1 a.1, d_64 c.2 a.2, d_64 b.2 a.2, d_64 c.1 a.1, bm_64 (n := ((X j).toInt - (X i).toInt) * ((Y k).toInt - (Y i).toInt)) (by omega) (by omega), bm_64 (n := ((Y j).toInt - (Y i).toInt) * ((X k).toInt - (X i).toInt)) (by omega) (by omega), bm_64 (by omega) (by omega)]
theorem lg_eq (x y : Int64) : lg_cmp x y = 0 ↔ x = y := by
  unfold lg_cmp
  constructor
  · intro h
    split at h
    · exact absurd h (by decide)
    · split at h
      · assumption
      · exact absurd h (by decide)
  · intro h
    subst h
    rw [if_neg Int64.lt_irrefl, if_pos rfl]
theorem ar_0 {X Y : Nat → Int32} {i j k : Nat} (hx : ∀ q, q = i ∨ q = j ∨ q = k → pn_P (X q) ∧ pn_P (Y q)) : lg_cmp (al_64 X Y i j k) 0 = 0 ↔ ar_F X Y i j k = 0 := by
  rw [lg_eq, ← Int64.toInt_inj, ← Int32.toInt_inj, ar_64 hx, ar_32 hx]
  rfl
theorem ar_l {X Y : Nat → Int32} {i j k : Nat} (hx : ∀ q, q = i ∨ q = j ∨ q = k → pn_P (X q) ∧ pn_P (Y q)) : lg_cmp (al_64 X Y i j k) 0 ≤ 0 ↔ ar_F X Y i j k ≤ 0 := by
  rw [lg_cmp_le, Int64.le_iff_toInt_le, Int32.le_iff_toInt_le, ar_64 hx, ar_32 hx]
  rfl
/-! two bytes as a number -/
set_option maxRecDepth 100000 in
theorem s16_a : ((List.range 256).all fun b => decide ((nI b <<< ((8 : Int32) &&& 31)).toInt16.toInt32 = sb_F b <<< ((8 : Int32) &&& 31)) && decide ((nI b).toInt16.toInt32 = sb_F b &&& 255)) = true := by decide +kernel
theorem s16_x {b : Nat → Nat} {p : Nat} (h1 : b p < 256) (h2 : b (p + 1) < 256) : (sb_F (b p) <<< ((8 : Int32) &&& 31)) ||| (sb_F (b (p + 1)) &&& 255) = sx_F b p := by
  have t1 := pt_all s16_a h1
  have t2 := pt_all s16_a h2
  rw [Bool.and_eq_true] at t1 t2
  unfold sx_F
  rw [Int32.toInt16_or, Int16.toInt32_or, of_decide_eq_true t1.1, of_decide_eq_true t2.2]
theorem sx_b (b : Nat → Nat) (p : Nat) : -32768 ≤ (sx_F b p).toInt ∧ (sx_F b p).toInt < 32768 := by
  unfold sx_F
  rw [Int16.toInt_toInt32]
  generalize ((nI (b p) <<< ((8 : Int32) &&& 31)) ||| nI (b (p + 1))).toInt16 = y
  exact ⟨y.le_toInt, y.toInt_lt⟩
theorem ab_far {x : Int32} (h1 : -32768 ≤ x.toInt) (h2 : x.toInt < 32768) : 10000 < ab_F x ↔ ¬ pn_P x := by
  unfold ab_F pn_P
  have e : (10000 : Int32).toInt = 10000 := rfl
  have e0 : (0 : Int32).toInt = 0 := rfl
  by_cases c : 0 ≤ x
  · have c' := Int32.le_iff_toInt_le.mp c
    rw [if_pos c, Int32.lt_iff_toInt_lt]
    omega
  · have c' : ¬ (0 : Int32).toInt ≤ x.toInt := fun z => c (Int32.le_iff_toInt_le.mpr z)
    rw [if_neg c, Int32.lt_iff_toInt_lt, Int32.toInt_neg, bm_32 (by omega) (by omega)]
    omega
theorem lg_far {x : Int32} : (lg_cmp x.toInt64 (-10000) < 0 ∨ 0 < lg_cmp x.toInt64 10000) ↔ ¬ pn_P x := by
  have e1 : (-10000 : Int64).toInt = -10000 := rfl
  have e2 : (10000 : Int64).toInt = 10000 := rfl
  rw [lg_cmp_lt, lg_cmp_gt, Int64.lt_iff_toInt_lt, Int64.lt_iff_toInt_lt, Int32.toInt_toInt64]
  unfold pn_P
  omega
