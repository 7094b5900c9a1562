/-! sets of points as bits; tables of turns as functions of rising threes -/
def pb_s : Nat → (Nat → Bool) → Nat
  | 0, _ => 0
  | n + 1, p => pb_s n p + if p n then 2 ^ n else 0
theorem pb_lt (p : Nat → Bool) : ∀ n, pb_s n p < 2 ^ n
  | 0 => Nat.one_pos
  | n + 1 => by
    have := pb_lt p n
    unfold pb_s
    rw [Nat.pow_succ]
    split <;> omega
theorem pb_bit (p : Nat → Bool) : ∀ n k, (pb_s n p).testBit k = (decide (k < n) && p k)
  | 0, k => by simp [pb_s]
  | n + 1, k => by
    have ih := pb_bit p n
    have hlt := pb_lt p n
    unfold pb_s
    by_cases hp : p n = true
    · rw [if_pos hp, Nat.add_comm]
      by_cases hk : k = n
      · subst hk
        rw [Nat.testBit_two_pow_add_eq, ih]
        simp [hp]
      · rcases Nat.lt_or_ge k n with h | h
        · rw [Nat.testBit_two_pow_add_gt h, ih]
          simp [h, Nat.lt_succ_of_lt h]
        · have h2 : 2 ^ n + pb_s n p < 2 ^ k := by
            have : 2 ^ (n + 1) ≤ 2 ^ k := Nat.pow_le_pow_right (by decide) (by omega)
            rw [Nat.pow_succ] at this
            omega
          rw [Nat.testBit_lt_two_pow h2]
          have : ¬ k < n + 1 := by omega
          simp [this]
    · rw [if_neg hp, Nat.add_zero, ih]
      by_cases hk : k = n
      · subst hk
        have : p k = false := by simpa using hp
        simp [this]
      · have : (k < n + 1) ↔ k < n := by omega
        simp [this]
theorem pb_ext {a b n : Nat} (ha : a < 2 ^ n) (hb : b < 2 ^ n) (h : ∀ k, k < n → a.testBit k = b.testBit k) : a = b := by
  apply Nat.eq_of_testBit_eq
  intro k
  rcases Nat.lt_or_ge k n with hk | hk
  · exact h k hk
  · have h1 : 2 ^ n ≤ 2 ^ k := Nat.pow_le_pow_right (by decide) hk
    rw [Nat.testBit_lt_two_pow (by omega), Nat.testBit_lt_two_pow (by omega)]
theorem pb_cong {p q : Nat → Bool} {n : Nat} (h : ∀ k, k < n → p k = q k) : pb_s n p = pb_s n q := by
  apply pb_ext (pb_lt p n) (pb_lt q n)
  intro k hk
  rw [pb_bit, pb_bit, h k hk]
/-- a table out of its rising threes -/
def pb_x (s : Nat → Nat → Nat → Bool) (i j k : Nat) : Bool :=
  if i < j then (if j < k then s i j k else if i < k then !s i k j else s k i j)
  else (if i < k then !s j i k else if j < k then s j k i else !s k j i)
theorem pb_x_up (s : Nat → Nat → Nat → Bool) {i j k : Nat} (h : i < j) (h2 : j < k) : pb_x s i j k = s i j k := by simp [pb_x, h, h2]
theorem pb_x_cyc (s : Nat → Nat → Nat → Bool) {i j k : Nat} (h1 : i ≠ j) (h2 : j ≠ k) (h3 : i ≠ k) : pb_x s j k i = pb_x s i j k := by
  unfold pb_x
  rcases Nat.lt_or_gt_of_ne h1 with a | a <;> rcases Nat.lt_or_gt_of_ne h2 with b | b <;> rcases Nat.lt_or_gt_of_ne h3 with c | c <;>
    simp only [a, b, c, Nat.lt_asymm a, Nat.lt_asymm b, Nat.lt_asymm c, if_true, if_false] <;> (exfalso; omega)
theorem pb_x_swap (s : Nat → Nat → Nat → Bool) {i j k : Nat} (h1 : i ≠ j) (h2 : j ≠ k) (h3 : i ≠ k) : pb_x s j i k = !pb_x s i j k := by
  unfold pb_x
  rcases Nat.lt_or_gt_of_ne h1 with a | a <;> rcases Nat.lt_or_gt_of_ne h2 with b | b <;> rcases Nat.lt_or_gt_of_ne h3 with c | c <;>
    simp only [a, b, c, Nat.lt_asymm a, Nat.lt_asymm b, Nat.lt_asymm c, if_true, if_false, Bool.not_not] <;> (exfalso; omega)
/-- three points of n -/
def pb_g (n i j k : Nat) : Bool := decide (i < n) && (decide (j < n) && (decide (k < n) && (decide (i ≠ j) && (decide (j ≠ k) && decide (i ≠ k)))))
theorem pb_g_iff {n i j k : Nat} : pb_g n i j k = true ↔ i < n ∧ j < n ∧ k < n ∧ i ≠ j ∧ j ≠ k ∧ i ≠ k := by simp [pb_g]
/-- the points to the left of the line from i to j, as bits -/
def pb_m (n : Nat) (T : Nat → Nat → Nat → Bool) (i j : Nat) : Nat := pb_s 10 fun k => pb_g n i j k && T i j k
theorem pb_m_lt (n : Nat) (T : Nat → Nat → Nat → Bool) (i j : Nat) : pb_m n T i j < 1024 := pb_lt _ 10
theorem pb_m_bit {n : Nat} {T : Nat → Nat → Nat → Bool} {i j k : Nat} (hk : k < 10) : (pb_m n T i j).testBit k = (pb_g n i j k && T i j k) := by
  unfold pb_m
  rw [pb_bit]
  simp [hk]
theorem pb_p2 {n : Nat} (h : n ≤ 10) : 2 ^ n ≤ 1024 := by
  have : 2 ^ n ≤ 2 ^ 10 := Nat.pow_le_pow_right (by decide) h
  exact this
theorem pt_in_iff {a N : Nat} (ha : a < 2 ^ 31) : pt_in (nI a) N ↔ a < N := by
  unfold pt_in
  rw [nI_toInt ha]
  omega
theorem pt_lt0 {a : Nat} (ha : a < 2 ^ 31) : nI a < 0 ↔ False := ⟨nI_pos ha, False.elim⟩
theorem pt_ge0 {a : Nat} (ha : a < 2 ^ 31) : (0 : Int32) ≤ nI a ↔ True := ⟨fun _ => trivial, fun _ => nI_pos' ha⟩
/-- the rows of bits of the class's table t -/
def ct_B (M : pt_M) (t : Nat) (B : Nat → Nat → Nat → Bool) : Prop := ∀ i j, i < 10 → j < 10 → pt_A M 11 t (10 * i + j) = nI (pb_s 10 fun k => B i j k)
/-- THE CLASS'S TABLE t: n points, the rising threes s -/
def ct_T (M : pt_M) (t n : Nat) (s : Nat → Nat → Nat → Bool) : Prop := pt_F M 3 0 t = nI n ∧ ct_B M t fun i j k => pb_g n i j k && pb_x s i j k
/-! what the small methods say -/
def sl_P (x : Int32) : Prop := ¬ x < 0 ∧ ¬ 6 ≤ x
def sz_P (x : Int32) : Prop := ¬ x < 3 ∧ ¬ 10 < x
def to_F (x : Int32) : Int32 := ((x * (x - 1)) * (x - 2)) / 6
def so_F (x : Int32) : Int32 := (x * (x - 1)) / 2
def hp_P (M : pt_M) (t : Nat) (x : Int32) : Prop := ¬ x < 0 ∧ ¬ (pt_F M 3 0 t) ≤ x
def ht_P (M : pt_M) (t : Nat) (i j k : Int32) : Prop := hp_P M t i ∧ hp_P M t j ∧ hp_P M t k ∧ ¬ i = j ∧ ¬ j = k ∧ ¬ k = i
def in_P (s p : Int32) : Prop := ((s >>> (p &&& 31)) &&& 1) = 1
def ix_F (i j : Int32) : Int32 := (i * 10) + j
def lf_P (M : pt_M) (t : Nat) (i j k : Int32) : Prop := (((pt_A M 11 t (pt_nt ((i * 10) + j))) >>> (k &&& 31)) &&& 1) = 1
def lo_F (M : pt_M) (t : Nat) (i j : Int32) : Int32 := pt_A M 11 t (pt_nt ((i * 10) + j))
def ep_F (M : pt_M) (t : Nat) : Int32 := ((1 : Int32) <<< ((pt_F M 3 0 t) &&& 31)) - 1
def fg_F (M : pt_M) (t : Nat) : pt_M := pt_wF (pt_wF M 3 2 t (-2)) 3 3 t 0
def bc_1 (x : Int32) : Int32 := x - (((x.toUInt32 >>> ((1 : Int32).toUInt32 &&& Int32.toUInt32 31)).toInt32) &&& 1431655765)
def bc_2 (x : Int32) : Int32 := (x &&& 858993459) + (((x.toUInt32 >>> ((2 : Int32).toUInt32 &&& Int32.toUInt32 31)).toInt32) &&& 858993459)
def bc_3 (x : Int32) : Int32 := (x + ((x.toUInt32 >>> ((4 : Int32).toUInt32 &&& Int32.toUInt32 31)).toInt32)) &&& 252645135
def bc_4 (x : Int32) : Int32 := x + ((x.toUInt32 >>> ((8 : Int32).toUInt32 &&& Int32.toUInt32 31)).toInt32)
def bc_5 (x : Int32) : Int32 := (x + ((x.toUInt32 >>> ((16 : Int32).toUInt32 &&& Int32.toUInt32 31)).toInt32)) &&& 63
def bc_F (x : Int32) : Int32 := bc_5 (bc_4 (bc_3 (bc_2 (bc_1 x))))
def cp_F (x y : Int32) : Int32 := if x < y then -1 else if x = y then 0 else 1
def ab_F (x : Int32) : Int32 := if 0 ≤ x then x else -x
def mi_F (x y : Int32) : Int32 := if y < x then y else x
/-- one row's bit is set or taken away -/
def po_F (M : pt_M) (t : Nat) (i j k b : Int32) : pt_M := pt_wA M 11 t (upd (pt_A M 11 t) (pt_nt ((i * 10) + j)) (if b = 0 then pt_A M 11 t (pt_nt ((i * 10) + j)) &&& (((1 : Int32) <<< (k &&& 31)) ^^^ (-1)) else pt_A M 11 t (pt_nt ((i * 10) + j)) ||| ((1 : Int32) <<< (k &&& 31))))

theorem pt_Go.toM {Y : pt_Y} {σ : pt_S} {pc : Nat} {L : List (Nat × pt_V)} {st : List pt_V} {M M' : pt_M} (h : pt_Go Y σ (pc, L, st, M)) (e : M = M') : pt_Go Y σ (pc, L, st, M') := e ▸ h
theorem pt_Go.toS {Y : pt_Y} {σ : pt_S} {pc : Nat} {L : List (Nat × pt_V)} {st st' : List pt_V} {M M' : pt_M} (h : pt_Go Y σ (pc, L, st, M)) (e : st = st') (e2 : M = M') : pt_Go Y σ (pc, L, st', M') := e ▸ e2 ▸ h
