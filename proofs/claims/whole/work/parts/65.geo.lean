/-! LAWFUL TABLES: four and five points in whatever order -/
set_option maxRecDepth 100000 in
theorem pn_tab : ((List.range 1024).all fun m => !(decide (pc_F m = 4) || decide (pc_F m = 5)) || (((List.range 10).all fun p => !m.testBit p || (decide (ct_N (fun k => m.testBit k) p < pc_F m) && decide (pn_F m (ct_N (fun k => m.testBit k) p) = p))) && (((List.range (pc_F m)).all fun i => m.testBit (pn_F m i)) && (decide (pn_F m 0 < pn_F m 1) && (decide (pn_F m 1 < pn_F m 2) && (decide (pn_F m 2 < pn_F m 3) && (decide (pc_F m = 4) || decide (pn_F m 3 < pn_F m 4)))))))) = true := by decide +kernel
set_option maxRecDepth 100000 in
theorem ix_tab : ((List.range 5).all fun a => (List.range 5).all fun b => (List.range 5).all fun c => (List.range 5).all fun d => (List.range 5).all fun e => decide (a = b) || (decide (a = c) || (decide (a = d) || (decide (a = e) || (decide (b = c) || (decide (b = d) || (decide (b = e) || (decide (c = d) || (decide (c = e) || (decide (d = e) || decide (10 - a - b - c - d = e))))))))))) = true := by decide +kernel
theorem ix_5 {a b c d e : Nat} (ha : a < 5) (hb : b < 5) (hc : c < 5) (hd : d < 5) (he : e < 5) (h1 : a ≠ b) (h2 : a ≠ c) (h3 : a ≠ d) (h4 : a ≠ e) (h5 : b ≠ c) (h6 : b ≠ d) (h7 : b ≠ e) (h8 : c ≠ d) (h9 : c ≠ e) (h10 : d ≠ e) : 10 - a - b - c - d = e := by
  have t := pt_all (pt_all (pt_all (pt_all (pt_all ix_tab ha) hb) hc) hd) he
  rw [decide_eq_false h1, decide_eq_false h2, decide_eq_false h3, decide_eq_false h4, decide_eq_false h5, decide_eq_false h6, decide_eq_false h7, decide_eq_false h8, decide_eq_false h9, decide_eq_false h10] at t
  simpa using t
theorem pn_ok {m : Nat} (hm : m < 1024) (hc : pc_F m = 4 ∨ pc_F m = 5) : (∀ p, m.testBit p = true → ∃ i, i < pc_F m ∧ pn_F m i = p) ∧ (∀ i, i < pc_F m → m.testBit (pn_F m i) = true) ∧ pn_F m 0 < pn_F m 1 ∧ pn_F m 1 < pn_F m 2 ∧ pn_F m 2 < pn_F m 3 ∧ (pc_F m = 5 → pn_F m 3 < pn_F m 4) := by
  have t := pt_all pn_tab hm
  have hc' : (decide (pc_F m = 4) || decide (pc_F m = 5)) = true := by
    rw [Bool.or_eq_true, decide_eq_true_eq, decide_eq_true_eq]
    exact hc
  rw [hc', Bool.not_true, Bool.false_or] at t
  simp only [Bool.and_eq_true, decide_eq_true_eq, Bool.or_eq_true] at t
  obtain ⟨t1, t2, t3, t4, t5, t6⟩ := t
  refine ⟨fun p hp => ?_, fun i hi => pt_all t2 hi, t3, t4, t5, fun h5 => t6.resolve_left (by omega)⟩
  have hp10 : p < 10 := tb_lt (n := 10) hm hp
  have t7 := pt_all t1 hp10
  rw [hp, Bool.not_true, Bool.false_or, Bool.and_eq_true, decide_eq_true_eq, decide_eq_true_eq] at t7
  exact ⟨_, t7.1, t7.2⟩
theorem pc_or {m p : Nat} (hm : m < 1024) (hp : p < 10) (hb : m.testBit p = false) : pc_F (m ||| 2 ^ p) = pc_F m + 1 := by
  have h := of_decide_eq_true (pt_all (pt_all pc_add hm) hp)
  rw [hb] at h
  exact h
theorem b_or {m p x : Nat} : (m ||| 2 ^ p).testBit x = (m.testBit x || decide (p = x)) := by rw [Nat.testBit_or, Nat.testBit_two_pow]
/-- any four, any five points, by rising ones -/
theorem so_4 {n a b c d : Nat} (hn : n ≤ 10) (ha : a < n) (hb : b < n) (hc : c < n) (hd : d < n) (h1 : a ≠ b) (h2 : a ≠ c) (h3 : a ≠ d) (h4 : b ≠ c) (h5 : b ≠ d) (h6 : c ≠ d) : ∃ g : Nat → Nat, (∀ q, q < 4 → g q < n) ∧ g 0 < g 1 ∧ g 1 < g 2 ∧ g 2 < g 3 ∧ ∃ i j k l, i < 4 ∧ j < 4 ∧ k < 4 ∧ l < 4 ∧ g i = a ∧ g j = b ∧ g k = c ∧ g l = d := by
  have p : ∀ x, x < n → 2 ^ x < 2 ^ n := fun x hx => Nat.pow_lt_pow_right (by decide) hx
  have l1 : 2 ^ a < 2 ^ n := p a ha
  have l2 := Nat.or_lt_two_pow l1 (p b hb)
  have l3 := Nat.or_lt_two_pow l2 (p c hc)
  have l4 := Nat.or_lt_two_pow l3 (p d hd)
  have h2n := pb_p2 hn
  have c1 : pc_F (2 ^ a) = 1 := by
    have e := pc_or (m := 0) (p := a) (by decide) (by omega) (Nat.zero_testBit a)
    rw [Nat.zero_or] at e
    exact e
  have b1 : ∀ x, (2 ^ a).testBit x = decide (a = x) := fun x => by rw [Nat.testBit_two_pow]
  have c2 : pc_F (2 ^ a ||| 2 ^ b) = 2 := by rw [pc_or (by omega) (by omega) (by rw [b1]; exact decide_eq_false h1), c1]
  have c3 : pc_F (2 ^ a ||| 2 ^ b ||| 2 ^ c) = 3 := by rw [pc_or (by omega) (by omega) (by rw [b_or, b1, decide_eq_false h2, decide_eq_false h4]; rfl), c2]
  have c4 : pc_F (2 ^ a ||| 2 ^ b ||| 2 ^ c ||| 2 ^ d) = 4 := by rw [pc_or (by omega) (by omega) (by rw [b_or, b_or, b1, decide_eq_false h3, decide_eq_false h5, decide_eq_false h6]; rfl), c3]
  obtain ⟨q1, q2, q3, q4, q5, -⟩ := pn_ok (m := 2 ^ a ||| 2 ^ b ||| 2 ^ c ||| 2 ^ d) (by omega) (Or.inl c4)
  rw [c4] at q1 q2
  obtain ⟨i, i1, i2⟩ := q1 a (by rw [b_or, b_or, b_or, b1]; simp)
  obtain ⟨j, j1, j2⟩ := q1 b (by rw [b_or, b_or, b_or, b1]; simp)
  obtain ⟨k, k1, k2⟩ := q1 c (by rw [b_or, b_or, b_or, b1]; simp)
  obtain ⟨l, m1, m2⟩ := q1 d (by rw [b_or, b_or, b_or, b1]; simp)
  exact ⟨pn_F _, fun q hq => tb_lt l4 (q2 q hq), q3, q4, q5, i, j, k, l, i1, j1, k1, m1, i2, j2, k2, m2⟩
theorem so_5 {n a b c d e : Nat} (hn : n ≤ 10) (ha : a < n) (hb : b < n) (hc : c < n) (hd : d < n) (he : e < n) (h1 : a ≠ b) (h2 : a ≠ c) (h3 : a ≠ d) (h7 : a ≠ e) (h4 : b ≠ c) (h5 : b ≠ d) (h8 : b ≠ e) (h6 : c ≠ d) (h9 : c ≠ e) (h10 : d ≠ e) : ∃ g : Nat → Nat, (∀ q, q < 5 → g q < n) ∧ g 0 < g 1 ∧ g 1 < g 2 ∧ g 2 < g 3 ∧ g 3 < g 4 ∧ ∃ i j k l r, i < 5 ∧ j < 5 ∧ k < 5 ∧ l < 5 ∧ r < 5 ∧ g i = a ∧ g j = b ∧ g k = c ∧ g l = d ∧ g r = e := by
  have p : ∀ x, x < n → 2 ^ x < 2 ^ n := fun x hx => Nat.pow_lt_pow_right (by decide) hx
  have l1 : 2 ^ a < 2 ^ n := p a ha
  have l2 := Nat.or_lt_two_pow l1 (p b hb)
  have l3 := Nat.or_lt_two_pow l2 (p c hc)
  have l4 := Nat.or_lt_two_pow l3 (p d hd)
  have l5 := Nat.or_lt_two_pow l4 (p e he)
  have h2n := pb_p2 hn
  have c1 : pc_F (2 ^ a) = 1 := by
    have e := pc_or (m := 0) (p := a) (by decide) (by omega) (Nat.zero_testBit a)
    rw [Nat.zero_or] at e
    exact e
  have b1 : ∀ x, (2 ^ a).testBit x = decide (a = x) := fun x => by rw [Nat.testBit_two_pow]
  have c2 : pc_F (2 ^ a ||| 2 ^ b) = 2 := by rw [pc_or (by omega) (by omega) (by rw [b1]; exact decide_eq_false h1), c1]
  have c3 : pc_F (2 ^ a ||| 2 ^ b ||| 2 ^ c) = 3 := by rw [pc_or (by omega) (by omega) (by rw [b_or, b1, decide_eq_false h2, decide_eq_false h4]; rfl), c2]
  have c4 : pc_F (2 ^ a ||| 2 ^ b ||| 2 ^ c ||| 2 ^ d) = 4 := by rw [pc_or (by omega) (by omega) (by rw [b_or, b_or, b1, decide_eq_false h3, decide_eq_false h5, decide_eq_false h6]; rfl), c3]
  have c5 : pc_F (2 ^ a ||| 2 ^ b ||| 2 ^ c ||| 2 ^ d ||| 2 ^ e) = 5 := by rw [pc_or (by omega) (by omega) (by rw [b_or, b_or, b_or, b1, decide_eq_false h7, decide_eq_false h8, decide_eq_false h9, decide_eq_false h10]; rfl), c4]
  obtain ⟨q1, q2, q3, q4, q5, q6⟩ := pn_ok (m := 2 ^ a ||| 2 ^ b ||| 2 ^ c ||| 2 ^ d ||| 2 ^ e) (by omega) (Or.inr c5)
  have q6 := q6 c5
  rw [c5] at q1 q2
  obtain ⟨i, i1, i2⟩ := q1 a (by rw [b_or, b_or, b_or, b_or, b1]; simp)
  obtain ⟨j, j1, j2⟩ := q1 b (by rw [b_or, b_or, b_or, b_or, b1]; simp)
  obtain ⟨k, k1, k2⟩ := q1 c (by rw [b_or, b_or, b_or, b_or, b1]; simp)
  obtain ⟨l, m1, m2⟩ := q1 d (by rw [b_or, b_or, b_or, b_or, b1]; simp)
  obtain ⟨r, r1, r2⟩ := q1 e (by rw [b_or, b_or, b_or, b_or, b1]; simp)
  exact ⟨pn_F _, fun q hq => tb_lt l5 (q2 q hq), q3, q4, q5, q6, i, j, k, l, r, i1, j1, k1, m1, r1, i2, j2, k2, m2, r2⟩
/-- LAWFUL: n points, turns B each way round, no four and no five break the laws, in whatever order -/
def lw_P (n : Nat) (B : Nat → Nat → Nat → Bool) : Prop := n ≤ 10 ∧ sy_P n B ∧ (∀ a b c d, a < n → b < n → c < n → d < n → a ≠ b → a ≠ c → a ≠ d → b ≠ c → b ≠ d → c ≠ d → q4_F B a b c d = false) ∧ ∀ a b c d e, a < n → b < n → c < n → d < n → e < n → a ≠ b → a ≠ c → a ≠ d → a ≠ e → b ≠ c → b ≠ d → b ≠ e → c ≠ d → c ≠ e → d ≠ e → os_F B a b c d e = false
theorem wy_none {n : Nat} {B : Nat → Nat → Nat → Bool} (hn : n ≤ 10) (h : wy_F n B = 0) : f4_F n B = none ∧ f5_F n B = none := by
  unfold wy_F w4_F w5_F at h
  cases h4 : f4_F n B with
  | some v =>
    have := (f4_ok hn h4).2
    rw [h4] at h
    have e : (some v).getD 0 = v := rfl
    rw [e, if_neg this] at h
    exact absurd h this
  | none =>
    rw [h4] at h
    have e : (none : Option Nat).getD 0 = 0 := rfl
    rw [e, if_pos rfl] at h
    cases h5 : f5_F n B with
    | some v =>
      have := (f5_ok hn h5).2
      rw [h5] at h
      exact absurd h this
    | none => exact ⟨rfl, rfl⟩
theorem b4_up {n a b c d : Nat} {B : Nat → Nat → Nat → Bool} (h : f4_F n B = none) (h1 : a < b) (h2 : b < c) (h3 : c < d) (h4 : d < n) : b4_F B a b c d = false := by
  have e := fs_none.mp (fs_none.mp (fs_none.mp (fs_none.mp h a (by omega) (by omega)) b (by omega) (by omega)) c (by omega) (by omega)) d (by omega) (by omega)
  cases c : b4_F B a b c d
  · rfl
  · rw [c] at e
    cases e
theorem b5_up {n a b c d f : Nat} {B : Nat → Nat → Nat → Bool} (h : f5_F n B = none) (h1 : a < b) (h2 : b < c) (h3 : c < d) (h4 : d < f) (h5 : f < n) : b5_F B a b c d f = false := by
  have e := fs_none.mp (fs_none.mp (fs_none.mp (fs_none.mp (fs_none.mp h a (by omega) (by omega)) b (by omega) (by omega)) c (by omega) (by omega)) d (by omega) (by omega)) f (by omega) (by omega)
  cases c : b5_F B a b c d f
  · rfl
  · rw [c] at e
    cases e
theorem up_inj {w : Nat} {g : Nat → Nat} (h : ∀ i, i + 1 < w → g i < g (i + 1)) {p q : Nat} (hp : p < w) (hq : q < w) (he : g p = g q) : p = q := by
  have mono : ∀ d p, p + d + 1 < w → g p < g (p + d + 1) := by
    intro d
    induction d with
    | zero => exact fun p hp => h p hp
    | succ d ih => exact fun p hp => Nat.lt_trans (ih p (by omega)) (h (p + d + 1) (by omega))
  rcases Nat.lt_trichotomy p q with z | z | z
  · have := mono (q - p - 1) p (by omega)
    rw [show p + (q - p - 1) + 1 = q by omega] at this
    omega
  · exact z
  · have := mono (p - q - 1) q (by omega)
    rw [show q + (p - q - 1) + 1 = p by omega] at this
    omega
theorem bs_no {w : Nat} {Q : Nat → Nat → Nat → Nat → Bool} (h : (bs_F w Q).isSome = false) {a b c d : Nat} (ha : a < w) (hb : b < w) (hc : c < w) (hd : d < w) (h1 : a ≠ b) (h2 : b ≠ c) (h3 : a ≠ c) (h4 : d ≠ a) (h5 : d ≠ b) (h6 : d ≠ c) : Q a b c d = false := by
  have h0 : bs_F w Q = none := by
    cases c : bs_F w Q with
    | none => rfl
    | some v => rw [c] at h; cases h
  have e := fs_none.mp (fs_none.mp (fs_none.mp h0 a (by omega) (by omega)) b (by omega) (by omega)) c (by omega) (by omega)
  rw [decide_eq_false h1, decide_eq_false h2, decide_eq_false h3] at e
  have e := fs_none.mp e d (by omega) (by omega)
  rw [decide_eq_false h4, decide_eq_false h5, decide_eq_false h6] at e
  cases c : Q a b c d
  · rfl
  · rw [c] at e
    cases e
theorem lw_of {n : Nat} {B : Nat → Nat → Nat → Bool} (hn : n ≤ 10) (hs : sy_P n B) (h : wy_F n B = 0) : lw_P n B := by
  obtain ⟨h4, h5⟩ := wy_none hn h
  refine ⟨hn, hs, fun a b c d ha hb hc hd n1 n2 n3 n4 n5 n6 => ?_, fun a b c d e ha hb hc hd he n1 n2 n3 n4 n5 n6 n7 n8 n9 n10 => ?_⟩
  · obtain ⟨g, gl, g0, g1, g2, i, j, k, l, hi, hj, hk, hl, rfl, rfl, rfl, rfl⟩ := so_4 hn ha hb hc hd n1 n2 n3 n4 n5 n6
    have inj : ∀ p q, p < 4 → q < 4 → g p = g q → p = q := fun p q hp hq => up_inj (w := 4) (fun i hi => by
      match i, hi with
      | 0, _ => exact g0
      | 1, _ => exact g1
      | 2, _ => exact g2) hp hq
    have t := bs_4 hs gl inj
    rw [b4_up h4 g0 g1 g2 (gl 3 (by decide))] at t
    exact bs_no t hi hj hk hl (fun z => n1 (by rw [z])) (fun z => n4 (by rw [z])) (fun z => n2 (by rw [z])) (fun z => n3 (by rw [z])) (fun z => n5 (by rw [z])) (fun z => n6 (by rw [z]))
  · obtain ⟨g, gl, g0, g1, g2, g3, i, j, k, l, r, hi, hj, hk, hl, hr, rfl, rfl, rfl, rfl, rfl⟩ := so_5 hn ha hb hc hd he n1 n2 n3 n4 n5 n6 n7 n8 n9 n10
    have inj : ∀ p q, p < 5 → q < 5 → g p = g q → p = q := fun p q hp hq => up_inj (w := 5) (fun i hi => by
      match i, hi with
      | 0, _ => exact g0
      | 1, _ => exact g1
      | 2, _ => exact g2
      | 3, _ => exact g3) hp hq
    have t := bs_5 hs gl inj
    rw [b5_up h5 g0 g1 g2 g3 (gl 4 (by decide))] at t
    have e := bs_no t hi hj hk hl (fun z => n1 (by rw [z])) (fun z => n5 (by rw [z])) (fun z => n2 (by rw [z])) (fun z => n3 (by rw [z])) (fun z => n6 (by rw [z])) (fun z => n8 (by rw [z]))
    rw [ix_5 hi hj hk hl hr (fun z => n1 (by rw [z])) (fun z => n2 (by rw [z])) (fun z => n3 (by rw [z])) (fun z => n4 (by rw [z])) (fun z => n5 (by rw [z])) (fun z => n6 (by rw [z])) (fun z => n7 (by rw [z])) (fun z => n8 (by rw [z])) (fun z => n9 (by rw [z])) (fun z => n10 (by rw [z]))] at e
    exact e
