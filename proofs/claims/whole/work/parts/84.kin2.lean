/-! what the evaluation says -/
theorem kq_lx {f w : Nat × Nat × Nat → Bool} {d : Nat × Nat × Nat} : ∀ {L : List (Nat × Nat × Nat)}, kq_lex f w L = true ↔ lx_P (fun p => if f (L.getD p d) then 1 else 2) (fun p => if w (L.getD p d) then 1 else 2) L.length
  | [] => ⟨fun z => (by cases z), fun ⟨_, h, _⟩ => absurd h (Nat.not_lt_zero _)⟩
  | t :: l => by
    have ih := kq_lx (f := f) (w := w) (d := d) (L := l)
    have e : kq_lex f w (t :: l) = if f t == w t then kq_lex f w l else f t := rfl
    rw [e]
    by_cases c : f t = w t
    · rw [if_pos (by rw [c]; exact beq_self_eq_true _), ih]
      constructor
      · rintro ⟨v, v1, v2, v3⟩
        refine ⟨v + 1, Nat.succ_lt_succ v1, fun q hq => ?_, v3⟩
        cases q with
        | zero =>
          show (if f t then (1 : Int32) else 2) = if w t then 1 else 2
          rw [c]
        | succ q => exact v2 q (by omega)
      · rintro ⟨v, v1, v2, v3⟩
        cases v with
        | zero =>
          have : (if f t then (1 : Int32) else 2) < if w t then 1 else 2 := v3
          rw [c] at this
          exact absurd this fun z => Int32.lt_irrefl z
        | succ v => exact ⟨v, Nat.lt_of_succ_lt_succ v1, fun q hq => v2 (q + 1) (by omega), v3⟩
    · rw [if_neg (fun z => c (eq_of_beq z))]
      constructor
      · intro z
        refine ⟨0, Nat.succ_pos _, fun q hq => absurd hq (Nat.not_lt_zero _), ?_⟩
        show (if f t then (1 : Int32) else 2) < if w t then 1 else 2
        rw [z] at c
        rw [z, if_pos rfl, if_neg (fun y => c y.symm)]
        decide
      · rintro ⟨v, v1, v2, v3⟩
        cases v with
        | zero =>
          have y : (if f t then (1 : Int32) else 2) < if w t then 1 else 2 := v3
          revert y c
          cases f t <;> cases w t <;> decide
        | succ v =>
          have y : (if f t then (1 : Int32) else 2) = if w t then 1 else 2 := v2 0 (by omega)
          revert y c
          cases f t <;> cases w t <;> decide
theorem kq_rm {n r : Nat} {B : Nat → Nat → Nat → Bool} (hr : r < n) : kq_rim n B r = true ↔ rm_P n B r := by
  unfold kq_rim rm_P
  rw [List.any_eq_true]
  constructor
  · rintro ⟨j, hj, h⟩
    rw [Bool.and_eq_true, List.all_eq_true] at h
    refine ⟨hr, j, List.mem_range.mp hj, fun z => ?_, fun z hz z1 z2 => ?_⟩
    · rw [z] at h
      exact absurd h.1 (by simp)
    · have := h.2 z (List.mem_range.mpr hz)
      rw [Bool.or_eq_true, Bool.or_eq_true] at this
      rcases this with y | y | y
      · exact absurd (eq_of_beq y) z1
      · exact absurd (eq_of_beq y) z2
      · exact y
  · rintro ⟨-, j, hj, jr, h⟩
    refine ⟨j, List.mem_range.mpr hj, ?_⟩
    rw [Bool.and_eq_true, List.all_eq_true]
    refine ⟨bne_iff_ne.mpr jr, fun z hz => ?_⟩
    rw [Bool.or_eq_true, Bool.or_eq_true]
    by_cases z1 : z = r
    · exact .inl (beq_iff_eq.mpr z1)
    · by_cases z2 : z = j
      · exact .inr (.inl (beq_iff_eq.mpr z2))
      · exact .inr (.inr (h z (List.mem_range.mp hz) z1 z2))
theorem kq_gz {n r a : Nat} {B : Nat → Nat → Nat → Bool} (h : lw_P n B) (hd : dg_P n B) (h3 : 3 ≤ n) (hr : rm_P n B r) (ha : a < n) : kq_nam n B r a = gz_F n B r false a := by
  have g1 := (gz_all h hd h3 hr false a ha).1
  have g2 := gz_q h hd h3 hr ha
  unfold kq_nam
  cases e : (List.range n).find? fun x => pz_F n B r x == a with
  | none =>
    have := List.find?_eq_none.mp e (gz_F n B r false a) (List.mem_range.mpr g1)
    rw [g2] at this
    exact absurd (beq_self_eq_true a) this
  | some x =>
    have x1 := List.mem_range.mp (List.mem_of_find?_eq_some e)
    have x2 : (pz_F n B r x == a) = true := List.find?_some (p := fun x => pz_F n B r x == a) e
    have x2 := eq_of_beq x2
    have := (gz_p h hd h3 hr x1).2
    rw [x2] at this
    exact this.symm
theorem rw_cg {n : Nat} {B : Nat → Nat → Nat → Bool} {g g' : Nat → Nat} {mr : Bool} (hn : n ≤ 10) (h : ∀ a, a < n → g a = g' a) : ∀ p, p < rk_0 n n → rw_F n B g mr p = rw_F n B g' mr p := fun p hp => by
  obtain ⟨i, j, k, h1, h2, h3, h4, -⟩ := tr_of hn hp
  rw [← h4, rw_at hn h1 h2 h3, rw_at hn h1 h2 h3, h i (by omega), h j (by omega), h k h3]
theorem tl_n {n : Nat} (hn : n ≤ 10) : (tl_F n).length = rk_0 n n := by
  have h := pt_all tr_tab (i := n) (by omega)
  rw [Bool.and_eq_true, Bool.and_eq_true] at h
  exact of_decide_eq_true h.1.1
theorem kq_ah {n : Nat} {B C : Nat → Nat → Nat → Bool} (h : lw_P n C) (hd : dg_P n C) (h3 : 3 ≤ n) : kq_ahd n (tl_F n) B C = true ↔ ∃ r, rm_P n C r ∧ lx_P (rw_F n C (gz_F n C r false) false) (rw_F n B (fun a => a) false) (rk_0 n n) := by
  have hn := h.1
  have ev : ∀ (D : Nat → Nat → Nat → Bool) (g : Nat → Nat), (fun p => if D (g ((tl_F n).getD p (0, 0, 0)).1) (g ((tl_F n).getD p (0, 0, 0)).2.1) (g ((tl_F n).getD p (0, 0, 0)).2.2) then (1 : Int32) else 2) = rw_F n D g false := fun D g => by
    funext p
    unfold rw_F tr_F
    cases D (g ((tl_F n).getD p (0, 0, 0)).1) (g ((tl_F n).getD p (0, 0, 0)).2.1) (g ((tl_F n).getD p (0, 0, 0)).2.2) <;> rfl
  have key : ∀ r, rm_P n C r → (kq_lex (fun t => C (kq_nam n C r t.1) (kq_nam n C r t.2.1) (kq_nam n C r t.2.2)) (fun t => B t.1 t.2.1 t.2.2) (tl_F n) = true ↔ lx_P (rw_F n C (gz_F n C r false) false) (rw_F n B (fun a => a) false) (rk_0 n n)) := fun r hr => by
    rw [kq_lx (d := (0, 0, 0)), tl_n hn, ev C (kq_nam n C r), ev B fun a => a]
    have c := rw_cg (B := C) (mr := false) hn fun a ha => kq_gz h hd h3 hr ha
    exact ⟨lx_cg c fun _ _ => rfl, lx_cg (fun p hp => (c p hp).symm) fun _ _ => rfl⟩
  unfold kq_ahd
  rw [List.any_eq_true]
  constructor
  · rintro ⟨r, hr, z⟩
    rw [Bool.and_eq_true] at z
    have := (kq_rm (List.mem_range.mp hr)).mp z.1
    exact ⟨r, this, (key r this).mp z.2⟩
  · rintro ⟨r, hr, z⟩
    refine ⟨r, List.mem_range.mpr hr.1, ?_⟩
    rw [Bool.and_eq_true]
    exact ⟨(kq_rm hr.1).mpr hr, (key r hr).mpr z⟩
theorem mc_lx {f w : Nat → Int32} {N : Nat} (hf : ∀ p, p < N → f p = 1 ∨ f p = 2) (hw : ∀ p, p < N → w p = 1 ∨ w p = 2) : mc_F f w N < 0 ↔ lx_P f w N := by
  rcases mc_1 (f := f) (w := w) (N := N) with ⟨v, v1, v2, v3, v4⟩ | ⟨v3, v4⟩
  · rw [v4]
    rcases hf v v1 with a | a <;> rcases hw v v1 with b | b
    · exact absurd (a.trans b.symm) v2
    · exact ⟨fun _ => ⟨v, v1, v3, by rw [a, b]; decide⟩, fun _ => by rw [a, b]; decide⟩
    · refine ⟨fun z => ?_, fun z => ?_⟩
      · rw [a, b] at z
        exact absurd z (by decide)
      · have : lx_P w f N := ⟨v, v1, fun q hq => (v3 q hq).symm, by rw [a, b]; decide⟩
        exact absurd (lx_tr z this) lx_ir
    · exact absurd (a.trans b.symm) v2
  · rw [v4]
    refine ⟨fun z => absurd z (by decide), fun z => ?_⟩
    obtain ⟨v, v1, -, v2⟩ := z
    rw [v3 v v1] at v2
    exact absurd v2 fun z => Int32.lt_irrefl z
/-- the code is the first of all rows by a rim point, the table's own and its mirror's -/
theorem cd_min {n : Nat} {B : Nat → Nat → Nat → Bool} (h : lw_P n B) (hd : dg_P n B) (h3 : 3 ≤ n) : (∃ C, (C = B ∨ C = mb_F n B) ∧ ∃ r, rm_P n C r ∧ ∀ p, p < rk_0 n n → cd_F n B p = rw_F n C (gz_F n C r false) false p) ∧ ∀ C, (C = B ∨ C = mb_F n B) → ∀ r, rm_P n C r → ¬ lx_P (rw_F n C (gz_F n C r false) false) (cd_F n B) (rk_0 n n) := by
  obtain ⟨⟨a, a1, a2⟩, a3⟩ := fr_min h h3
  obtain ⟨⟨b, b1, b2⟩, b3⟩ := fr_min (lw_mb h) h3
  have f1 := fr_n (mr := false) h h3
  have f2 := fr_n (mr := false) (lw_mb h) h3
  unfold cd_F
  rw [fr_bm h hd h3]
  by_cases c' : mc_F (fr_R n (mb_F n B) false n) (fr_R n B false n) (rk_0 n n) < 0
  · have c := (mc_lx f2 f1).mp c'
    rw [if_pos c']
    refine ⟨⟨_, .inr rfl, b, b1, b2⟩, fun C hC r hr z => ?_⟩
    rcases hC with rfl | rfl
    · exact a3 r hr (lx_tr z c)
    · exact b3 r hr z
  · have c := fun z => c' ((mc_lx f2 f1).mpr z)
    rw [if_neg c']
    refine ⟨⟨_, .inl rfl, a, a1, a2⟩, fun C hC r hr z => ?_⟩
    rcases hC with rfl | rfl
    · exact a3 r hr z
    · refine c ?_
      by_cases y : lx_P (fr_R n (mb_F n B) false n) (rw_F n (mb_F n B) (gz_F n (mb_F n B) r false) false) (rk_0 n n)
      · exact lx_tr y z
      · exact lx_cg (fun p hp => (lx_to y (b3 r hr) p hp).symm) (fun _ _ => rfl) z
theorem kq_dg {n x : Nat} : dg_P n (kq_T n x) := fun _ _ _ h => nB_g h
/-- the check says which tables are their own first row -/
theorem kq_ok {n x : Nat} {K : List Nat} (hn : n ≤ 10) (h3 : 3 ≤ n) (h : kq_chk n (tl_F n) K x = true) : (wy_F n (kq_T n x) = 0 ∧ mc_F (rw_F n (kq_T n x) (fun a => a) false) (cd_F n (kq_T n x)) (rk_0 n n) = 0) ↔ K.contains x = true := by
  unfold kq_chk at h
  by_cases c : wy_F n (kq_T n x) = 0
  · rw [if_pos c, Bool.and_eq_true, Bool.and_eq_true] at h
    obtain ⟨e1, e2, e3⟩ := h
    have hw : lw_P n (kq_T n x) := lw_of hn nB_sy c
    have r0 := (kq_rm (show 0 < n by omega)).mp e1
    have id0 := rw_cg (B := kq_T n x) (g := gz_F n (kq_T n x) 0 false) (g' := fun a => a) (mr := false) hn fun a ha => by
      have y := (gz_p hw kq_dg h3 r0 ha).2
      rw [eq_of_beq (List.all_eq_true.mp e2 a (List.mem_range.mpr ha))] at y
      exact y
    obtain ⟨⟨C, hC, r, r1, r2⟩, hmin⟩ := cd_min hw kq_dg h3
    have e4 := eq_of_beq e3
    rw [← e4, Bool.and_eq_true, Bool.not_eq_true', Bool.not_eq_true', mc_0 (fun p _ => rw_12) (cd_12 hw h3)]
    have k1 := kq_ah (B := kq_T n x) hw kq_dg h3
    have k2 := kq_ah (B := kq_T n x) (lw_mb hw) mb_dg h3
    refine ⟨fun z => ⟨?_, ?_⟩, fun z => ⟨c, ?_⟩⟩
    · rw [Bool.eq_false_iff]
      intro y
      obtain ⟨q, q1, q2⟩ := k1.mp y
      exact hmin _ (.inl rfl) q q1 (lx_cg (fun _ _ => rfl) z.2 q2)
    · rw [Bool.eq_false_iff]
      intro y
      obtain ⟨q, q1, q2⟩ := k2.mp y
      exact hmin _ (.inr rfl) q q1 (lx_cg (fun _ _ => rfl) z.2 q2)
    · refine lx_to (fun y => hmin _ (.inl rfl) 0 r0 (lx_cg (fun p hp => (id0 p hp).symm) (fun _ _ => rfl) y)) fun y => ?_
      have y := lx_cg r2 (fun _ _ => rfl) y
      rcases hC with rfl | rfl
      · have := k1.mpr ⟨r, r1, y⟩
        rw [z.1] at this
        cases this
      · have := k2.mpr ⟨r, r1, y⟩
        rw [z.2] at this
        cases this
  · rw [if_neg c, Bool.not_eq_true'] at h
    rw [h]
    exact ⟨fun z => absurd z.1 c, fun z => (by cases z)⟩
def kq_K (n : Nat) : List Nat := match n with
  | 3 => [0]
  | 4 => [0, 1]
  | 5 => [0, 1, 7]
  | _ => [0, 1, 3, 7, 15, 23, 31, 63, 76, 183, 191, 254, 255, 510, 531, 947]
def kq_n (n : Nat) : Nat := match n with
  | 3 => 1
  | 4 => 2
  | 5 => 16
  | _ => 1024
theorem kq_all {n x : Nat} (h3 : 3 ≤ n) (h6 : n ≤ 6) (hx : x < kq_n n) : (wy_F n (kq_T n x) = 0 ∧ mc_F (rw_F n (kq_T n x) (fun a => a) false) (cd_F n (kq_T n x)) (rk_0 n n) = 0) ↔ (kq_K n).contains x = true := by
  have c : n = 3 ∨ n = 4 ∨ n = 5 ∨ n = 6 := by omega
  rcases c with rfl | rfl | rfl | rfl
  · exact kq_ok (by decide) (by decide) (by rw [tl_3]; exact pt_all kq_c3 hx)
  · exact kq_ok (by decide) (by decide) (by rw [tl_4]; exact pt_all kq_c4 hx)
  · exact kq_ok (by decide) (by decide) (by rw [tl_5]; exact pt_all kq_c5 hx)
  · exact kq_ok (by decide) (by decide) (by rw [tl_6]; exact pt_all kq_c6 hx)
/-- how many kinds lie below x, and the next of them -/
def kq_m (n x : Nat) : Nat := ((kq_K n).filter fun y => decide (y < x)).length
def kq_s (n x : Nat) : Bool := if (kq_K n).contains x then decide (kv_F n (kq_m n x) = x) && decide (kq_m n (x + 1) = kq_m n x + 1) else decide (kq_m n (x + 1) = kq_m n x)
theorem kq_s3 : (List.range 1).all (kq_s 3) = true := by decide +kernel
theorem kq_s4 : (List.range 2).all (kq_s 4) = true := by decide +kernel
theorem kq_s5 : (List.range 16).all (kq_s 5) = true := by decide +kernel
theorem kq_s6 : (List.range 1024).all (kq_s 6) = true := by decide +kernel
theorem kq_st {n x : Nat} (h3 : 3 ≤ n) (h6 : n ≤ 6) (hx : x < kq_n n) : ((kq_K n).contains x = true → kv_F n (kq_m n x) = x ∧ kq_m n (x + 1) = kq_m n x + 1) ∧ (¬ (kq_K n).contains x = true → kq_m n (x + 1) = kq_m n x) := by
  have key : kq_s n x = true → ((kq_K n).contains x = true → kv_F n (kq_m n x) = x ∧ kq_m n (x + 1) = kq_m n x + 1) ∧ (¬ (kq_K n).contains x = true → kq_m n (x + 1) = kq_m n x) := fun z => by
    unfold kq_s at z
    refine ⟨fun c => ?_, fun c => ?_⟩
    · rw [if_pos c, Bool.and_eq_true] at z
      exact ⟨of_decide_eq_true z.1, of_decide_eq_true z.2⟩
    · rw [if_neg c] at z
      exact of_decide_eq_true z
  have c : n = 3 ∨ n = 4 ∨ n = 5 ∨ n = 6 := by omega
  rcases c with rfl | rfl | rfl | rfl
  · exact key (pt_all kq_s3 hx)
  · exact key (pt_all kq_s4 hx)
  · exact key (pt_all kq_s5 hx)
  · exact key (pt_all kq_s6 hx)
theorem kq_m0 {n : Nat} : kq_m n 0 = 0 := by
  unfold kq_m
  rw [List.filter_eq_nil_iff.mpr fun a _ => by simp]
  rfl
theorem kq_mn {n : Nat} (h3 : 3 ≤ n) (h6 : n ≤ 6) : kq_m n (kq_n n) = kn_F n ∧ kn_F n ≤ 16 := by
  have c : n = 3 ∨ n = 4 ∨ n = 5 ∨ n = 6 := by omega
  rcases c with rfl | rfl | rfl | rfl <;> decide
theorem kq_mo {n x y : Nat} (h : x ≤ y) : kq_m n x ≤ kq_m n y := by
  unfold kq_m
  induction kq_K n with
  | nil => exact Nat.le_refl _
  | cons a l ih =>
    rw [List.filter_cons, List.filter_cons]
    by_cases c : a < x
    · rw [if_pos (decide_eq_true c), if_pos (decide_eq_true (show a < y by omega))]
      exact Nat.succ_le_succ ih
    · rw [if_neg (fun z => c (of_decide_eq_true z))]
      split
      · exact Nat.le_succ_of_le ih
      · exact ih
