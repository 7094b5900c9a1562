/-! CALLS ON BOTH SIDES: layer -/
theorem ct_two {f : Nat → Bool} : ∀ k, 2 ≤ ct_N f k → ∃ x y, x < k ∧ y < k ∧ x ≠ y ∧ f x = true ∧ f y = true
  | 0, h => by
    have : (0 : Nat) ≥ 2 := h
    omega
  | k + 1, h => by
    have e : ct_N f (k + 1) = ct_N f k + if f k then 1 else 0 := rfl
    cases c : f k
    · rw [c] at e
      have e' : ct_N f (k + 1) = ct_N f k := e
      obtain ⟨x, y, x1, y1, xy, x2, y2⟩ := ct_two (f := f) k (by omega)
      exact ⟨x, y, by omega, by omega, xy, x2, y2⟩
    · rw [c] at e
      have e' : ct_N f (k + 1) = ct_N f k + 1 := e
      have : ∃ x, x < k ∧ f x = true := by
        by_cases hx : ∃ x, x < k ∧ f x = true
        · exact hx
        · have := ct_ff (f := f) (k := k) fun i hi => by
            cases c2 : f i
            · rfl
            · exact absurd ⟨i, hi, c2⟩ hx
          omega
      obtain ⟨x, x1, x2⟩ := this
      exact ⟨x, k, by omega, by omega, by omega, x2, c⟩
theorem ct_sub {f g : Nat → Bool} (h : ∀ x, f x = true → g x = true) : ∀ k, ct_N f k ≤ ct_N g k
  | 0 => Nat.le_refl 0
  | k + 1 => by
    have ih := ct_sub h k
    show ct_N f k + (if f k then 1 else 0) ≤ ct_N g k + (if g k then 1 else 0)
    cases c : f k
    · have : (if false = true then 1 else 0) = 0 := rfl
      omega
    · rw [h k c]
      have : (if true = true then 1 else 0) = 1 := rfl
      omega
theorem ct_lt {f g : Nat → Bool} (h : ∀ x, f x = true → g x = true) {y : Nat} (hg : g y = true) (hf : f y = false) : ∀ k, y < k → ct_N f k + 1 ≤ ct_N g k
  | 0, hy => absurd hy (Nat.not_lt_zero y)
  | k + 1, hy => by
    show ct_N f k + (if f k then 1 else 0) + 1 ≤ ct_N g k + (if g k then 1 else 0)
    by_cases e : y = k
    · subst e
      have := ct_sub h y
      rw [hf, hg]
      have e1 : (if false = true then 1 else 0) = 0 := rfl
      have e2 : (if true = true then 1 else 0) = 1 := rfl
      omega
    · have ih := ct_lt h hg hf k (by omega)
      cases c : f k
      · have : (if false = true then 1 else 0) = 0 := rfl
        omega
      · rw [h k c]
        omega
theorem pc_tb {m : Nat} (hm : m < 1024) : pc_F m = ct_N (fun k => m.testBit k) 10 := (of_decide_eq_true (pt_all bi_tab hm)).symm
theorem nx_e {n m i j : Nat} {B : Nat → Nat → Nat → Bool} (hj : j < n) (h : nq_F B m i j = true) : (nx_F n B m i).isSome = true := by
  cases c : nx_F n B m i with
  | some _ => rfl
  | none =>
    have := fs_none.mp c j (by omega) (by omega)
    rw [h] at this
    cases this
theorem nq_of {n m i j : Nat} {B : Nat → Nat → Nat → Bool} (hm : m < 2 ^ n) (hij : i ≠ j) (hj : m.testBit j = true) (h : ∀ z, z < n → m.testBit z = true → z ≠ i → z ≠ j → B i j z = true) : nq_F B m i j = true := by
  rw [nq_al, hj, decide_eq_true (p := j ≠ i) (fun z => hij z.symm), Bool.true_and, Bool.true_and, al_iff]
  intro k hk
  unfold nk_F
  by_cases c1 : k = i
  · rw [decide_eq_true c1]
    rfl
  by_cases c2 : k = j
  · rw [decide_eq_true c2, Bool.true_or, Bool.or_true]
  cases c3 : m.testBit k
  · simp
  · rw [h k (tb_lt hm c3) c3 c1 c2]
    simp
theorem nq_to {n m i j : Nat} {B : Nat → Nat → Nat → Bool} (hn : n ≤ 10) (h : nq_F B m i j = true) : i ≠ j ∧ m.testBit j = true ∧ ∀ z, z < n → m.testBit z = true → z ≠ i → z ≠ j → B i j z = true := by
  rw [nq_al, Bool.and_eq_true, Bool.and_eq_true, decide_eq_true_eq, al_iff] at h
  refine ⟨fun z => h.1 z.symm, h.2.1, fun z hz hb z1 z2 => ?_⟩
  have := h.2.2 z (by omega)
  unfold nk_F at this
  rw [decide_eq_false z1, decide_eq_false z2, hb] at this
  simpa using this
theorem ri_bit {n m i : Nat} {B : Nat → Nat → Nat → Bool} (h3 : 3 ≤ pc_F m) (hi : i < n) : (ri_F n B m).testBit i = (m.testBit i && (nx_F n B m i).isSome) := by
  have e : ri_F n B m = pb_s n fun i => m.testBit i && (nx_F n B m i).isSome := if_neg (by omega)
  rw [e, pb_bit, decide_eq_true hi]
  rfl
theorem ri_sub {n m i : Nat} {B : Nat → Nat → Nat → Bool} (hm : m < 2 ^ n) (h : (ri_F n B m).testBit i = true) : m.testBit i = true := by
  by_cases c : pc_F m < 3
  · rw [show ri_F n B m = m from if_pos c] at h
    exact h
  · have e : ri_F n B m = pb_s n fun i => m.testBit i && (nx_F n B m i).isSome := if_neg c
    have hi : i < n := by
      rw [e] at h
      exact tb_lt (pb_lt _ n) h
    rw [ri_bit (by omega) hi, Bool.and_eq_true] at h
    exact h.1
theorem rim_ne {n m : Nat} {B : Nat → Nat → Nat → Bool} (h : lw_P n B) (hm : m < 2 ^ n) (h0 : ∃ p, m.testBit p = true) : ∃ p, (ri_F n B m).testBit p = true := by
  by_cases c : pc_F m < 3
  · rw [show ri_F n B m = m from if_pos c]
    exact h0
  · have h2 := pb_p2 h.1
    have e := pc_tb (m := m) (by omega)
    obtain ⟨x, y, x1, y1, xy, x2, y2⟩ := ct_two (f := fun k => m.testBit k) 10 (by omega)
    obtain ⟨i, j, i1, j1, ij, i2, j2, ed⟩ := lw_edge (R := fun k => m.testBit k) h n (Nat.le_refl n) ⟨x, y, tb_lt hm x2, tb_lt hm y2, xy, x2, y2⟩
    refine ⟨i, ?_⟩
    have i2 : m.testBit i = true := i2
    rw [ri_bit (by omega) i1, i2, nx_e j1 (nq_of hm ij j2 ed)]
    rfl
theorem rs_n {n : Nat} {B : Nat → Nat → Nat → Bool} : ∀ l, rs_F n B l < 2 ^ n
  | 0 => by
    have := Nat.two_pow_pos n
    show 2 ^ n - 1 < 2 ^ n
    omega
  | l + 1 => Nat.lt_of_le_of_lt (an_le _ _) (rs_n l)
theorem ly_y {n p : Nat} {B : Nat → Nat → Nat → Bool} (h : lw_P n B) (hp : p < n) : ∃ l, ly_F n B p = some l := by
  have hn := h.1
  have h2 := pb_p2 hn
  cases hl : ly_F n B p with
  | some l => exact ⟨l, rfl⟩
  | none =>
    exfalso
    have hno : ∀ l, l < n → (ri_F n B (rs_F n B l)).testBit p = false := fun l hl' => by
      have := fs_none.mp hl l (by omega) (by omega)
      cases c : (ri_F n B (rs_F n B l)).testBit p
      · rfl
      · rw [c] at this
        cases this
    have key : ∀ l, l ≤ n → (rs_F n B l).testBit p = true ∧ ct_N (fun k => (rs_F n B l).testBit k) 10 + l ≤ n := by
      intro l
      induction l with
      | zero =>
        intro _
        have e : ∀ k, (rs_F n B 0).testBit k = decide (k < n) := fun k => Nat.testBit_two_pow_sub_one n k
        refine ⟨by rw [e]; exact decide_eq_true hp, ?_⟩
        have e1 := ct_more (f := fun k => (rs_F n B 0).testBit k) (n := n) (10 - n) fun k hk => by
          rw [e]
          exact decide_eq_false (by omega)
        rw [show n + (10 - n) = 10 by omega] at e1
        rw [e1]
        exact ct_le _ n
      | succ l ih =>
        intro hl'
        obtain ⟨i1, i2⟩ := ih (by omega)
        have hr := rs_n (n := n) (B := B) l
        obtain ⟨y, hy⟩ := rim_ne h hr ⟨p, i1⟩
        have hyl := ri_sub hr hy
        have hyn := tb_lt hr hyl
        have eb : ∀ k, k < 10 → (rs_F n B (l + 1)).testBit k = ((rs_F n B l).testBit k && !(ri_F n B (rs_F n B l)).testBit k) := fun k hk => an_bit _ _ k (by omega)
        refine ⟨by rw [eb p (by omega), i1, hno l (by omega)]; rfl, ?_⟩
        have hlt := ct_lt (f := fun k => (rs_F n B l).testBit k && !(ri_F n B (rs_F n B l)).testBit k) (g := fun k => (rs_F n B l).testBit k) (fun x hx => (Bool.and_eq_true _ _ ▸ hx).1) (y := y) hyl (by rw [hyl, hy]; rfl) 10 (by omega)
        have e2 : ct_N (fun k => (rs_F n B (l + 1)).testBit k) 10 = ct_N (fun k => (rs_F n B l).testBit k && !(ri_F n B (rs_F n B l)).testBit k) 10 := ct_cong eb
        omega
    obtain ⟨k1, k2⟩ := key n (Nat.le_refl n)
    have := ct_lt (f := fun _ => false) (g := fun k => (rs_F n B n).testBit k) (fun x hx => by cases hx) (y := p) k1 rfl 10 (by omega)
    omega
theorem rX7_layer_28 {vs : List pt_V} {M M' : pt_M} {x : Int32} {L : List (Nat × pt_V)} (hvs : (vs.map pt_w).sum ≤ 5) (hX : M'.2.2.2.2 = M.2.2.2.2) (h : pt_Go YX7_layer (0, pt_en 0 vs, [], M) (28, L, [pt_i x], M')) : pt_Does yX7_layer YX7_layer vs M (some (pt_i x)) M' := pt_does_go tX7_layer_ok nX7_layer hvs hX ⟨_, by with_unfolding_all rfl, rfl, _, rfl, rfl⟩ h
theorem rX7_layer_81 {vs : List pt_V} {M M' : pt_M} {x : Int32} {L : List (Nat × pt_V)} (hvs : (vs.map pt_w).sum ≤ 5) (hX : M'.2.2.2.2 = M.2.2.2.2) (h : pt_Go YX7_layer (0, pt_en 0 vs, [], M) (81, L, [pt_i x], M')) : pt_Does yX7_layer YX7_layer vs M (some (pt_i x)) M' := pt_does_go tX7_layer_ok nX7_layer hvs hX ⟨_, by with_unfolding_all rfl, rfl, _, rfl, rfl⟩ h
set_option maxRecDepth 100000 in
theorem gX7_layer_0_1 (x1 : Int32) (x2 : Int32) (n : Nat) (B : Nat → Nat → Nat → Bool) (M2 : pt_M) (M : pt_M) (h1 : pt_Does yX7_isLawful YX7_isLawful [pt_r 7 0, pt_i x1] (pt_wF M 7 0 0 0) (some (pt_i 1)) M2) (h2 : ¬ x2 < 0) (h3 : pt_in x1 6) (h4 : ¬ x2 < (pt_A M2 31 0 (pt_nt x1))) :
    pt_Go YX7_layer (0, [(0, pt_r 7 0), (1, pt_i x1), (2, pt_i x2)], [], M)
      (28, [(0, pt_r 7 0), (1, pt_i x1), (2, pt_i x2)], [pt_i (-1)], M2) :=
  pt_run_ok tX7_layer_ok 16 [.inr (2, some (pt_i 1), M2), .inl false, .inl false, .inl false] (P := pt_Cal YX7_layer (.invokevirtual 141) [pt_r 7 0, pt_i x1] (pt_wF M 7 0 0 0) (some (pt_i 1)) M2 ∧ (¬ (1 : Int32) = (0 : Int32)) ∧ (¬ x2 < 0) ∧ (pt_in x1 6) ∧ (¬ x2 < (pt_A M2 31 0 (pt_nt x1))) ∧ True) (by with_unfolding_all rfl) ⟨(pt_callV (i := 0) kX7_layer_141 mX7_isLawful rfl (by decide) rfl h1), (by decide), h2, h3, h4, trivial⟩
set_option maxRecDepth 100000 in
theorem gX7_layer_0_2 (x1 : Int32) (x2 : Int32) (n : Nat) (B : Nat → Nat → Nat → Bool) (M2 : pt_M) (M : pt_M) (h1 : pt_Does yX7_isLawful YX7_isLawful [pt_r 7 0, pt_i x1] (pt_wF M 7 0 0 0) (some (pt_i 1)) M2) (h2 : ¬ x2 < 0) (h3 : pt_in x1 6) (h4 : x2 < (pt_A M2 31 0 (pt_nt x1))) :
    pt_Go YX7_layer (0, [(0, pt_r 7 0), (1, pt_i x1), (2, pt_i x2)], [], M)
      (43, [(0, pt_r 7 0), (1, pt_i x1), (2, pt_i x2), (3, pt_i (((1 : Int32) <<< ((pt_A M2 31 0 (pt_nt x1)) &&& 31)) - 1)), (4, pt_i 0)], [], M2) :=
  pt_run_ok tX7_layer_ok 26 [.inr (2, some (pt_i 1), M2), .inl false, .inl false, .inl true] (P := pt_Cal YX7_layer (.invokevirtual 141) [pt_r 7 0, pt_i x1] (pt_wF M 7 0 0 0) (some (pt_i 1)) M2 ∧ (¬ (1 : Int32) = (0 : Int32)) ∧ (¬ x2 < 0) ∧ (pt_in x1 6) ∧ (x2 < (pt_A M2 31 0 (pt_nt x1))) ∧ (pt_in x1 6) ∧ True) (by with_unfolding_all rfl) ⟨(pt_callV (i := 0) kX7_layer_141 mX7_isLawful rfl (by decide) rfl h1), (by decide), h2, h3, h4, h3, trivial⟩
set_option maxRecDepth 100000 in
theorem gX7_layer_0_3 (x1 : Int32) (x2 : Int32) (n : Nat) (B : Nat → Nat → Nat → Bool) (M2 : pt_M) (M : pt_M) (h1 : pt_Does yX7_isLawful YX7_isLawful [pt_r 7 0, pt_i x1] (pt_wF M 7 0 0 0) (some (pt_i 1)) M2) (h2 : x2 < 0) :
    pt_Go YX7_layer (0, [(0, pt_r 7 0), (1, pt_i x1), (2, pt_i x2)], [], M)
      (28, [(0, pt_r 7 0), (1, pt_i x1), (2, pt_i x2)], [pt_i (-1)], M2) :=
  pt_run_ok tX7_layer_ok 10 [.inr (2, some (pt_i 1), M2), .inl false, .inl true] (P := pt_Cal YX7_layer (.invokevirtual 141) [pt_r 7 0, pt_i x1] (pt_wF M 7 0 0 0) (some (pt_i 1)) M2 ∧ (¬ (1 : Int32) = (0 : Int32)) ∧ (x2 < 0) ∧ True) (by with_unfolding_all rfl) ⟨(pt_callV (i := 0) kX7_layer_141 mX7_isLawful rfl (by decide) rfl h1), (by decide), h2, trivial⟩
set_option maxRecDepth 100000 in
theorem gX7_layer_0_4 (x1 : Int32) (x2 : Int32) (n : Nat) (B : Nat → Nat → Nat → Bool) (M2 : pt_M) (M : pt_M) (h1 : pt_Does yX7_isLawful YX7_isLawful [pt_r 7 0, pt_i x1] (pt_wF M 7 0 0 0) (some (pt_i 0)) M2) :
    pt_Go YX7_layer (0, [(0, pt_r 7 0), (1, pt_i x1), (2, pt_i x2)], [], M)
      (28, [(0, pt_r 7 0), (1, pt_i x1), (2, pt_i x2)], [pt_i (-1)], M2) :=
  pt_run_ok tX7_layer_ok 8 [.inr (2, some (pt_i 0), M2), .inl true] (P := pt_Cal YX7_layer (.invokevirtual 141) [pt_r 7 0, pt_i x1] (pt_wF M 7 0 0 0) (some (pt_i 0)) M2 ∧ ((0 : Int32) = (0 : Int32)) ∧ True) (by with_unfolding_all rfl) ⟨(pt_callV (i := 0) kX7_layer_141 mX7_isLawful rfl (by decide) rfl h1), (by decide), trivial⟩
set_option maxRecDepth 100000 in
theorem gX7_layer_43_1 (l1 : Int32) (l2 : Int32) (l3 : Int32) (l4 : Int32) (n : Nat) (B : Nat → Nat → Nat → Bool) (M2 : pt_M) (M : pt_M) (h1 : ro_P M (120 * l1) l3 n B) (h2 : (((ri_I n B l3) >>> (l2 &&& 31)) &&& 1) = 0) :
    pt_Go YX7_layer (43, [(0, pt_r 7 0), (1, pt_i l1), (2, pt_i l2), (3, pt_i l3), (4, pt_i l4)], [], M)
      (43, [(0, pt_r 7 0), (1, pt_i l1), (2, pt_i l2), (3, pt_i (l3 &&& ((ri_I n B l3) ^^^ (-1)))), (4, pt_i (l4 + 1))], [], M) :=
  pt_run_ok tX7_layer_ok 24 [.inr (3, some (pt_i (ri_I n B l3)), M), .inl false, .inr (3, some (pt_i (ri_I n B l3)), M)] (P := pt_Cal YX7_layer (.invokevirtual 147) [pt_r 7 0, pt_i (120 * l1), pt_i l3] M (some (pt_i (ri_I n B l3))) M ∧ ((((ri_I n B l3) >>> (l2 &&& 31)) &&& 1) = 0) ∧ pt_Cal YX7_layer (.invokevirtual 147) [pt_r 7 0, pt_i (120 * l1), pt_i l3] M (some (pt_i (ri_I n B l3))) M ∧ True) (by with_unfolding_all rfl) ⟨(pt_callV (i := 0) kX7_layer_147 mX7_rimOf rfl (by decide) rfl (dX7_rimOf_t h1)), h2, (pt_callV (i := 0) kX7_layer_147 mX7_rimOf rfl (by decide) rfl (dX7_rimOf_t h1)), trivial⟩
set_option maxRecDepth 100000 in
theorem gX7_layer_43_2 (l1 : Int32) (l2 : Int32) (l3 : Int32) (l4 : Int32) (n : Nat) (B : Nat → Nat → Nat → Bool) (M2 : pt_M) (M : pt_M) (h1 : ro_P M (120 * l1) l3 n B) (h2 : ¬ (((ri_I n B l3) >>> (l2 &&& 31)) &&& 1) = 0) :
    pt_Go YX7_layer (43, [(0, pt_r 7 0), (1, pt_i l1), (2, pt_i l2), (3, pt_i l3), (4, pt_i l4)], [], M)
      (81, [(0, pt_r 7 0), (1, pt_i l1), (2, pt_i l2), (3, pt_i l3), (4, pt_i l4)], [pt_i l4], M) :=
  pt_run_ok tX7_layer_ok 12 [.inr (3, some (pt_i (ri_I n B l3)), M), .inl true] (P := pt_Cal YX7_layer (.invokevirtual 147) [pt_r 7 0, pt_i (120 * l1), pt_i l3] M (some (pt_i (ri_I n B l3))) M ∧ (¬ (((ri_I n B l3) >>> (l2 &&& 31)) &&& 1) = 0) ∧ True) (by with_unfolding_all rfl) ⟨(pt_callV (i := 0) kX7_layer_147 mX7_rimOf rfl (by decide) rfl (dX7_rimOf_t h1)), h2, trivial⟩
theorem dX7_layer {s n p l : Nat} {B : Nat → Nat → Nat → Bool} {M M2 : pt_M} (hs : s < 6) (hl : pt_Does yX7_isLawful YX7_isLawful [pt_r 7 0, pt_i (nI s)] (pt_wF M 7 0 0 0) (some (pt_i 1)) M2) (hN : pt_A M2 31 0 s = nI n) (h : ml_P M2 (120 * s) n B) (hp : p < n) (hly : ly_F n B p = some l) : pt_Does yX7_layer YX7_layer [pt_r 7 0, pt_i (nI s), pt_i (nI p)] M (some (pt_i (nI l))) M2 := by
  have hn := h.2.1
  have h2 := pb_p2 hn
  have es : pt_nt (nI s) = s := pt_nt_nI (by omega)
  have hN' : pt_A M2 31 0 (pt_nt (nI s)) = nI n := by rw [es]; exact hN
  have g0 := gX7_layer_0_2 (nI s) (nI p) n B M2 M hl (nI_pos (by omega)) (pt_in_nI hs (by decide)) (by rw [hN']; exact nI_lt hp (by omega))
  rw [hN', e2_n hn] at g0
  have hfound : ∀ d i, fs_F d i (fun l => if (ri_F n B (rs_F n B l)).testBit p then some l else none) = some l → (∀ t, i ≤ t → t < l → (ri_F n B (rs_F n B t)).testBit p = false) ∧ i ≤ l ∧ l < i + d ∧ (ri_F n B (rs_F n B l)).testBit p = true := by
    intro d
    induction d with
    | zero => intro i z; cases z
    | succ d ih =>
      intro i z
      unfold fs_F at z
      cases c : (ri_F n B (rs_F n B i)).testBit p
      · dsimp only at z
        rw [c] at z
        obtain ⟨a1, a2, a3, a4⟩ := ih (i + 1) z
        refine ⟨fun t t1 t2 => ?_, by omega, by omega, a4⟩
        by_cases e : t = i
        · rw [e]
          exact c
        · exact a1 t (by omega) t2
      · dsimp only at z
        rw [c] at z
        cases z
        exact ⟨fun t t1 t2 => by omega, by omega, by omega, c⟩
  obtain ⟨f1, -, f3, f4⟩ := hfound (n - 0) 0 hly
  have hri : ∀ t, ri_I n B (nI (rs_F n B t)) = nI (ri_F n B (rs_F n B t)) := fun t => ri_nI (by have := rs_n (n := n) (B := B) t; omega)
  have hrl : ∀ t, ri_F n B (rs_F n B t) < 1024 := fun t => ri_lt hn (by have := rs_n (n := n) (B := B) t; omega)
  have hro : ∀ t, ro_P M2 (120 * nI s) (nI (rs_F n B t)) n B := fun t => ⟨120 * s, rs_F n B t, m120 s, rfl, h, rs_n t⟩
  have K := pt_for0 (Y := YX7_layer) (fun t => (43, [(0, pt_r 7 0), (1, pt_i (nI s)), (2, pt_i (nI p)), (3, pt_i (nI (rs_F n B t))), (4, pt_i (nI t))], [], M2)) (n := l) fun t ht => by
    refine (gX7_layer_43_1 (nI s) (nI p) (nI (rs_F n B t)) (nI t) n B M2 M2 (hro t) (by rw [hri t]; exact (pt_bit0 (hrl t) (by omega)).mpr (f1 t (by omega) ht))).to ?_
    rw [hri t, an_nI, nI_1]
    rfl
  refine rX7_layer_81 (Nat.le_of_ble_eq_true rfl) (show M2.2.2.2.2 = (pt_wF M 7 0 0 0).2.2.2.2 from dX_x5 hl) (g0.tr (K.tr (gX7_layer_43_2 (nI s) (nI p) (nI (rs_F n B l)) (nI l) n B M2 M2 (hro l) ?_)))
  rw [hri l]
  exact fun z => by
    rw [pt_bit0 (hrl l) (by omega), f4] at z
    cases z
theorem op_layer {M : pt_M} (h : IV_P M) (x y : Int32) : op_P yX6_layer YX6_layer yX7_layer YX7_layer [pt_i x, pt_i y] M := by
  obtain ⟨A, hC, hM⟩ := h
  have zB : Nat → Nat → Nat → Bool := fun _ _ _ => false
  rcases lw_case hC x with ⟨h1, h2⟩ | ⟨s, hs, rfl, hn⟩
  · exact op_of hC hM (A' := A) (M2 := t0_M M) (dX6_layer_p4 x y 0 zB 0 M h1) mo_P.rf hC fun hM => ⟨rX7_layer_28 (Nat.le_of_ble_eq_true rfl) rfl (gX7_layer_0_4 x y 0 zB (t0_M M) M (il_0 (h2 M hM))), t0_ca, hM⟩
  obtain ⟨q1, q2, q3, q4, q5, q6⟩ := CR_y hC hs hn
  have hM1 := MR_mo hM (mo_wm (x := nI s) (n := iv_N A s) (B := iv_B A s))
  have es : pt_nt (nI s) = s := pt_nt_nI (by omega)
  by_cases hz : wy_F (iv_N A s) (iv_B A s) = 0
  · obtain ⟨g, hg⟩ := il_t hM1 hs hn hz
    have hl := CR_lA hC hs hn hz
    have hlw : lw_P (iv_N A s) (iv_B A s) := lw_of q2 nB_sy hz
    have htb : tb_P (wl_M M (nI s) (iv_N A s) (iv_B A s)) (pt_R M (pt_nt (nI s) + 1)) (iv_N A s) (iv_B A s) := hl.2.1
    have hX : (pt_wA (t0_M (wl_M M (nI s) (iv_N A s) (iv_B A s))) 36 0 g).2.2.2.2 = (wl_M M (nI s) (iv_N A s) (iv_B A s)).2.2.2.2 := rfl
    have hN36 : MR_P (wl_M M (nI s) (iv_N A s) (iv_B A s)) A → pt_A (pt_wA (t0_M (wl_M M (nI s) (iv_N A s) (iv_B A s))) 36 0 g) 31 0 (pt_nt (nI s)) = nI (iv_N A s) := fun hM => by rw [es]; exact (MR_y (MR_36 (g := g) hM) hs hn).2.1
    by_cases hp : hp_P (wl_M M (nI s) (iv_N A s) (iv_B A s)) (pt_R M (pt_nt (nI s) + 1)) y
    · have hp0 := hp
      unfold hp_P at hp
      rw [htb.2.2.1] at hp
      obtain ⟨p, hp1, rfl⟩ := hp_of q2 hp.1 hp.2
      obtain ⟨l, hly⟩ := ly_y hlw hp1
      have d1 := dX6_layer_p1 (nI s) (nI p) (iv_N A s) (iv_B A s) (nI l) M hl hl.2.1.1 hp0 ((dX2_layerOf htb hp1).1 l hly)
      refine op_of hC hM (A' := A) (M2 := pt_wA (t0_M (wl_M M (nI s) (iv_N A s) (iv_B A s))) 36 0 g) d1 mo_wm (CR_wm hC hs hn) fun hM => ⟨?_, ca_t36, MR_36 hM⟩
      obtain ⟨p1, p2, p3⟩ := MR_y (MR_36 (g := g) hM) hs hn
      exact dX7_layer hs hg p2 p3 hp1 hly
    · refine op_of hC hM (A' := A) (M2 := pt_wA (t0_M (wl_M M (nI s) (iv_N A s) (iv_B A s))) 36 0 g) (dX6_layer_p2 (nI s) y (iv_N A s) (iv_B A s) 0 M hl hl.2.1.1 hp) mo_wm (CR_wm hC hs hn) fun hM => ⟨?_, ca_t36, MR_36 hM⟩
      by_cases c1 : y < 0
      · exact rX7_layer_28 (Nat.le_of_ble_eq_true rfl) hX (gX7_layer_0_3 (nI s) y 0 zB _ _ hg c1)
      · refine rX7_layer_28 (Nat.le_of_ble_eq_true rfl) hX (gX7_layer_0_1 (nI s) y 0 zB _ _ hg c1 (pt_in_nI hs (by decide)) ?_)
        rw [hN36 hM]
        intro c2
        exact hp ⟨c1, by rw [htb.2.2.1]; exact Int32.not_le.mpr c2⟩
  · obtain ⟨g, hg⟩ := il_f hM1 hs hn hz
    have hX : (pt_wA (t0_M (wl_M M (nI s) (iv_N A s) (iv_B A s))) 36 0 g).2.2.2.2 = (wl_M M (nI s) (iv_N A s) (iv_B A s)).2.2.2.2 := rfl
    exact op_of hC hM (A' := A) (dX6_layer_p3 (nI s) y (iv_N A s) (iv_B A s) 0 M (CR_lN hC hs hn hz)) mo_wm (CR_wm hC hs hn) fun hM => ⟨rX7_layer_28 (Nat.le_of_ble_eq_true rfl) hX (gX7_layer_0_4 (nI s) y 0 zB _ _ hg), ca_t36, MR_36 hM⟩
