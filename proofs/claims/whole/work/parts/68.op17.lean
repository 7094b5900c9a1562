/-! Along the rim -/
theorem pc_all {n : Nat} (hn : n ≤ 10) : pc_F (2 ^ n - 1) = n := (by decide +kernel : ∀ n : Fin 11, pc_F (2 ^ n.1 - 1) = n.1) ⟨n, by omega⟩
theorem tb_all {n i : Nat} : (2 ^ n - 1).testBit i = decide (i < n) := Nat.testBit_two_pow_sub_one n i
theorem ri_2 {n m : Nat} {B : Nat → Nat → Nat → Bool} (hm : m < 2 ^ n) : ri_F n B m < 2 ^ n := by
  unfold ri_F
  split
  · exact hm
  · exact pb_lt _ n
theorem nx_j {n i j : Nat} {B : Nat → Nat → Nat → Bool} (h : lw_P n B) (h3 : 3 ≤ n) (hi : i < n) (hx : nx_F n B (2 ^ n - 1) i = some j) : (ri_F n B (2 ^ n - 1)).testBit j = true := by
  have h2 := Nat.two_pow_pos n
  obtain ⟨j1, q⟩ := nx_lt hx
  obtain ⟨ij, -, hz⟩ := nq_to h.1 q
  have ed : ∀ z, z < n → z ≠ i → z ≠ j → B i j z = true := fun z z1 => hz z z1 (by rw [tb_all]; exact decide_eq_true z1)
  obtain ⟨k, k1, k2, kk⟩ := fst_of (T := fun x y => B j x y) (R := fun z => decide (z < n ∧ z ≠ i ∧ z ≠ j)) (fun x y hx hy xy => by
    have hx := of_decide_eq_true hx
    have hy := of_decide_eq_true hy
    show B j x y = true ∨ B j y x = true
    rw [lw_an h j1 hx.1 hy.1 (fun z => hx.2.2 z.symm) xy (fun z => hy.2.2 z.symm)]
    cases B j x y
    · exact .inr rfl
    · exact .inl rfl) (fun x y z hx hy hz xy yz xz t1 t2 => by
    have hx := of_decide_eq_true hx
    have hy := of_decide_eq_true hy
    have hz := of_decide_eq_true hz
    have e : ∀ w, w < n → w ≠ i → w ≠ j → B j w i = true := fun w w1 w2 w3 => by
      rw [lw_cyc h hi j1 w1 ij (fun z => w3 z.symm) (fun z => w2 z.symm)]
      exact ed w w1 w2 w3
    exact lw_tb h j1 hi hx.1 hy.1 hz.1 (fun z => ij z.symm) (fun z => hx.2.2 z.symm) (fun z => hy.2.2 z.symm) (fun z => hz.2.2 z.symm) (fun z => hx.2.1 z.symm) (fun z => hy.2.1 z.symm) (fun z => hz.2.1 z.symm) xy xz yz (e x hx.1 hx.2.1 hx.2.2) (e y hy.1 hy.2.1 hy.2.2) (e z hz.1 hz.2.1 hz.2.2) t1 t2) n (by
    rcases (by omega : (0 ≠ i ∧ 0 ≠ j) ∨ (1 ≠ i ∧ 1 ≠ j) ∨ (2 ≠ i ∧ 2 ≠ j)) with c | c | c
    · exact ⟨0, by omega, decide_eq_true ⟨by omega, c⟩⟩
    · exact ⟨1, by omega, decide_eq_true ⟨by omega, c⟩⟩
    · exact ⟨2, by omega, decide_eq_true ⟨by omega, c⟩⟩)
  have k2 := of_decide_eq_true k2
  have hq : nq_F B (2 ^ n - 1) j k = true := nq_of (n := n) (by omega) (fun z => k2.2.2 z.symm) (by rw [tb_all]; exact decide_eq_true k1) fun z z1 _ z2 z3 => by
    by_cases c : z = i
    · rw [c, lw_cyc h hi j1 k1 ij (fun z => k2.2.2 z.symm) (fun z => k2.2.1 z.symm)]
      exact ed k k1 k2.2.1 k2.2.2
    · exact kk z z1 (decide_eq_true ⟨z1, c, z2⟩) z3
  rw [ri_bit (by rw [pc_all h.1]; exact h3) j1, tb_all, decide_eq_true j1, nx_e k1 hq]
  rfl
theorem nx_rim {n i : Nat} {B : Nat → Nat → Nat → Bool} (h : lw_P n B) (h3 : 3 ≤ n) (hi : (ri_F n B (2 ^ n - 1)).testBit i = true) : ∃ j, nx_F n B (2 ^ n - 1) i = some j ∧ nx_F n B (ri_F n B (2 ^ n - 1)) i = some j ∧ (ri_F n B (2 ^ n - 1)).testBit j = true := by
  have h2 := Nat.two_pow_pos n
  have hr : ri_F n B (2 ^ n - 1) < 2 ^ n := ri_2 (by omega)
  have i1 : i < n := tb_lt hr hi
  have hi2 := hi
  rw [ri_bit (by rw [pc_all h.1]; exact h3) i1, tb_all, decide_eq_true i1, Bool.true_and] at hi2
  obtain ⟨j, hj⟩ := Option.isSome_iff_exists.mp hi2
  have jr := nx_j h h3 i1 hj
  obtain ⟨j1, q⟩ := nx_lt hj
  obtain ⟨ij, -, hz⟩ := nq_to h.1 q
  have ed : ∀ z, z < n → z ≠ i → z ≠ j → B i j z = true := fun z z1 => hz z z1 (by rw [tb_all]; exact decide_eq_true z1)
  refine ⟨j, hj, ?_, jr⟩
  have hq : nq_F B (ri_F n B (2 ^ n - 1)) i j = true := nq_of hr ij jr fun z z1 _ => ed z z1
  cases c : nx_F n B (ri_F n B (2 ^ n - 1)) i with
  | none =>
    have := nx_e j1 hq
    rw [c] at this
    cases this
  | some w =>
    obtain ⟨w1, wq⟩ := nx_lt c
    obtain ⟨iw, wr, hw⟩ := nq_to h.1 wq
    by_cases e : w = j
    · rw [e]
    · have e1 := ed w w1 (fun z => iw z.symm) e
      have e2 := hw j j1 jr (fun z => ij z.symm) (fun z => e z.symm)
      rw [lw_an h i1 j1 w1 ij (fun z => e z.symm) iw, e1] at e2
      cases e2
theorem fs_fst {P : Nat → Bool} {l : Nat} : ∀ {d i : Nat}, fs_F d i (fun l => if P l then some l else none) = some l → (∀ t, i ≤ t → t < l → P t = false) ∧ i ≤ l ∧ l < i + d ∧ P l = true := by
  intro d
  induction d with
  | zero => intro i z; cases z
  | succ d ih =>
    intro i z
    unfold fs_F at z
    cases c : P i
    · dsimp only at z
      rw [c] at z
      obtain ⟨a1, a2, a3, a4⟩ := ih z
      refine ⟨fun t t1 t2 => ?_, by omega, by omega, a4⟩
      by_cases e : t = i
      · rw [e]
        exact c
      · exact a1 t (by omega) t2
    · dsimp only at z
      rw [c] at z
      cases z
      exact ⟨fun t t1 t2 => by omega, by omega, by omega, c⟩
def rz_F (n : Nat) (B : Nat → Nat → Nat → Bool) (p : Nat) : Nat → Nat
  | 0 => p
  | k + 1 => (nx_F n B (2 ^ n - 1) (rz_F n B p k)).getD 0
theorem rz_ok {n p : Nat} {B : Nat → Nat → Nat → Bool} (h : lw_P n B) (h3 : 3 ≤ n) (hp : (ri_F n B (2 ^ n - 1)).testBit p = true) : ∀ k, (ri_F n B (2 ^ n - 1)).testBit (rz_F n B p k) = true ∧ nx_F n B (2 ^ n - 1) (rz_F n B p k) = some (rz_F n B p (k + 1)) ∧ nx_F n B (ri_F n B (2 ^ n - 1)) (rz_F n B p k) = some (rz_F n B p (k + 1)) := by
  have key : ∀ k, (ri_F n B (2 ^ n - 1)).testBit (rz_F n B p k) = true := by
    intro k
    induction k with
    | zero => exact hp
    | succ k ih =>
      obtain ⟨j, j1, j2, j3⟩ := nx_rim h h3 ih
      show (ri_F n B (2 ^ n - 1)).testBit ((nx_F n B (2 ^ n - 1) (rz_F n B p k)).getD 0) = true
      rw [j1]
      exact j3
  intro k
  obtain ⟨j, j1, j2, j3⟩ := nx_rim h h3 (key k)
  have e : rz_F n B p (k + 1) = j := by
    show (nx_F n B (2 ^ n - 1) (rz_F n B p k)).getD 0 = j
    rw [j1]
    rfl
  rw [e]
  exact ⟨key k, j1, j2⟩
theorem le_ex {n : Nat} {B : Nat → Nat → Nat → Bool} (h : lw_P n B) (h3 : 3 ≤ n) : ∃ p, le_F n (ri_F n B (2 ^ n - 1)) = some p ∧ p < n ∧ (ri_F n B (2 ^ n - 1)).testBit p = true ∧ ∀ t, t < p → nx_F n B (2 ^ n - 1) t = none := by
  have h2 := Nat.two_pow_pos n
  obtain ⟨q, hq⟩ := rim_ne h (m := 2 ^ n - 1) (by omega) ⟨0, by rw [tb_all]; exact decide_eq_true (by omega)⟩
  have q1 : q < n := tb_lt (ri_2 (by omega)) hq
  cases c : le_F n (ri_F n B (2 ^ n - 1)) with
  | none =>
    have := fs_none.mp c q (by omega) (by omega)
    rw [hq] at this
    cases this
  | some p =>
    obtain ⟨a1, a2, a3, a4⟩ := fs_fst c
    refine ⟨p, rfl, by omega, a4, fun t ht => ?_⟩
    have := a1 t (by omega) ht
    have t1 : t < n := by omega
    rw [ri_bit (by rw [pc_all h.1]; exact h3) t1, tb_all, decide_eq_true t1, Bool.true_and] at this
    exact Option.not_isSome_iff_eq_none.mp (by rw [this]; exact Bool.false_ne_true)
theorem rX7_throwsIf_14 {vs : List pt_V} {M M' : pt_M} {x : Int32} {L : List (Nat × pt_V)} (hn : narrow .boolean (.int x) = .int x) (hvs : (vs.map pt_w).sum ≤ 2) (hX : M'.2.2.2.2 = M.2.2.2.2) (h : pt_Go YX7_throwsIf (0, pt_en 0 vs, [], M) (14, L, [pt_i x], M')) : pt_Does yX7_throwsIf YX7_throwsIf vs M (some (pt_i x)) M' := pt_does_go tX7_throwsIf_ok nX7_throwsIf hvs hX ⟨_, by with_unfolding_all rfl, rfl, _, rfl, hn⟩ h
set_option maxRecDepth 100000 in
theorem gX7_throwsIf_0_1 (x1 : Int32)  (M : pt_M) (h1 : ¬ x1 = 0) :
    pt_Go YX7_throwsIf (0, [(0, pt_r 7 0), (1, pt_i x1)], [], M)
      (14, [(0, pt_r 7 0), (1, pt_i x1)], [pt_i x1], (pt_wF M 7 0 0 1)) :=
  pt_run_ok tX7_throwsIf_ok 7 [.inl false] (P := (¬ x1 = 0) ∧ True) (by with_unfolding_all rfl) ⟨h1, trivial⟩
set_option maxRecDepth 100000 in
theorem gX7_throwsIf_0_2 (x1 : Int32)  (M : pt_M) (h1 : x1 = 0) :
    pt_Go YX7_throwsIf (0, [(0, pt_r 7 0), (1, pt_i x1)], [], M)
      (14, [(0, pt_r 7 0), (1, pt_i x1)], [pt_i x1], (pt_wF M 7 0 0 0)) :=
  pt_run_ok tX7_throwsIf_ok 6 [.inl true] (P := (x1 = 0) ∧ True) (by with_unfolding_all rfl) ⟨h1, trivial⟩
theorem dX7_throwsIf {b : Int32} {M : pt_M} (h : b = 0 ∨ b = 1) : pt_Does yX7_throwsIf YX7_throwsIf [pt_r 7 0, pt_i b] M (some (pt_i b)) (pt_wF M 7 0 0 b) := by
  rcases h with rfl | rfl
  · exact rX7_throwsIf_14 rfl (Nat.le_of_ble_eq_true rfl) rfl (gX7_throwsIf_0_2 0 M rfl)
  · exact rX7_throwsIf_14 rfl (Nat.le_of_ble_eq_true rfl) rfl (gX7_throwsIf_0_1 1 M (by decide))
theorem rX7_onRim_64 {vs : List pt_V} {M M' : pt_M} {x : Int32} {L : List (Nat × pt_V)} (hvs : (vs.map pt_w).sum ≤ 7) (hX : M'.2.2.2.2 = M.2.2.2.2) (h : pt_Go YX7_onRim (0, pt_en 0 vs, [], M) (64, L, [pt_i x], M')) : pt_Does yX7_onRim YX7_onRim vs M (some (pt_i x)) M' := pt_does_go tX7_onRim_ok nX7_onRim hvs hX ⟨_, by with_unfolding_all rfl, rfl, _, rfl, rfl⟩ h
theorem rX7_onRim_120 {vs : List pt_V} {M M' : pt_M} {x : Int32} {L : List (Nat × pt_V)} (hvs : (vs.map pt_w).sum ≤ 7) (hX : M'.2.2.2.2 = M.2.2.2.2) (h : pt_Go YX7_onRim (0, pt_en 0 vs, [], M) (120, L, [pt_i x], M')) : pt_Does yX7_onRim YX7_onRim vs M (some (pt_i x)) M' := pt_does_go tX7_onRim_ok nX7_onRim hvs hX ⟨_, by with_unfolding_all rfl, rfl, _, rfl, rfl⟩ h
set_option maxRecDepth 100000 in
theorem gX7_onRim_0_1 (x1 : Int32) (x2 : Int32) (n : Nat) (B : Nat → Nat → Nat → Bool) (M2 : pt_M) (M : pt_M) (h1 : pt_Does yX7_isLawful YX7_isLawful [pt_r 7 0, pt_i x1] M (some (pt_i 1)) M2) (h2 : pt_in x1 6) (h3 : ¬ x2 < 0) (h4 : ro_P M2 (120 * x1) (((1 : Int32) <<< ((pt_A M2 31 0 (pt_nt x1)) &&& 31)) - 1) n B) (h5 : st_P (ri_I n B (((1 : Int32) <<< ((pt_A M2 31 0 (pt_nt x1)) &&& 31)) - 1)) 0) (h6 : ¬ x2 < (nI (pc_F (pt_nt (ri_I n B (((1 : Int32) <<< ((pt_A M2 31 0 (pt_nt x1)) &&& 31)) - 1)))))) :
    pt_Go YX7_onRim (0, [(0, pt_r 7 0), (1, pt_i x1), (2, pt_i x2)], [], M)
      (64, [(0, pt_r 7 0), (1, pt_i x1), (2, pt_i x2), (3, pt_i 1), (4, pt_i (((1 : Int32) <<< ((pt_A M2 31 0 (pt_nt x1)) &&& 31)) - 1))], [pt_i 0], (pt_wF M2 7 0 0 1)) :=
  pt_run_ok tX7_onRim_ok 35 [.inr (2, some (pt_i 1), M2), .inl false, .inl false, .inl false, .inr (3, some (pt_i (ri_I n B (((1 : Int32) <<< ((pt_A M2 31 0 (pt_nt x1)) &&& 31)) - 1))), M2), .inr (1, some (pt_i (nI (pc_F (pt_nt (ri_I n B (((1 : Int32) <<< ((pt_A M2 31 0 (pt_nt x1)) &&& 31)) - 1)))))), M2), .inl false, .inr (2, some (pt_i 1), (pt_wF M2 7 0 0 1)), .inl false] (P := pt_Cal YX7_onRim (.invokevirtual 141) [pt_r 7 0, pt_i x1] M (some (pt_i 1)) M2 ∧ (¬ (1 : Int32) = (0 : Int32)) ∧ (pt_in x1 6) ∧ (¬ (1 : Int32) = (0 : Int32)) ∧ (¬ x2 < 0) ∧ pt_Cal YX7_onRim (.invokevirtual 147) [pt_r 7 0, pt_i (120 * x1), pt_i (((1 : Int32) <<< ((pt_A M2 31 0 (pt_nt x1)) &&& 31)) - 1)] M2 (some (pt_i (ri_I n B (((1 : Int32) <<< ((pt_A M2 31 0 (pt_nt x1)) &&& 31)) - 1)))) M2 ∧ pt_Cal YX7_onRim (.invokestatic 129) [pt_i (ri_I n B (((1 : Int32) <<< ((pt_A M2 31 0 (pt_nt x1)) &&& 31)) - 1))] M2 (some (pt_i (nI (pc_F (pt_nt (ri_I n B (((1 : Int32) <<< ((pt_A M2 31 0 (pt_nt x1)) &&& 31)) - 1))))))) M2 ∧ (¬ x2 < (nI (pc_F (pt_nt (ri_I n B (((1 : Int32) <<< ((pt_A M2 31 0 (pt_nt x1)) &&& 31)) - 1)))))) ∧ pt_Cal YX7_onRim (.invokevirtual 150) [pt_r 7 0, pt_i 1] M2 (some (pt_i 1)) (pt_wF M2 7 0 0 1) ∧ (¬ (1 : Int32) = (0 : Int32)) ∧ True) (by with_unfolding_all rfl) ⟨(pt_callV (i := 0) kX7_onRim_141 mX7_isLawful rfl (by decide) rfl h1), (by decide), h2, (by decide), h3, (pt_callV (i := 0) kX7_onRim_147 mX7_rimOf rfl (by decide) rfl (dX7_rimOf_t h4)), (pt_callS kX7_onRim_129 mX7_bits rfl (dX7_bits_t h5)), h6, (pt_callV (i := 0) kX7_onRim_150 mX7_throwsIf rfl (by decide) rfl (dX7_throwsIf (by decide))), (by decide), trivial⟩
set_option maxRecDepth 100000 in
theorem gX7_onRim_0_2 (x1 : Int32) (x2 : Int32) (n : Nat) (B : Nat → Nat → Nat → Bool) (M2 : pt_M) (M : pt_M) (h1 : pt_Does yX7_isLawful YX7_isLawful [pt_r 7 0, pt_i x1] M (some (pt_i 1)) M2) (h2 : pt_in x1 6) (h3 : ¬ x2 < 0) (h4 : ro_P M2 (120 * x1) (((1 : Int32) <<< ((pt_A M2 31 0 (pt_nt x1)) &&& 31)) - 1) n B) (h5 : st_P (ri_I n B (((1 : Int32) <<< ((pt_A M2 31 0 (pt_nt x1)) &&& 31)) - 1)) 0) (h6 : x2 < (nI (pc_F (pt_nt (ri_I n B (((1 : Int32) <<< ((pt_A M2 31 0 (pt_nt x1)) &&& 31)) - 1)))))) :
    pt_Go YX7_onRim (0, [(0, pt_r 7 0), (1, pt_i x1), (2, pt_i x2)], [], M)
      (68, [(0, pt_r 7 0), (1, pt_i x1), (2, pt_i x2), (4, pt_i (((1 : Int32) <<< ((pt_A M2 31 0 (pt_nt x1)) &&& 31)) - 1)), (5, pt_i 0)], [], (pt_wF M2 7 0 0 0)) :=
  (pt_run_ok tX7_onRim_ok 35 [.inr (2, some (pt_i 1), M2), .inl false, .inl false, .inl false, .inr (3, some (pt_i (ri_I n B (((1 : Int32) <<< ((pt_A M2 31 0 (pt_nt x1)) &&& 31)) - 1))), M2), .inr (1, some (pt_i (nI (pc_F (pt_nt (ri_I n B (((1 : Int32) <<< ((pt_A M2 31 0 (pt_nt x1)) &&& 31)) - 1)))))), M2), .inl true, .inr (2, some (pt_i 0), (pt_wF M2 7 0 0 0)), .inl true] (P := pt_Cal YX7_onRim (.invokevirtual 141) [pt_r 7 0, pt_i x1] M (some (pt_i 1)) M2 ∧ (¬ (1 : Int32) = (0 : Int32)) ∧ (pt_in x1 6) ∧ (¬ (1 : Int32) = (0 : Int32)) ∧ (¬ x2 < 0) ∧ pt_Cal YX7_onRim (.invokevirtual 147) [pt_r 7 0, pt_i (120 * x1), pt_i (((1 : Int32) <<< ((pt_A M2 31 0 (pt_nt x1)) &&& 31)) - 1)] M2 (some (pt_i (ri_I n B (((1 : Int32) <<< ((pt_A M2 31 0 (pt_nt x1)) &&& 31)) - 1)))) M2 ∧ pt_Cal YX7_onRim (.invokestatic 129) [pt_i (ri_I n B (((1 : Int32) <<< ((pt_A M2 31 0 (pt_nt x1)) &&& 31)) - 1))] M2 (some (pt_i (nI (pc_F (pt_nt (ri_I n B (((1 : Int32) <<< ((pt_A M2 31 0 (pt_nt x1)) &&& 31)) - 1))))))) M2 ∧ (x2 < (nI (pc_F (pt_nt (ri_I n B (((1 : Int32) <<< ((pt_A M2 31 0 (pt_nt x1)) &&& 31)) - 1)))))) ∧ pt_Cal YX7_onRim (.invokevirtual 150) [pt_r 7 0, pt_i 0] M2 (some (pt_i 0)) (pt_wF M2 7 0 0 0) ∧ ((0 : Int32) = (0 : Int32)) ∧ True) (by with_unfolding_all rfl) ⟨(pt_callV (i := 0) kX7_onRim_141 mX7_isLawful rfl (by decide) rfl h1), (by decide), h2, (by decide), h3, (pt_callV (i := 0) kX7_onRim_147 mX7_rimOf rfl (by decide) rfl (dX7_rimOf_t h4)), (pt_callS kX7_onRim_129 mX7_bits rfl (dX7_bits_t h5)), h6, (pt_callV (i := 0) kX7_onRim_150 mX7_throwsIf rfl (by decide) rfl (dX7_throwsIf (by decide))), (by decide), trivial⟩ : pt_Go YX7_onRim _ (68, [(0, pt_r 7 0), (1, pt_i x1), (2, pt_i x2), (3, pt_i 1), (4, pt_i (((1 : Int32) <<< ((pt_A M2 31 0 (pt_nt x1)) &&& 31)) - 1)), (5, pt_i 0)], [], (pt_wF M2 7 0 0 0))).tr (pt_pick [0, 1, 2, 4, 5] (by with_unfolding_all rfl))
set_option maxRecDepth 100000 in
theorem gX7_onRim_0_3 (x1 : Int32) (x2 : Int32) (n : Nat) (B : Nat → Nat → Nat → Bool) (M2 : pt_M) (M : pt_M) (h1 : pt_Does yX7_isLawful YX7_isLawful [pt_r 7 0, pt_i x1] M (some (pt_i 1)) M2) (h2 : pt_in x1 6) (h3 : x2 < 0) :
    pt_Go YX7_onRim (0, [(0, pt_r 7 0), (1, pt_i x1), (2, pt_i x2)], [], M)
      (64, [(0, pt_r 7 0), (1, pt_i x1), (2, pt_i x2), (3, pt_i 1), (4, pt_i (((1 : Int32) <<< ((pt_A M2 31 0 (pt_nt x1)) &&& 31)) - 1))], [pt_i 0], (pt_wF M2 7 0 0 1)) :=
  pt_run_ok tX7_onRim_ok 26 [.inr (2, some (pt_i 1), M2), .inl false, .inl false, .inl true, .inr (2, some (pt_i 1), (pt_wF M2 7 0 0 1)), .inl false] (P := pt_Cal YX7_onRim (.invokevirtual 141) [pt_r 7 0, pt_i x1] M (some (pt_i 1)) M2 ∧ (¬ (1 : Int32) = (0 : Int32)) ∧ (pt_in x1 6) ∧ (¬ (1 : Int32) = (0 : Int32)) ∧ (x2 < 0) ∧ pt_Cal YX7_onRim (.invokevirtual 150) [pt_r 7 0, pt_i 1] M2 (some (pt_i 1)) (pt_wF M2 7 0 0 1) ∧ (¬ (1 : Int32) = (0 : Int32)) ∧ True) (by with_unfolding_all rfl) ⟨(pt_callV (i := 0) kX7_onRim_141 mX7_isLawful rfl (by decide) rfl h1), (by decide), h2, (by decide), h3, (pt_callV (i := 0) kX7_onRim_150 mX7_throwsIf rfl (by decide) rfl (dX7_throwsIf (by decide))), (by decide), trivial⟩
set_option maxRecDepth 100000 in
theorem gX7_onRim_0_4 (x1 : Int32) (x2 : Int32) (n : Nat) (B : Nat → Nat → Nat → Bool) (M2 : pt_M) (M : pt_M) (h1 : pt_Does yX7_isLawful YX7_isLawful [pt_r 7 0, pt_i x1] M (some (pt_i 0)) M2) :
    pt_Go YX7_onRim (0, [(0, pt_r 7 0), (1, pt_i x1), (2, pt_i x2)], [], M)
      (64, [(0, pt_r 7 0), (1, pt_i x1), (2, pt_i x2), (3, pt_i 0), (4, pt_i 0)], [pt_i 0], (pt_wF M2 7 0 0 1)) :=
  pt_run_ok tX7_onRim_ok 16 [.inr (2, some (pt_i 0), M2), .inl true, .inl true, .inr (2, some (pt_i 1), (pt_wF M2 7 0 0 1)), .inl false] (P := pt_Cal YX7_onRim (.invokevirtual 141) [pt_r 7 0, pt_i x1] M (some (pt_i 0)) M2 ∧ ((0 : Int32) = (0 : Int32)) ∧ ((0 : Int32) = (0 : Int32)) ∧ pt_Cal YX7_onRim (.invokevirtual 150) [pt_r 7 0, pt_i 1] M2 (some (pt_i 1)) (pt_wF M2 7 0 0 1) ∧ (¬ (1 : Int32) = (0 : Int32)) ∧ True) (by with_unfolding_all rfl) ⟨(pt_callV (i := 0) kX7_onRim_141 mX7_isLawful rfl (by decide) rfl h1), (by decide), (by decide), (pt_callV (i := 0) kX7_onRim_150 mX7_throwsIf rfl (by decide) rfl (dX7_throwsIf (by decide))), (by decide), trivial⟩
set_option maxRecDepth 100000 in
theorem gX7_onRim_68_1 (l1 : Int32) (l2 : Int32) (l4 : Int32) (l5 : Int32) (n : Nat) (B : Nat → Nat → Nat → Bool) (M2 : pt_M) (M : pt_M) (h1 : nt_P M (120 * l1) l4 l5 n B) (h2 : ¬ 0 ≤ (nx_I n B l4 l5)) :
    pt_Go YX7_onRim (68, [(0, pt_r 7 0), (1, pt_i l1), (2, pt_i l2), (4, pt_i l4), (5, pt_i l5)], [], M)
      (68, [(0, pt_r 7 0), (1, pt_i l1), (2, pt_i l2), (4, pt_i l4), (5, pt_i (l5 + 1))], [], M) :=
  pt_run_ok tX7_onRim_ok 10 [.inr (4, some (pt_i (nx_I n B l4 l5)), M), .inl false] (P := pt_Cal YX7_onRim (.invokevirtual 144) [pt_r 7 0, pt_i (120 * l1), pt_i l4, pt_i l5] M (some (pt_i (nx_I n B l4 l5))) M ∧ (¬ 0 ≤ (nx_I n B l4 l5)) ∧ True) (by with_unfolding_all rfl) ⟨(pt_callV (i := 0) kX7_onRim_144 mX7_nextTo rfl (by decide) rfl (dX7_nextTo_t h1)), h2, trivial⟩
set_option maxRecDepth 100000 in
theorem gX7_onRim_68_2 (l1 : Int32) (l2 : Int32) (l4 : Int32) (l5 : Int32) (n : Nat) (B : Nat → Nat → Nat → Bool) (M2 : pt_M) (M : pt_M) (h1 : nt_P M (120 * l1) l4 l5 n B) (h2 : 0 ≤ (nx_I n B l4 l5)) :
    pt_Go YX7_onRim (68, [(0, pt_r 7 0), (1, pt_i l1), (2, pt_i l2), (4, pt_i l4), (5, pt_i l5)], [], M)
      (92, [(0, pt_r 7 0), (1, pt_i l1), (2, pt_i l2), (4, pt_i l4), (5, pt_i l5), (6, pt_i 0)], [], M) :=
  pt_run_ok tX7_onRim_ok 10 [.inr (4, some (pt_i (nx_I n B l4 l5)), M), .inl true] (P := pt_Cal YX7_onRim (.invokevirtual 144) [pt_r 7 0, pt_i (120 * l1), pt_i l4, pt_i l5] M (some (pt_i (nx_I n B l4 l5))) M ∧ (0 ≤ (nx_I n B l4 l5)) ∧ True) (by with_unfolding_all rfl) ⟨(pt_callV (i := 0) kX7_onRim_144 mX7_nextTo rfl (by decide) rfl (dX7_nextTo_t h1)), h2, trivial⟩
set_option maxRecDepth 100000 in
theorem gX7_onRim_92_1 (l1 : Int32) (l2 : Int32) (l4 : Int32) (l5 : Int32) (l6 : Int32) (n : Nat) (B : Nat → Nat → Nat → Bool) (M2 : pt_M) (M : pt_M) (h1 : ¬ l2 ≤ l6) (h2 : nt_P M (120 * l1) l4 l5 n B) :
    pt_Go YX7_onRim (92, [(0, pt_r 7 0), (1, pt_i l1), (2, pt_i l2), (4, pt_i l4), (5, pt_i l5), (6, pt_i l6)], [], M)
      (92, [(0, pt_r 7 0), (1, pt_i l1), (2, pt_i l2), (4, pt_i l4), (5, pt_i (nx_I n B l4 l5)), (6, pt_i (l6 + 1))], [], M) :=
  pt_run_ok tX7_onRim_ok 13 [.inl false, .inr (4, some (pt_i (nx_I n B l4 l5)), M)] (P := (¬ l2 ≤ l6) ∧ pt_Cal YX7_onRim (.invokevirtual 144) [pt_r 7 0, pt_i (120 * l1), pt_i l4, pt_i l5] M (some (pt_i (nx_I n B l4 l5))) M ∧ True) (by with_unfolding_all rfl) ⟨h1, (pt_callV (i := 0) kX7_onRim_144 mX7_nextTo rfl (by decide) rfl (dX7_nextTo_t h2)), trivial⟩
set_option maxRecDepth 100000 in
theorem gX7_onRim_92_2 (l1 : Int32) (l2 : Int32) (l4 : Int32) (l5 : Int32) (l6 : Int32) (n : Nat) (B : Nat → Nat → Nat → Bool) (M2 : pt_M) (M : pt_M) (h1 : l2 ≤ l6) :
    pt_Go YX7_onRim (92, [(0, pt_r 7 0), (1, pt_i l1), (2, pt_i l2), (4, pt_i l4), (5, pt_i l5), (6, pt_i l6)], [], M)
      (120, [(0, pt_r 7 0), (1, pt_i l1), (2, pt_i l2), (4, pt_i l4), (5, pt_i l5), (6, pt_i l6)], [pt_i l5], M) :=
  pt_run_ok tX7_onRim_ok 4 [.inl true] (P := (l2 ≤ l6) ∧ True) (by with_unfolding_all rfl) ⟨h1, trivial⟩
theorem dX7_onRim_y {s n p k : Nat} {B : Nat → Nat → Nat → Bool} {M M2 : pt_M} (hs : s < 6) (hl : pt_Does yX7_isLawful YX7_isLawful [pt_r 7 0, pt_i (nI s)] M (some (pt_i 1)) M2) (hN : pt_A M2 31 0 s = nI n) (h : ml_P M2 (120 * s) n B) (hlw : lw_P n B) (h3 : 3 ≤ n) (hk : k < pc_F (ri_F n B (2 ^ n - 1))) (hp : (ri_F n B (2 ^ n - 1)).testBit p = true) (hp1 : p < n) (hp2 : ∀ t, t < p → nx_F n B (2 ^ n - 1) t = none) : pt_Does yX7_onRim YX7_onRim [pt_r 7 0, pt_i (nI s), pt_i (nI k)] M (some (pt_i (nI (rz_F n B p k)))) (pt_wF M2 7 0 0 0) := by
  have hn := h.2.1
  have h2 := pb_p2 hn
  have h20 := Nat.two_pow_pos n
  have es : pt_nt (nI s) = s := pt_nt_nI (by omega)
  have hN' : pt_A M2 31 0 (pt_nt (nI s)) = nI n := by rw [es]; exact hN
  have hrl := ri_lt (B := B) hn (m := 2 ^ n - 1) (by omega)
  have hpl := pc_le (ri_F n B (2 ^ n - 1))
  have g0 := gX7_onRim_0_2 (nI s) (nI k) n B M2 M hl (pt_in_nI hs (by decide)) (nI_pos (by omega))
  rw [hN', e2_n hn, ri_nI (by omega), pt_nt_nI (by omega)] at g0
  have g0 := g0 ⟨120 * s, 2 ^ n - 1, m120 s, rfl, h, by omega⟩ ⟨_, rfl, hrl⟩ (nI_lt hk (by omega))
  have hX : M2.2.2.2.2 = M.2.2.2.2 := dX_x5 hl
  have h' : ml_P (pt_wF M2 7 0 0 0) (120 * s) n B := h
  have hX' : (pt_wF M2 7 0 0 0).2.2.2.2 = M.2.2.2.2 := hX
  generalize pt_wF M2 7 0 0 0 = M3 at *
  have hnt : ∀ i, i < n → nt_P M3 (120 * nI s) (nI (2 ^ n - 1)) (nI i) n B := fun i hi => ⟨120 * s, 2 ^ n - 1, i, m120 s, rfl, rfl, h', by omega, hi⟩
  have K1 := pt_for0 (Y := YX7_onRim) (fun t => (68, [(0, pt_r 7 0), (1, pt_i (nI s)), (2, pt_i (nI k)), (4, pt_i (nI (2 ^ n - 1))), (5, pt_i (nI t))], [], M3)) (n := p) fun t ht => by
    refine (gX7_onRim_68_1 (nI s) (nI k) (nI (2 ^ n - 1)) (nI t) n B M3 M3 (hnt t (by omega)) ?_).to ?_
    · exact fun z => Int32.not_le.mpr (nx_n (by omega) (by omega) (hp2 t ht)) z
    · rw [nI_1]
  have r2 : nx_F n B (2 ^ n - 1) p = some (rz_F n B p 1) := (rz_ok hlw h3 hp 0).2.1
  have g1 := gX7_onRim_68_2 (nI s) (nI k) (nI (2 ^ n - 1)) (nI p) n B M3 M3 (hnt p hp1) (Int32.not_lt.mp (nx_y hn (by omega) (by omega) r2).2)
  have K2 := pt_for0 (Y := YX7_onRim) (fun j => (92, [(0, pt_r 7 0), (1, pt_i (nI s)), (2, pt_i (nI k)), (4, pt_i (nI (2 ^ n - 1))), (5, pt_i (nI (rz_F n B p j))), (6, pt_i (nI j))], [], M3)) (n := k) fun j hj => by
    obtain ⟨a1, a2, -⟩ := rz_ok hlw h3 hp j
    have a3 : rz_F n B p j < n := tb_lt (ri_2 (by omega)) a1
    refine (gX7_onRim_92_1 (nI s) (nI k) (nI (2 ^ n - 1)) (nI (rz_F n B p j)) (nI j) n B M3 M3 (nI_ge hj (by omega)) (hnt _ a3)).to ?_
    rw [(nx_y hn (by omega) (by omega) a2).1, nI_1]
  exact rX7_onRim_120 (Nat.le_of_ble_eq_true rfl) hX' (g0.tr (K1.tr (g1.tr (K2.tr (gX7_onRim_92_2 (nI s) (nI k) (nI (2 ^ n - 1)) (nI (rz_F n B p k)) (nI k) n B M3 M3 (Int32.le_refl _))))))
def oR_P (M : pt_M) (x k : Int32) : Prop := (∃ M1 M2 r, pt_Does yX6_onRim YX6_onRim [pt_r 2 0, pt_i x, pt_i k] M (some (pt_i r)) M1 ∧ pt_Does yX7_onRim YX7_onRim [pt_r 7 0, pt_i x, pt_i k] M1 (some (pt_i r)) M2 ∧ pt_F M2 7 0 0 = 0 ∧ IV_P M2) ∨ ∃ M1 M2 c L, (c = 10 ∨ c = 43) ∧ M1.2.2.2.2 = M.2.2.2.2 ∧ pt_Go YX6_onRim (0, [(0, pt_r 2 0), (1, pt_i x), (2, pt_i k)], [], M) (c, L, [], M1) ∧ pt_Does yX7_onRim YX7_onRim [pt_r 7 0, pt_i x, pt_i k] M1 (some (pt_i 0)) M2 ∧ pt_F M2 7 0 0 = 1 ∧ IV_P M2
theorem op_onRim {M : pt_M} (h : IV_P M) (x k : Int32) : oR_P M x k := by
  obtain ⟨A, hC, hM⟩ := h
  have zB : Nat → Nat → Nat → Bool := fun _ _ _ => false
  rcases lw_case hC x with ⟨h1, h2⟩ | ⟨s, hs, rfl, hn⟩
  · exact .inr ⟨M, pt_wF M 7 0 0 1, 10, _, .inl rfl, rfl, gX6_onRim_0_5 x k 0 zB 0 M h1, rX7_onRim_64 (Nat.le_of_ble_eq_true rfl) rfl (gX7_onRim_0_4 x k 0 zB M M (il_0 (h2 M hM))), rfl, A, CR_ca hC ca_wF, hM⟩
  obtain ⟨q1, q2, q3, q4, q5, q6⟩ := CR_y hC hs hn
  have hM1 := MR_mo hM (mo_wm (x := nI s) (n := iv_N A s) (B := iv_B A s))
  have hC1 := CR_wm hC hs hn
  have es : pt_nt (nI s) = s := pt_nt_nI (by omega)
  obtain ⟨g, hg⟩ := il_y hM1 hs hn
  by_cases hz : wy_F (iv_N A s) (iv_B A s) = 0
  · rw [decide_eq_true hz] at hg
    have hl := CR_lA hC hs hn hz
    have hlw : lw_P (iv_N A s) (iv_B A s) := lw_of q2 nB_sy hz
    have htb : tb_P (wl_M M (nI s) (iv_N A s) (iv_B A s)) (pt_R M (pt_nt (nI s) + 1)) (iv_N A s) (iv_B A s) := hl.2.1
    have hM2 : MR_P (pt_wA (wl_M M (nI s) (iv_N A s) (iv_B A s)) 36 0 g) A := MR_w hM1 (by decide) (by decide) (by decide) (by decide) (by decide) (by decide)
    have y3 := MR_y hM2 hs hn
    have hC2 : CR_P (pt_wA (wl_M M (nI s) (iv_N A s) (iv_B A s)) 36 0 g) A := CR_ca hC1 ca_36
    have hep : ep_F (wl_M M (nI s) (iv_N A s) (iv_B A s)) (pt_R M (pt_nt (nI s) + 1)) = nI (2 ^ iv_N A s - 1) := ep_nI q2 htb.2.2.1
    have h2n := pb_p2 q2
    have h20 := Nat.two_pow_pos (iv_N A s)
    have hm : 2 ^ iv_N A s - 1 < 1024 := by omega
    have hri := ri_nI (n := iv_N A s) (B := iv_B A s) hm
    have hrl := ri_lt (B := iv_B A s) q2 hm
    have hpl := pc_le (ri_F (iv_N A s) (iv_B A s) (2 ^ iv_N A s - 1))
    have hN36 : pt_A (pt_wA (wl_M M (nI s) (iv_N A s) (iv_B A s)) 36 0 g) 31 0 (pt_nt (nI s)) = nI (iv_N A s) := by rw [es]; exact y3.2.1
    have hro : ro_P (pt_wA (wl_M M (nI s) (iv_N A s) (iv_B A s)) 36 0 g) (120 * nI s) (nI (2 ^ iv_N A s - 1)) (iv_N A s) (iv_B A s) := ⟨120 * s, 2 ^ iv_N A s - 1, m120 s, rfl, y3.2.2, by omega⟩
    by_cases c1 : k < 0
    · refine .inr ⟨wl_M M (nI s) (iv_N A s) (iv_B A s), pt_wF (pt_wA (wl_M M (nI s) (iv_N A s) (iv_B A s)) 36 0 g) 7 0 0 1, 43, _, .inr rfl, rfl, gX6_onRim_0_3 (nI s) k (iv_N A s) (iv_B A s) 0 M hl htb.1 htb (by rw [hep]; exact ⟨_, rfl, hm⟩) c1, rX7_onRim_64 (Nat.le_of_ble_eq_true rfl) rfl (gX7_onRim_0_3 (nI s) k (iv_N A s) (iv_B A s) _ _ hg (pt_in_nI hs (by decide)) c1), rfl, A, CR_ca hC2 ca_wF, hM2⟩
    · by_cases c2 : k < nI (pc_F (ri_F (iv_N A s) (iv_B A s) (2 ^ iv_N A s - 1)))
      · obtain ⟨k', k1, rfl⟩ := hp_of hpl c1 (Int32.not_le.mpr c2)
        obtain ⟨p, p1, p2, p3, p4⟩ := le_ex hlw q1
        have d1 := dX6_onRim (x1 := nI s) (a := rz_F (iv_N A s) (iv_B A s) p) (M := M) hl k1 p1 fun j _ => ⟨tb_lt (ri_2 (by omega)) (rz_ok hlw q1 p3 j).1, (rz_ok hlw q1 p3 j).2.2⟩
        exact .inl ⟨_, pt_wF (pt_wA (wl_M M (nI s) (iv_N A s) (iv_B A s)) 36 0 g) 7 0 0 0, _, d1, dX7_onRim_y hs hg y3.2.1 y3.2.2 hlw q1 k1 p3 p2 p4, rfl, A, CR_ca hC2 ca_wF, hM2⟩
      · have g6 := gX6_onRim_0_1 (nI s) k (iv_N A s) (iv_B A s) 0 M hl htb.1 htb
        rw [hep, hri, bc_nI hrl] at g6
        have g7 := gX7_onRim_0_1 (nI s) k (iv_N A s) (iv_B A s) _ _ hg (pt_in_nI hs (by decide)) c1
        rw [hN36, e2_n q2, hri, pt_nt_nI (by omega)] at g7
        exact .inr ⟨wl_M M (nI s) (iv_N A s) (iv_B A s), pt_wF (pt_wA (wl_M M (nI s) (iv_N A s) (iv_B A s)) 36 0 g) 7 0 0 1, 43, _, .inr rfl, rfl, g6 ⟨_, rfl, hm⟩ c1 c2, rX7_onRim_64 (Nat.le_of_ble_eq_true rfl) rfl (g7 hro ⟨_, rfl, hrl⟩ c2), rfl, A, CR_ca hC2 ca_wF, hM2⟩
  · rw [decide_eq_false hz] at hg
    have hM2 : MR_P (pt_wA (wl_M M (nI s) (iv_N A s) (iv_B A s)) 36 0 g) A := MR_w hM1 (by decide) (by decide) (by decide) (by decide) (by decide) (by decide)
    exact .inr ⟨wl_M M (nI s) (iv_N A s) (iv_B A s), pt_wF (pt_wA (wl_M M (nI s) (iv_N A s) (iv_B A s)) 36 0 g) 7 0 0 1, 10, _, .inl rfl, rfl, gX6_onRim_0_4 (nI s) k (iv_N A s) (iv_B A s) 0 M (CR_lN hC hs hn hz), rX7_onRim_64 (Nat.le_of_ble_eq_true rfl) rfl (gX7_onRim_0_4 (nI s) k (iv_N A s) (iv_B A s) _ _ hg), rfl, A, CR_ca (CR_ca hC1 ca_36) ca_wF, hM2⟩
