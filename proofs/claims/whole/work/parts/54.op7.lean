/-! CALLS ON BOTH SIDES: without, rename -/
def im_M (M : pt_M) (n : Nat) (g : Nat → Nat) : pt_M := pt_wA M 35 0 (co_F (pt_A M 35 0) (fun p => nI (g p)) n)
theorem im_zero (M : pt_M) (g : Nat → Nat) : im_M M 0 g = M := by
  unfold im_M
  rw [co_zero, pt_wA_self]
theorem im_step (M : pt_M) {p : Nat} (g : Nat → Nat) : pt_wA (im_M M p g) 35 0 (upd (pt_A (im_M M p g) 35 0) p (nI (g p))) = im_M M (p + 1) g := by
  unfold im_M
  rw [pt_wA_wA, pt_A_wA]
  exact congrArg (pt_wA M 35 0) (co_step (pt_A M 35 0) (fun p => nI (g p)) p)
theorem im_at {M : pt_M} {n i : Nat} {g : Nat → Nat} (h : i < n) : pt_A (im_M M n g) 35 0 i = nI (g i) := by
  unfold im_M
  rw [pt_A_wA]
  exact if_pos h
/-- the table that pick leaves -/
def pk_M (M : pt_M) (s n : Nat) (S : Nat → Nat → Nat → Bool) : pt_M := sl_M (cc_M (st_M M 840 n S) 840 (nI (120 * s))) s n
theorem pk_ca {M : pt_M} {s n : Nat} {S : Nat → Nat → Nat → Bool} : ca_P M (pk_M M s n S) := ((ca_wA (by decide)).tr (ca_wA (by decide))).tr (ca_wA (by decide))
theorem pk_32 {M : pt_M} {s n : Nat} {S : Nat → Nat → Nat → Bool} (hs : s < 6) : pt_A (pk_M M s n S) 32 0 = cb_F (pt_A (st_M M 840 n S) 32 0) 840 (120 * s) 120 := by
  show pt_A (cc_M (st_M M 840 n S) 840 (nI (120 * s))) 32 0 = _
  unfold cc_M
  rw [pt_A_wA, pt_nt_nI (by omega), show (840 : Int32) = nI 840 from rfl, pt_nt_nI (by decide)]
theorem MR_pk {M : pt_M} {A : iv_A} {s n : Nat} {S : Nat → Nat → Nat → Bool} (h : MR_P M A) (hs : s < 6) (h3 : 3 ≤ n) (hn : n ≤ 10) : MR_P (pk_M M s n S) (iv_set A s n S) := by
  refine MR_slot h hs rfl rfl rfl rfl rfl rfl rfl (fun q hq => ?_) (fun p g1 g2 => ?_) ⟨?_, Or.inr ⟨h3, ml_of (by omega) hn fun i j k a1 a2 a3 => ?_⟩⟩
  · unfold pk_M sl_M
    rw [pt_A_wA]
    unfold upd
    rw [if_neg hq]
    rfl
  · rw [pk_32 hs]
    unfold cb_F
    rw [if_neg (by omega)]
    unfold st_M
    rw [pt_A_wA]
    exact sm_out (by omega)
  · unfold pk_M sl_M
    rw [pt_A_wA]
    unfold upd
    rw [if_pos rfl]
  · obtain ⟨-, t2⟩ := th_nI a1 a2 (show k < 10 by omega)
    rw [pk_32 hs]
    unfold cb_F
    rw [if_pos (by omega), show 120 * s + th_F i j k - 120 * s + 840 = 840 + th_F i j k by omega]
    exact st_at hn a1 a2 a3
theorem rX7_without_45 {vs : List pt_V} {M M' : pt_M} {x : Int32} {L : List (Nat × pt_V)} (hn : narrow .boolean (.int x) = .int x) (hvs : (vs.map pt_w).sum ≤ 6) (hX : M'.2.2.2.2 = M.2.2.2.2) (h : pt_Go YX7_without (0, pt_en 0 vs, [], M) (45, L, [pt_i x], M')) : pt_Does yX7_without YX7_without vs M (some (pt_i x)) M' := pt_does_go tX7_without_ok nX7_without hvs hX ⟨_, by with_unfolding_all rfl, rfl, _, rfl, hn⟩ h
theorem rX7_without_117 {vs : List pt_V} {M M' : pt_M} {x : Int32} {L : List (Nat × pt_V)} (hn : narrow .boolean (.int x) = .int x) (hvs : (vs.map pt_w).sum ≤ 6) (hX : M'.2.2.2.2 = M.2.2.2.2) (h : pt_Go YX7_without (0, pt_en 0 vs, [], M) (117, L, [pt_i x], M')) : pt_Does yX7_without YX7_without vs M (some (pt_i x)) M' := pt_does_go tX7_without_ok nX7_without hvs hX ⟨_, by with_unfolding_all rfl, rfl, _, rfl, hn⟩ h
set_option maxRecDepth 100000 in
theorem gX7_without_0_1 (x1 : Int32) (x2 : Int32) (x3 : Int32) (M2 : pt_M) (M : pt_M) (h1 : sl_P x1) (h2 : mA_P (pt_wF M 7 0 0 0) x2) (h3 : ¬ x3 < 0) (h4 : pt_in x2 6) (h5 : ¬ (pt_A (pt_wF M 7 0 0 0) 31 0 (pt_nt x2)) ≤ x3) (h6 : (pt_A (pt_wF M 7 0 0 0) 31 0 (pt_nt x2)) = 3) :
    pt_Go YX7_without (0, [(0, pt_r 7 0), (1, pt_i x1), (2, pt_i x2), (3, pt_i x3)], [], M)
      (45, [(0, pt_r 7 0), (1, pt_i x1), (2, pt_i x2), (3, pt_i x3)], [pt_i 0], (pt_wF M 7 0 0 0)) :=
  pt_run_ok tX7_without_ok 25 [.inr (1, some (pt_i 1), (pt_wF M 7 0 0 0)), .inl false, .inr (2, some (pt_i 1), (pt_wF M 7 0 0 0)), .inl false, .inl false, .inl false, .inl false] (P := pt_Cal YX7_without (.invokestatic 85) [pt_i x1] (pt_wF M 7 0 0 0) (some (pt_i 1)) (pt_wF M 7 0 0 0) ∧ (¬ (1 : Int32) = (0 : Int32)) ∧ pt_Cal YX7_without (.invokevirtual 89) [pt_r 7 0, pt_i x2] (pt_wF M 7 0 0 0) (some (pt_i 1)) (pt_wF M 7 0 0 0) ∧ (¬ (1 : Int32) = (0 : Int32)) ∧ (¬ x3 < 0) ∧ (pt_in x2 6) ∧ (¬ (pt_A (pt_wF M 7 0 0 0) 31 0 (pt_nt x2)) ≤ x3) ∧ (pt_in x2 6) ∧ ((pt_A (pt_wF M 7 0 0 0) 31 0 (pt_nt x2)) = 3) ∧ True) (by with_unfolding_all rfl) ⟨(pt_callS kX7_without_85 mX7_isSlot rfl (dX7_isSlot_1 h1)), (by decide), (pt_callV (i := 0) kX7_without_89 mX7_has rfl (by decide) rfl (dX7_has_1 h2)), (by decide), h3, h4, h5, h4, h6, trivial⟩
set_option maxRecDepth 100000 in
theorem gX7_without_0_2 (x1 : Int32) (x2 : Int32) (x3 : Int32) (M2 : pt_M) (M : pt_M) (h1 : sl_P x1) (h2 : mA_P (pt_wF M 7 0 0 0) x2) (h3 : ¬ x3 < 0) (h4 : pt_in x2 6) (h5 : ¬ (pt_A (pt_wF M 7 0 0 0) 31 0 (pt_nt x2)) ≤ x3) (h6 : ¬ (pt_A (pt_wF M 7 0 0 0) 31 0 (pt_nt x2)) = 3) :
    pt_Go YX7_without (0, [(0, pt_r 7 0), (1, pt_i x1), (2, pt_i x2), (3, pt_i x3)], [], M)
      (59, [(0, pt_r 7 0), (1, pt_i x1), (2, pt_i x2), (3, pt_i x3), (4, pt_i ((pt_A (pt_wF M 7 0 0 0) 31 0 (pt_nt x2)) - 1)), (5, pt_i 0)], [], (pt_wF M 7 0 0 0)) :=
  pt_run_ok tX7_without_ok 33 [.inr (1, some (pt_i 1), (pt_wF M 7 0 0 0)), .inl false, .inr (2, some (pt_i 1), (pt_wF M 7 0 0 0)), .inl false, .inl false, .inl false, .inl true] (P := pt_Cal YX7_without (.invokestatic 85) [pt_i x1] (pt_wF M 7 0 0 0) (some (pt_i 1)) (pt_wF M 7 0 0 0) ∧ (¬ (1 : Int32) = (0 : Int32)) ∧ pt_Cal YX7_without (.invokevirtual 89) [pt_r 7 0, pt_i x2] (pt_wF M 7 0 0 0) (some (pt_i 1)) (pt_wF M 7 0 0 0) ∧ (¬ (1 : Int32) = (0 : Int32)) ∧ (¬ x3 < 0) ∧ (pt_in x2 6) ∧ (¬ (pt_A (pt_wF M 7 0 0 0) 31 0 (pt_nt x2)) ≤ x3) ∧ (pt_in x2 6) ∧ (¬ (pt_A (pt_wF M 7 0 0 0) 31 0 (pt_nt x2)) = 3) ∧ (pt_in x2 6) ∧ True) (by with_unfolding_all rfl) ⟨(pt_callS kX7_without_85 mX7_isSlot rfl (dX7_isSlot_1 h1)), (by decide), (pt_callV (i := 0) kX7_without_89 mX7_has rfl (by decide) rfl (dX7_has_1 h2)), (by decide), h3, h4, h5, h4, h6, h4, trivial⟩
set_option maxRecDepth 100000 in
theorem gX7_without_0_3 (x1 : Int32) (x2 : Int32) (x3 : Int32) (M2 : pt_M) (M : pt_M) (h1 : sl_P x1) (h2 : mA_P (pt_wF M 7 0 0 0) x2) (h3 : ¬ x3 < 0) (h4 : pt_in x2 6) (h5 : (pt_A (pt_wF M 7 0 0 0) 31 0 (pt_nt x2)) ≤ x3) :
    pt_Go YX7_without (0, [(0, pt_r 7 0), (1, pt_i x1), (2, pt_i x2), (3, pt_i x3)], [], M)
      (45, [(0, pt_r 7 0), (1, pt_i x1), (2, pt_i x2), (3, pt_i x3)], [pt_i 0], (pt_wF M 7 0 0 0)) :=
  pt_run_ok tX7_without_ok 19 [.inr (1, some (pt_i 1), (pt_wF M 7 0 0 0)), .inl false, .inr (2, some (pt_i 1), (pt_wF M 7 0 0 0)), .inl false, .inl false, .inl true] (P := pt_Cal YX7_without (.invokestatic 85) [pt_i x1] (pt_wF M 7 0 0 0) (some (pt_i 1)) (pt_wF M 7 0 0 0) ∧ (¬ (1 : Int32) = (0 : Int32)) ∧ pt_Cal YX7_without (.invokevirtual 89) [pt_r 7 0, pt_i x2] (pt_wF M 7 0 0 0) (some (pt_i 1)) (pt_wF M 7 0 0 0) ∧ (¬ (1 : Int32) = (0 : Int32)) ∧ (¬ x3 < 0) ∧ (pt_in x2 6) ∧ ((pt_A (pt_wF M 7 0 0 0) 31 0 (pt_nt x2)) ≤ x3) ∧ True) (by with_unfolding_all rfl) ⟨(pt_callS kX7_without_85 mX7_isSlot rfl (dX7_isSlot_1 h1)), (by decide), (pt_callV (i := 0) kX7_without_89 mX7_has rfl (by decide) rfl (dX7_has_1 h2)), (by decide), h3, h4, h5, trivial⟩
set_option maxRecDepth 100000 in
theorem gX7_without_0_4 (x1 : Int32) (x2 : Int32) (x3 : Int32) (M2 : pt_M) (M : pt_M) (h1 : sl_P x1) (h2 : mA_P (pt_wF M 7 0 0 0) x2) (h3 : x3 < 0) :
    pt_Go YX7_without (0, [(0, pt_r 7 0), (1, pt_i x1), (2, pt_i x2), (3, pt_i x3)], [], M)
      (45, [(0, pt_r 7 0), (1, pt_i x1), (2, pt_i x2), (3, pt_i x3)], [pt_i 0], (pt_wF M 7 0 0 0)) :=
  pt_run_ok tX7_without_ok 13 [.inr (1, some (pt_i 1), (pt_wF M 7 0 0 0)), .inl false, .inr (2, some (pt_i 1), (pt_wF M 7 0 0 0)), .inl false, .inl true] (P := pt_Cal YX7_without (.invokestatic 85) [pt_i x1] (pt_wF M 7 0 0 0) (some (pt_i 1)) (pt_wF M 7 0 0 0) ∧ (¬ (1 : Int32) = (0 : Int32)) ∧ pt_Cal YX7_without (.invokevirtual 89) [pt_r 7 0, pt_i x2] (pt_wF M 7 0 0 0) (some (pt_i 1)) (pt_wF M 7 0 0 0) ∧ (¬ (1 : Int32) = (0 : Int32)) ∧ (x3 < 0) ∧ True) (by with_unfolding_all rfl) ⟨(pt_callS kX7_without_85 mX7_isSlot rfl (dX7_isSlot_1 h1)), (by decide), (pt_callV (i := 0) kX7_without_89 mX7_has rfl (by decide) rfl (dX7_has_1 h2)), (by decide), h3, trivial⟩
set_option maxRecDepth 100000 in
theorem gX7_without_0_5 (x1 : Int32) (x2 : Int32) (x3 : Int32) (M2 : pt_M) (M : pt_M) (h1 : sl_P x1) (h2 : mN_P (pt_wF M 7 0 0 0) x2) :
    pt_Go YX7_without (0, [(0, pt_r 7 0), (1, pt_i x1), (2, pt_i x2), (3, pt_i x3)], [], M)
      (45, [(0, pt_r 7 0), (1, pt_i x1), (2, pt_i x2), (3, pt_i x3)], [pt_i 0], (pt_wF M 7 0 0 0)) :=
  pt_run_ok tX7_without_ok 11 [.inr (1, some (pt_i 1), (pt_wF M 7 0 0 0)), .inl false, .inr (2, some (pt_i 0), (pt_wF M 7 0 0 0)), .inl true] (P := pt_Cal YX7_without (.invokestatic 85) [pt_i x1] (pt_wF M 7 0 0 0) (some (pt_i 1)) (pt_wF M 7 0 0 0) ∧ (¬ (1 : Int32) = (0 : Int32)) ∧ pt_Cal YX7_without (.invokevirtual 89) [pt_r 7 0, pt_i x2] (pt_wF M 7 0 0 0) (some (pt_i 0)) (pt_wF M 7 0 0 0) ∧ ((0 : Int32) = (0 : Int32)) ∧ True) (by with_unfolding_all rfl) ⟨(pt_callS kX7_without_85 mX7_isSlot rfl (dX7_isSlot_1 h1)), (by decide), (pt_callV (i := 0) kX7_without_89 mX7_has rfl (by decide) rfl (dX7_has_0 h2)), (by decide), trivial⟩
set_option maxRecDepth 100000 in
theorem gX7_without_0_6 (x1 : Int32) (x2 : Int32) (x3 : Int32) (M2 : pt_M) (M : pt_M) (h1 : ¬ sl_P x1) :
    pt_Go YX7_without (0, [(0, pt_r 7 0), (1, pt_i x1), (2, pt_i x2), (3, pt_i x3)], [], M)
      (45, [(0, pt_r 7 0), (1, pt_i x1), (2, pt_i x2), (3, pt_i x3)], [pt_i 0], (pt_wF M 7 0 0 0)) :=
  pt_run_ok tX7_without_ok 7 [.inr (1, some (pt_i 0), (pt_wF M 7 0 0 0)), .inl true] (P := pt_Cal YX7_without (.invokestatic 85) [pt_i x1] (pt_wF M 7 0 0 0) (some (pt_i 0)) (pt_wF M 7 0 0 0) ∧ ((0 : Int32) = (0 : Int32)) ∧ True) (by with_unfolding_all rfl) ⟨(pt_callS kX7_without_85 mX7_isSlot rfl (dX7_isSlot_0 h1)), (by decide), trivial⟩
set_option maxRecDepth 100000 in
theorem gX7_without_59_1 (l1 : Int32) (l2 : Int32) (l3 : Int32) (l4 : Int32) (l5 : Int32) (M2 : pt_M) (M : pt_M) (h1 : ¬ l4 ≤ l5) (h2 : ¬ l3 ≤ l5) (h3 : pt_in l5 10) :
    pt_Go YX7_without (59, [(0, pt_r 7 0), (1, pt_i l1), (2, pt_i l2), (3, pt_i l3), (4, pt_i l4), (5, pt_i l5)], [], M)
      (59, [(0, pt_r 7 0), (1, pt_i l1), (2, pt_i l2), (3, pt_i l3), (4, pt_i l4), (5, pt_i (l5 + 1))], [], (pt_wA M 35 0 (upd (pt_A M 35 0) (pt_nt l5) l5))) :=
  pt_run_ok tX7_without_ok 14 [.inl false, .inl false] (P := (¬ l4 ≤ l5) ∧ (¬ l3 ≤ l5) ∧ (pt_in l5 10) ∧ True) (by with_unfolding_all rfl) ⟨h1, h2, h3, trivial⟩
set_option maxRecDepth 100000 in
theorem gX7_without_59_2 (l1 : Int32) (l2 : Int32) (l3 : Int32) (l4 : Int32) (l5 : Int32) (M2 : pt_M) (M : pt_M) (h1 : ¬ l4 ≤ l5) (h2 : l3 ≤ l5) (h3 : pt_in l5 10) :
    pt_Go YX7_without (59, [(0, pt_r 7 0), (1, pt_i l1), (2, pt_i l2), (3, pt_i l3), (4, pt_i l4), (5, pt_i l5)], [], M)
      (59, [(0, pt_r 7 0), (1, pt_i l1), (2, pt_i l2), (3, pt_i l3), (4, pt_i l4), (5, pt_i (l5 + 1))], [], (pt_wA M 35 0 (upd (pt_A M 35 0) (pt_nt l5) (l5 + 1)))) :=
  pt_run_ok tX7_without_ok 15 [.inl false, .inl true] (P := (¬ l4 ≤ l5) ∧ (l3 ≤ l5) ∧ (pt_in l5 10) ∧ True) (by with_unfolding_all rfl) ⟨h1, h2, h3, trivial⟩
set_option maxRecDepth 100000 in
theorem gX7_without_59_3 (l1 : Int32) (l2 : Int32) (l3 : Int32) (l4 : Int32) (l5 : Int32) (M2 : pt_M) (M : pt_M) (h1 : l4 ≤ l5) (h2 : pt_Does yX7_pick YX7_pick [pt_r 7 0, pt_i (120 * l2), pt_i (120 * l1), pt_i l4] M none M2) (h3 : pt_in l1 6) :
    pt_Go YX7_without (59, [(0, pt_r 7 0), (1, pt_i l1), (2, pt_i l2), (3, pt_i l3), (4, pt_i l4), (5, pt_i l5)], [], M)
      (117, [(0, pt_r 7 0), (1, pt_i l1), (2, pt_i l2), (3, pt_i l3), (4, pt_i l4), (5, pt_i l5)], [pt_i 1], (pt_wA M2 31 0 (upd (pt_A M2 31 0) (pt_nt l1) l4))) :=
  pt_run_ok tX7_without_ok 18 [.inl true, .inr (4, none, M2)] (P := (l4 ≤ l5) ∧ pt_Cal YX7_without (.invokevirtual 114) [pt_r 7 0, pt_i (120 * l2), pt_i (120 * l1), pt_i l4] M none M2 ∧ (pt_in l1 6) ∧ True) (by with_unfolding_all rfl) ⟨h1, (pt_callV (i := 0) kX7_without_114 mX7_pick rfl (by decide) rfl h2), h3, trivial⟩
theorem dX7_without {s t n q : Nat} {B : Nat → Nat → Nat → Bool} {M : pt_M} (hs : s < 6) (ht : t < 6) (hA : mA_P M (nI t)) (hN : pt_A M 31 0 t = nI n) (h : ml_P M (120 * t) n B) (hq : q < n) (hn3 : n ≠ 3) : pt_Does yX7_without YX7_without [pt_r 7 0, pt_i (nI s), pt_i (nI t), pt_i (nI q)] M (some (pt_i 1)) (pk_M (im_M (t0_M M) (n - 1) fun i => if i < q then i else i + 1) s (n - 1) fun i j k => B (if i < q then i else i + 1) (if j < q then j else j + 1) (if k < q then k else k + 1)) := by
  have hn := h.2.1
  have et : pt_nt (nI t) = t := pt_nt_nI (by omega)
  have hN' : pt_A (pt_wF M 7 0 0 0) 31 0 (pt_nt (nI t)) = nI n := by rw [et]; exact hN
  have g0 := gX7_without_0_2 (nI s) (nI t) (nI q) M M (sl_nI hs) hA (nI_pos (by omega)) (pt_in_nI ht (by decide)) (by rw [hN']; exact nI_ge hq (by omega)) (by rw [hN']; exact nI_nE hn3 (by omega) (by decide))
  rw [hN', show nI n - 1 = nI (n - 1) from pk_sub (b := 1) (by omega)] at g0
  have K := pt_for0 (Y := YX7_without) (fun i => (59, [(0, pt_r 7 0), (1, pt_i (nI s)), (2, pt_i (nI t)), (3, pt_i (nI q)), (4, pt_i (nI (n - 1))), (5, pt_i (nI i))], [], im_M (t0_M M) i fun i => if i < q then i else i + 1)) (n := n - 1) fun i hi => by
    by_cases c : i < q
    · refine (gX7_without_59_1 (nI s) (nI t) (nI q) (nI (n - 1)) (nI i) M _ (nI_ge hi (by omega)) (nI_ge c (by omega)) (pt_in_nI (by omega) (by decide))).to ?_
      have e := im_step (t0_M M) (p := i) (fun i => if i < q then i else i + 1)
      rw [if_pos c] at e
      rw [nI_1, pt_nt_nI (by omega), e]
    · refine (gX7_without_59_2 (nI s) (nI t) (nI q) (nI (n - 1)) (nI i) M _ (nI_ge hi (by omega)) (nI_le (by omega) (by omega)) (pt_in_nI (by omega) (by decide))).to ?_
      have e := im_step (t0_M M) (p := i) (fun i => if i < q then i else i + 1)
      rw [if_neg c] at e
      rw [nI_1, pt_nt_nI (by omega), e]
  have D := dX7_pick (o := 120 * t) (d := 120 * s) (n := n) (m := n - 1) (g := fun i => if i < q then i else i + 1) (B := B) (M := im_M (t0_M M) (n - 1) fun i => if i < q then i else i + 1) (ml_A h rfl) (by omega) (by omega) (by omega) (fun i hi => ⟨im_at hi, by split <;> omega⟩) (fun i j hi hj he => by
    split at he <;> split at he <;> omega)
  refine rX7_without_117 rfl (Nat.le_of_ble_eq_true rfl) rfl ((g0.toM (im_zero (t0_M M) _).symm).tr (K.tr ((gX7_without_59_3 (nI s) (nI t) (nI q) (nI (n - 1)) (nI (n - 1)) _ _ (Int32.le_refl _) (by rw [m120, m120]; exact D) (pt_in_nI hs (by decide))).toM ?_)))
  rw [pt_nt_nI (by omega)]
  rfl
theorem op_without {M : pt_M} (h : IV_P M) (x y z : Int32) : op_P yX6_without YX6_without yX7_without YX7_without [pt_i x, pt_i y, pt_i z] M := by
  obtain ⟨A, hC, hM⟩ := h
  have zB : Nat → Nat → Nat → Bool := fun _ _ _ => false
  have no : ∀ {M'}, pt_Go YX7_without (0, [(0, pt_r 7 0), (1, pt_i x), (2, pt_i y), (3, pt_i z)], [], M') (45, [(0, pt_r 7 0), (1, pt_i x), (2, pt_i y), (3, pt_i z)], [pt_i 0], pt_wF M' 7 0 0 0) → pt_Does yX7_without YX7_without [pt_r 7 0, pt_i x, pt_i y, pt_i z] M' (some (pt_i 0)) (t0_M M') := fun g => rX7_without_45 rfl (Nat.le_of_ble_eq_true rfl) rfl g
  by_cases hx : sl_P x
  case neg =>
    rcases lw_case hC y with ⟨h1, h2⟩ | ⟨t, ht, rfl, hn⟩
    · exact op_of hC hM (A' := A) (dX6_without_p6 x y z 0 zB id M h1 hx) mo_P.rf hC fun hM => ⟨no (gX7_without_0_6 x y z M M hx), t0_ca, hM⟩
    · exact op_of hC hM (A' := A) (dX6_without_p4 x (nI t) z 0 zB id M (CR_l1 hC ht hn).1 hx) mo_P.rf hC fun hM => ⟨no (gX7_without_0_6 x (nI t) z M M hx), t0_ca, hM⟩
  obtain ⟨s, hs, rfl⟩ := sl_of hx
  rcases lw_case hC y with ⟨h1, h2⟩ | ⟨t, ht, rfl, hn⟩
  · exact op_of hC hM (A' := A) (dX6_without_p5 (nI s) y z 0 zB id M h1 hx) mo_P.rf hC fun hM => ⟨no (gX7_without_0_5 (nI s) y z M M hx (h2 M hM)), t0_ca, hM⟩
  obtain ⟨q1, q2, q3, q4, q5, q6⟩ := CR_y hC ht hn
  have hl := CR_l1 hC ht hn
  have et : pt_nt (nI t) = t := pt_nt_nI (by omega)
  have hsz : pt_F M 3 0 (pt_R M (pt_nt (nI t) + 1)) = nI (iv_N A t) := hl.2.1.2.2.1
  have hN : ∀ M', MR_P M' A → pt_A (pt_wF M' 7 0 0 0) 31 0 (pt_nt (nI t)) = nI (iv_N A t) := fun M' hM' => by rw [et]; exact (MR_y hM' ht hn).2.1
  by_cases hp : hp_P M (pt_R M (pt_nt (nI t) + 1)) z
  case neg =>
    refine op_of hC hM (A' := A) (dX6_without_p3 (nI s) (nI t) z 0 zB id M hl.1 hx hl.2.1.1 hp) mo_P.rf hC fun hM => ⟨?_, t0_ca, hM⟩
    by_cases c1 : z < 0
    · exact no (gX7_without_0_4 (nI s) (nI t) z M M hx (MR_y hM ht hn).1 c1)
    · refine no (gX7_without_0_3 (nI s) (nI t) z M M hx (MR_y hM ht hn).1 c1 (pt_in_nI ht (by decide)) ?_)
      rw [hN M hM]
      by_cases c2 : nI (iv_N A t) ≤ z
      · exact c2
      · exact absurd ⟨c1, by rw [hsz]; exact c2⟩ hp
  have hp0 := hp
  unfold hp_P at hp
  rw [hsz] at hp
  obtain ⟨q, hq, rfl⟩ := hp_of q2 hp.1 hp.2
  by_cases h33 : iv_N A t = 3
  · exact op_of hC hM (A' := A) (dX6_without_p1 (nI s) (nI t) (nI q) 0 zB id M hl.1 hx hl.2.1.1 hp0 (by rw [hsz, h33]; rfl)) mo_P.rf hC fun hM => ⟨no (gX7_without_0_1 (nI s) (nI t) (nI q) M M hx (MR_y hM ht hn).1 (nI_pos (by omega)) (pt_in_nI ht (by decide)) (by rw [hN M hM]; exact nI_ge hq (by omega)) (by rw [hN M hM, h33]; rfl)), t0_ca, hM⟩
  · have d1 := dX6_without (x1 := nI s) hl.1 (CR_kp hC hs) hl.2.1 (CR_ne hC ht) hq h33 q1
    have eS : (fun i j k => iv_B A t (if i < q then i else i + 1) (if j < q then j else j + 1) (if k < q then k else k + 1)) = fun i j k => iv_B A t (if i < q then i else i + 1) (if j < q then j else j + 1) (if k < q then k else k + 1) != false := by
      funext i j k
      simp
    refine op_ex hC hM (A' := iv_set A s (iv_N A t - 1) fun i j k => iv_B A t (if i < q then i else i + 1) (if j < q then j else j + 1) (if k < q then k else k + 1) != false) d1 (mo_om.tr kt_mo) (CR_keep (CR_om hC) hs (by omega) (by omega)) fun hM => ?_
    obtain ⟨p1, p2, p3⟩ := MR_y hM ht hn
    refine ⟨_, dX7_without hs ht p1 p2 p3 hq h33, (t0_ca.tr (ca_wA (by decide))).tr pk_ca, ?_⟩
    rw [eS]
    exact MR_pk (MR_w (MR_t0 hM) (by decide) (by decide) (by decide) (by decide) (by decide) (by decide)) hs (by omega) (by omega)
/-! rename -/
set_option maxRecDepth 100000 in
theorem sb_tab2 : ((List.range 256).all fun b => decide (decide (sb_F b < 0) = decide (128 ≤ b)) && (decide (128 ≤ b) || decide (sb_F b = nI b))) = true := by decide +kernel
theorem sb_neg {b : Nat} (hb : b < 256) : sb_F b < 0 ↔ 128 ≤ b := by
  have h := pt_all sb_tab2 hb
  rw [Bool.and_eq_true] at h
  have h1 := of_decide_eq_true h.1
  rw [← decide_eq_true_eq (p := sb_F b < 0), h1, decide_eq_true_eq]
theorem sb_pos {b : Nat} (hb : b < 128) : sb_F b = nI b := by
  have h := pt_all sb_tab2 (show b < 256 by omega)
  rw [Bool.and_eq_true, decide_eq_false (show ¬ 128 ≤ b by omega), Bool.false_or] at h
  exact of_decide_eq_true h.2
set_option maxRecDepth 100000 in
theorem pc_add : ((List.range 1024).all fun m => (List.range 10).all fun p => decide (pc_F (m ||| 2 ^ p) = pc_F m + if m.testBit p then 0 else 1)) = true := by decide +kernel
set_option maxRecDepth 100000 in
theorem pc_full : ((List.range 11).all fun n => (List.range (2 ^ n)).all fun m => decide (decide (pc_F m = n) = decide (m = 2 ^ n - 1))) = true := by decide +kernel
theorem sn_bit {b : Nat → Nat} {p : Nat} : ∀ {k : Nat}, (sn_F b k).testBit p = true ↔ ∃ i, i < k ∧ b i = p
  | 0 => ⟨fun h => by simp [sn_F] at h, fun ⟨i, h, _⟩ => absurd h (Nat.not_lt_zero i)⟩
  | k + 1 => by
    show (sn_F b k ||| 2 ^ b k).testBit p = true ↔ _
    rw [Nat.testBit_or, Bool.or_eq_true, sn_bit, Nat.testBit_two_pow, decide_eq_true_eq]
    constructor
    · rintro (⟨i, h1, h2⟩ | h)
      · exact ⟨i, by omega, h2⟩
      · exact ⟨k, by omega, h⟩
    · rintro ⟨i, h1, h2⟩
      by_cases e : i = k
      · exact Or.inr (e ▸ h2)
      · exact Or.inl ⟨i, by omega, h2⟩
/-- the first byte that is no point, or comes again -/
def rq_F (n : Nat) (b : Nat → Nat) (k : Nat) : Bool := decide (b k < n) && !(sn_F b k).testBit (b k)
def rm_F (n : Nat) (b : Nat → Nat) : Option Nat := fs_F (n - 0) 0 fun k => if rq_F n b k then none else some k
theorem sn_le {n : Nat} {b : Nat → Nat} (hn : n ≤ 10) (h : ∀ i, i < n → b i < n) : ∀ k, k ≤ n → sn_F b k < 2 ^ n ∧ pc_F (sn_F b k) ≤ k
  | 0, _ => ⟨Nat.two_pow_pos n, by show pc_F 0 ≤ 0; decide⟩
  | k + 1, hk => by
    obtain ⟨h1, h2⟩ := sn_le hn h k (by omega)
    have hb := h k (by omega)
    have h3 : 2 ^ b k < 2 ^ n := Nat.pow_lt_pow_right (by decide) hb
    have h4 := pb_p2 hn
    have h5 := of_decide_eq_true (pt_all (pt_all pc_add (i := sn_F b k) (by omega)) (i := b k) (by omega))
    refine ⟨Nat.or_lt_two_pow h1 h3, ?_⟩
    show pc_F (sn_F b k ||| 2 ^ b k) ≤ k + 1
    rw [h5]
    split <;> omega
theorem sn_dup {n : Nat} {b : Nat → Nat} (hn : n ≤ 10) (h : ∀ i, i < n → b i < n) {d : Nat} (hd : d < n) (hb : (sn_F b d).testBit (b d) = true) : ∀ k, d < k → k ≤ n → pc_F (sn_F b k) + 1 ≤ k
  | 0, hk, _ => absurd hk (Nat.not_lt_zero d)
  | k + 1, hk, hk2 => by
    have h1 := sn_le hn h k (by omega)
    have hb' := h k (by omega)
    have h4 := pb_p2 hn
    have h5 := of_decide_eq_true (pt_all (pt_all pc_add (i := sn_F b k) (by omega)) (i := b k) (by omega))
    show pc_F (sn_F b k ||| 2 ^ b k) + 1 ≤ k + 1
    rw [h5]
    by_cases e : d = k
    · subst e
      rw [if_pos hb]
      omega
    · have := sn_dup hn h hd hb k (by omega) (by omega)
      split <;> omega
theorem sn_all {n : Nat} {b : Nat → Nat} (hn : n ≤ 10) (h : ∀ i, i < n → rq_F n b i = true) : ∀ k, k ≤ n → pc_F (sn_F b k) = k
  | 0, _ => by show pc_F 0 = 0; decide
  | k + 1, hk => by
    have hlt : ∀ i, i < n → b i < n := fun i hi => of_decide_eq_true (Bool.and_eq_true _ _ ▸ h i hi).1
    have h1 := sn_le hn hlt k (by omega)
    have hb' := hlt k (by omega)
    have h4 := pb_p2 hn
    have h5 := of_decide_eq_true (pt_all (pt_all pc_add (i := sn_F b k) (by omega)) (i := b k) (by omega))
    have h6 := h k (by omega)
    unfold rq_F at h6
    rw [Bool.and_eq_true, Bool.not_eq_true'] at h6
    show pc_F (sn_F b k ||| 2 ^ b k) = k + 1
    rw [h5, h6.2, sn_all hn h k (by omega)]
    rfl
theorem pt_srn {α : Type} {Y : pt_Y} {S : Nat → pt_S} {R : α → pt_S} {n : Nat} {f : Nat → Option α} (i0 : Nat) (h : ∀ i, i0 ≤ i → i < n → (∀ j, i0 ≤ j → j < i → f j = none) → (∀ v, f i = some v → pt_Go Y (S i) (R v)) ∧ (f i = none → pt_Go Y (S i) (S (i + 1)))) : ∀ d i, i0 ≤ i → i + d = n → (∀ j, i0 ≤ j → j < i → f j = none) → (∀ v, fs_F d i f = some v → pt_Go Y (S i) (R v)) ∧ (fs_F d i f = none → pt_Go Y (S i) (S n))
  | 0, i, _, e, _ => by
    have : i = n := by omega
    subst this
    exact ⟨fun v z => (by cases z), fun _ => pt_Go.rf⟩
  | d + 1, i, hi, e, hp => by
    obtain ⟨h1, h2⟩ := h i hi (by omega) hp
    unfold fs_F
    cases hf : f i with
    | some v =>
      refine ⟨fun w z => ?_, fun z => (by cases z)⟩
      cases z
      exact h1 v hf
    | none =>
      obtain ⟨k1, k2⟩ := pt_srn i0 h d (i + 1) (by omega) (by omega) fun j a b => by
        by_cases e2 : j = i
        · rw [e2]
          exact hf
        · exact hp j a (by omega)
      exact ⟨fun v z => (h2 hf).tr (k1 v z), fun z => (h2 hf).tr (k2 z)⟩
theorem rX7_rename_38 {vs : List pt_V} {M M' : pt_M} {x : Int32} {L : List (Nat × pt_V)} (hn : narrow .boolean (.int x) = .int x) (hvs : (vs.map pt_w).sum ≤ 5) (hX : M'.2.2.2.2 = M.2.2.2.2) (h : pt_Go YX7_rename (0, pt_en 0 vs, [], M) (38, L, [pt_i x], M')) : pt_Does yX7_rename YX7_rename vs M (some (pt_i x)) M' := pt_does_go tX7_rename_ok nX7_rename hvs hX ⟨_, by with_unfolding_all rfl, rfl, _, rfl, hn⟩ h
theorem rX7_rename_93 {vs : List pt_V} {M M' : pt_M} {x : Int32} {L : List (Nat × pt_V)} (hn : narrow .boolean (.int x) = .int x) (hvs : (vs.map pt_w).sum ≤ 5) (hX : M'.2.2.2.2 = M.2.2.2.2) (h : pt_Go YX7_rename (0, pt_en 0 vs, [], M) (93, L, [pt_i x], M')) : pt_Does yX7_rename YX7_rename vs M (some (pt_i x)) M' := pt_does_go tX7_rename_ok nX7_rename hvs hX ⟨_, by with_unfolding_all rfl, rfl, _, rfl, hn⟩ h
theorem rX7_rename_153 {vs : List pt_V} {M M' : pt_M} {x : Int32} {L : List (Nat × pt_V)} (hn : narrow .boolean (.int x) = .int x) (hvs : (vs.map pt_w).sum ≤ 5) (hX : M'.2.2.2.2 = M.2.2.2.2) (h : pt_Go YX7_rename (0, pt_en 0 vs, [], M) (153, L, [pt_i x], M')) : pt_Does yX7_rename YX7_rename vs M (some (pt_i x)) M' := pt_does_go tX7_rename_ok nX7_rename hvs hX ⟨_, by with_unfolding_all rfl, rfl, _, rfl, hn⟩ h
set_option maxRecDepth 100000 in
theorem gX7_rename_0_1 (x1 : Int32) (x2 : Int32) (M2 : pt_M) (M : pt_M) (h1 : sl_P x1) (h2 : mA_P (tk_M (pt_wF M 7 0 0 0)) x2) (h3 : pt_in x2 6) (h4 : ¬ (pt_F (tk_M (pt_wF M 7 0 0 0)) 7 3 0) = (pt_A (tk_M (pt_wF M 7 0 0 0)) 31 0 (pt_nt x2))) :
    pt_Go YX7_rename (0, [(0, pt_r 7 0), (1, pt_i x1), (2, pt_i x2)], [], M)
      (38, [(0, pt_r 7 0), (1, pt_i x1), (2, pt_i x2)], [pt_i 0], (tk_M (pt_wF M 7 0 0 0))) :=
  pt_run_ok tX7_rename_ok 20 [.inr (1, none, (tk_M (pt_wF M 7 0 0 0))), .inr (1, some (pt_i 1), (tk_M (pt_wF M 7 0 0 0))), .inl false, .inr (2, some (pt_i 1), (tk_M (pt_wF M 7 0 0 0))), .inl false, .inl false] (P := pt_Cal YX7_rename (.invokevirtual 92) [pt_r 7 0] (pt_wF M 7 0 0 0) none (tk_M (pt_wF M 7 0 0 0)) ∧ pt_Cal YX7_rename (.invokestatic 85) [pt_i x1] (tk_M (pt_wF M 7 0 0 0)) (some (pt_i 1)) (tk_M (pt_wF M 7 0 0 0)) ∧ (¬ (1 : Int32) = (0 : Int32)) ∧ pt_Cal YX7_rename (.invokevirtual 89) [pt_r 7 0, pt_i x2] (tk_M (pt_wF M 7 0 0 0)) (some (pt_i 1)) (tk_M (pt_wF M 7 0 0 0)) ∧ (¬ (1 : Int32) = (0 : Int32)) ∧ (pt_in x2 6) ∧ (¬ (pt_F (tk_M (pt_wF M 7 0 0 0)) 7 3 0) = (pt_A (tk_M (pt_wF M 7 0 0 0)) 31 0 (pt_nt x2))) ∧ True) (by with_unfolding_all rfl) ⟨(pt_callV (i := 0) kX7_rename_92 mX7_taken rfl (by decide) rfl (dX7_taken (pt_wF M 7 0 0 0))), (pt_callS kX7_rename_85 mX7_isSlot rfl (dX7_isSlot_1 h1)), (by decide), (pt_callV (i := 0) kX7_rename_89 mX7_has rfl (by decide) rfl (dX7_has_1 h2)), (by decide), h3, h4, trivial⟩
set_option maxRecDepth 100000 in
theorem gX7_rename_0_2 (x1 : Int32) (x2 : Int32) (M2 : pt_M) (M : pt_M) (h1 : sl_P x1) (h2 : mA_P (tk_M (pt_wF M 7 0 0 0)) x2) (h3 : pt_in x2 6) (h4 : (pt_F (tk_M (pt_wF M 7 0 0 0)) 7 3 0) = (pt_A (tk_M (pt_wF M 7 0 0 0)) 31 0 (pt_nt x2))) :
    pt_Go YX7_rename (0, [(0, pt_r 7 0), (1, pt_i x1), (2, pt_i x2)], [], M)
      (44, [(0, pt_r 7 0), (1, pt_i x1), (2, pt_i x2), (3, pt_i 0), (4, pt_i 0)], [], (tk_M (pt_wF M 7 0 0 0))) :=
  pt_run_ok tX7_rename_ok 23 [.inr (1, none, (tk_M (pt_wF M 7 0 0 0))), .inr (1, some (pt_i 1), (tk_M (pt_wF M 7 0 0 0))), .inl false, .inr (2, some (pt_i 1), (tk_M (pt_wF M 7 0 0 0))), .inl false, .inl true] (P := pt_Cal YX7_rename (.invokevirtual 92) [pt_r 7 0] (pt_wF M 7 0 0 0) none (tk_M (pt_wF M 7 0 0 0)) ∧ pt_Cal YX7_rename (.invokestatic 85) [pt_i x1] (tk_M (pt_wF M 7 0 0 0)) (some (pt_i 1)) (tk_M (pt_wF M 7 0 0 0)) ∧ (¬ (1 : Int32) = (0 : Int32)) ∧ pt_Cal YX7_rename (.invokevirtual 89) [pt_r 7 0, pt_i x2] (tk_M (pt_wF M 7 0 0 0)) (some (pt_i 1)) (tk_M (pt_wF M 7 0 0 0)) ∧ (¬ (1 : Int32) = (0 : Int32)) ∧ (pt_in x2 6) ∧ ((pt_F (tk_M (pt_wF M 7 0 0 0)) 7 3 0) = (pt_A (tk_M (pt_wF M 7 0 0 0)) 31 0 (pt_nt x2))) ∧ True) (by with_unfolding_all rfl) ⟨(pt_callV (i := 0) kX7_rename_92 mX7_taken rfl (by decide) rfl (dX7_taken (pt_wF M 7 0 0 0))), (pt_callS kX7_rename_85 mX7_isSlot rfl (dX7_isSlot_1 h1)), (by decide), (pt_callV (i := 0) kX7_rename_89 mX7_has rfl (by decide) rfl (dX7_has_1 h2)), (by decide), h3, h4, trivial⟩
set_option maxRecDepth 100000 in
theorem gX7_rename_0_3 (x1 : Int32) (x2 : Int32) (M2 : pt_M) (M : pt_M) (h1 : sl_P x1) (h2 : mN_P (tk_M (pt_wF M 7 0 0 0)) x2) :
    pt_Go YX7_rename (0, [(0, pt_r 7 0), (1, pt_i x1), (2, pt_i x2)], [], M)
      (38, [(0, pt_r 7 0), (1, pt_i x1), (2, pt_i x2)], [pt_i 0], (tk_M (pt_wF M 7 0 0 0))) :=
  pt_run_ok tX7_rename_ok 13 [.inr (1, none, (tk_M (pt_wF M 7 0 0 0))), .inr (1, some (pt_i 1), (tk_M (pt_wF M 7 0 0 0))), .inl false, .inr (2, some (pt_i 0), (tk_M (pt_wF M 7 0 0 0))), .inl true] (P := pt_Cal YX7_rename (.invokevirtual 92) [pt_r 7 0] (pt_wF M 7 0 0 0) none (tk_M (pt_wF M 7 0 0 0)) ∧ pt_Cal YX7_rename (.invokestatic 85) [pt_i x1] (tk_M (pt_wF M 7 0 0 0)) (some (pt_i 1)) (tk_M (pt_wF M 7 0 0 0)) ∧ (¬ (1 : Int32) = (0 : Int32)) ∧ pt_Cal YX7_rename (.invokevirtual 89) [pt_r 7 0, pt_i x2] (tk_M (pt_wF M 7 0 0 0)) (some (pt_i 0)) (tk_M (pt_wF M 7 0 0 0)) ∧ ((0 : Int32) = (0 : Int32)) ∧ True) (by with_unfolding_all rfl) ⟨(pt_callV (i := 0) kX7_rename_92 mX7_taken rfl (by decide) rfl (dX7_taken (pt_wF M 7 0 0 0))), (pt_callS kX7_rename_85 mX7_isSlot rfl (dX7_isSlot_1 h1)), (by decide), (pt_callV (i := 0) kX7_rename_89 mX7_has rfl (by decide) rfl (dX7_has_0 h2)), (by decide), trivial⟩
set_option maxRecDepth 100000 in
theorem gX7_rename_0_4 (x1 : Int32) (x2 : Int32) (M2 : pt_M) (M : pt_M) (h1 : ¬ sl_P x1) :
    pt_Go YX7_rename (0, [(0, pt_r 7 0), (1, pt_i x1), (2, pt_i x2)], [], M)
      (38, [(0, pt_r 7 0), (1, pt_i x1), (2, pt_i x2)], [pt_i 0], (tk_M (pt_wF M 7 0 0 0))) :=
  pt_run_ok tX7_rename_ok 9 [.inr (1, none, (tk_M (pt_wF M 7 0 0 0))), .inr (1, some (pt_i 0), (tk_M (pt_wF M 7 0 0 0))), .inl true] (P := pt_Cal YX7_rename (.invokevirtual 92) [pt_r 7 0] (pt_wF M 7 0 0 0) none (tk_M (pt_wF M 7 0 0 0)) ∧ pt_Cal YX7_rename (.invokestatic 85) [pt_i x1] (tk_M (pt_wF M 7 0 0 0)) (some (pt_i 0)) (tk_M (pt_wF M 7 0 0 0)) ∧ ((0 : Int32) = (0 : Int32)) ∧ True) (by with_unfolding_all rfl) ⟨(pt_callV (i := 0) kX7_rename_92 mX7_taken rfl (by decide) rfl (dX7_taken (pt_wF M 7 0 0 0))), (pt_callS kX7_rename_85 mX7_isSlot rfl (dX7_isSlot_0 h1)), (by decide), trivial⟩
set_option maxRecDepth 100000 in
theorem gX7_rename_44_1 (l1 : Int32) (l2 : Int32) (l3 : Int32) (l4 : Int32) (M2 : pt_M) (M : pt_M) (h1 : ¬ (pt_F M 7 3 0) ≤ l4) (h2 : pt_in l4 140) (h3 : ¬ (pt_A M 30 0 (pt_nt l4)) < 0) (h4 : ¬ (pt_F M 7 3 0) ≤ (pt_A M 30 0 (pt_nt l4))) (h5 : ((l3 >>> ((pt_A M 30 0 (pt_nt l4)) &&& 31)) &&& 1) = 1) :
    pt_Go YX7_rename (44, [(0, pt_r 7 0), (1, pt_i l1), (2, pt_i l2), (3, pt_i l3), (4, pt_i l4)], [], M)
      (93, [(0, pt_r 7 0), (1, pt_i l1), (2, pt_i l2), (3, pt_i l3), (4, pt_i l4)], [pt_i 0], M) :=
  pt_run_ok tX7_rename_ok 27 [.inl false, .inl false, .inl false, .inl false] (P := (¬ (pt_F M 7 3 0) ≤ l4) ∧ (pt_in l4 140) ∧ (¬ (pt_A M 30 0 (pt_nt l4)) < 0) ∧ (pt_in l4 140) ∧ (¬ (pt_F M 7 3 0) ≤ (pt_A M 30 0 (pt_nt l4))) ∧ (pt_in l4 140) ∧ (((l3 >>> ((pt_A M 30 0 (pt_nt l4)) &&& 31)) &&& 1) = 1) ∧ True) (by with_unfolding_all rfl) ⟨h1, h2, h3, h2, h4, h2, h5, trivial⟩
set_option maxRecDepth 100000 in
theorem gX7_rename_44_2 (l1 : Int32) (l2 : Int32) (l3 : Int32) (l4 : Int32) (M2 : pt_M) (M : pt_M) (h1 : ¬ (pt_F M 7 3 0) ≤ l4) (h2 : pt_in l4 140) (h3 : ¬ (pt_A M 30 0 (pt_nt l4)) < 0) (h4 : ¬ (pt_F M 7 3 0) ≤ (pt_A M 30 0 (pt_nt l4))) (h5 : ¬ ((l3 >>> ((pt_A M 30 0 (pt_nt l4)) &&& 31)) &&& 1) = 1) (h6 : pt_in l4 10) :
    pt_Go YX7_rename (44, [(0, pt_r 7 0), (1, pt_i l1), (2, pt_i l2), (3, pt_i l3), (4, pt_i l4)], [], M)
      (44, [(0, pt_r 7 0), (1, pt_i l1), (2, pt_i l2), (3, pt_i (l3 ||| ((1 : Int32) <<< ((pt_A M 30 0 (pt_nt l4)) &&& 31)))), (4, pt_i (l4 + 1))], [], (pt_wA M 35 0 (upd (pt_A M 35 0) (pt_nt l4) (pt_A M 30 0 (pt_nt l4))))) :=
  pt_run_ok tX7_rename_ok 45 [.inl false, .inl false, .inl false, .inl true] (P := (¬ (pt_F M 7 3 0) ≤ l4) ∧ (pt_in l4 140) ∧ (¬ (pt_A M 30 0 (pt_nt l4)) < 0) ∧ (pt_in l4 140) ∧ (¬ (pt_F M 7 3 0) ≤ (pt_A M 30 0 (pt_nt l4))) ∧ (pt_in l4 140) ∧ (¬ ((l3 >>> ((pt_A M 30 0 (pt_nt l4)) &&& 31)) &&& 1) = 1) ∧ (pt_in l4 140) ∧ (pt_in l4 140) ∧ (pt_in l4 10) ∧ True) (by with_unfolding_all rfl) ⟨h1, h2, h3, h2, h4, h2, h5, h2, h2, h6, trivial⟩
set_option maxRecDepth 100000 in
theorem gX7_rename_44_3 (l1 : Int32) (l2 : Int32) (l3 : Int32) (l4 : Int32) (M2 : pt_M) (M : pt_M) (h1 : ¬ (pt_F M 7 3 0) ≤ l4) (h2 : pt_in l4 140) (h3 : ¬ (pt_A M 30 0 (pt_nt l4)) < 0) (h4 : (pt_F M 7 3 0) ≤ (pt_A M 30 0 (pt_nt l4))) :
    pt_Go YX7_rename (44, [(0, pt_r 7 0), (1, pt_i l1), (2, pt_i l2), (3, pt_i l3), (4, pt_i l4)], [], M)
      (93, [(0, pt_r 7 0), (1, pt_i l1), (2, pt_i l2), (3, pt_i l3), (4, pt_i l4)], [pt_i 0], M) :=
  pt_run_ok tX7_rename_ok 17 [.inl false, .inl false, .inl true] (P := (¬ (pt_F M 7 3 0) ≤ l4) ∧ (pt_in l4 140) ∧ (¬ (pt_A M 30 0 (pt_nt l4)) < 0) ∧ (pt_in l4 140) ∧ ((pt_F M 7 3 0) ≤ (pt_A M 30 0 (pt_nt l4))) ∧ True) (by with_unfolding_all rfl) ⟨h1, h2, h3, h2, h4, trivial⟩
set_option maxRecDepth 100000 in
theorem gX7_rename_44_4 (l1 : Int32) (l2 : Int32) (l3 : Int32) (l4 : Int32) (M2 : pt_M) (M : pt_M) (h1 : ¬ (pt_F M 7 3 0) ≤ l4) (h2 : pt_in l4 140) (h3 : (pt_A M 30 0 (pt_nt l4)) < 0) :
    pt_Go YX7_rename (44, [(0, pt_r 7 0), (1, pt_i l1), (2, pt_i l2), (3, pt_i l3), (4, pt_i l4)], [], M)
      (93, [(0, pt_r 7 0), (1, pt_i l1), (2, pt_i l2), (3, pt_i l3), (4, pt_i l4)], [pt_i 0], M) :=
  pt_run_ok tX7_rename_ok 10 [.inl false, .inl true] (P := (¬ (pt_F M 7 3 0) ≤ l4) ∧ (pt_in l4 140) ∧ ((pt_A M 30 0 (pt_nt l4)) < 0) ∧ True) (by with_unfolding_all rfl) ⟨h1, h2, h3, trivial⟩
set_option maxRecDepth 100000 in
theorem gX7_rename_44_5 (l1 : Int32) (l2 : Int32) (l3 : Int32) (l4 : Int32) (M2 : pt_M) (M : pt_M) (h1 : (pt_F M 7 3 0) ≤ l4) (h2 : pt_Does yX7_pick YX7_pick [pt_r 7 0, pt_i (120 * l2), pt_i (120 * l1), pt_i (pt_F M 7 3 0)] M none M2) (h3 : pt_in l1 6) :
    pt_Go YX7_rename (44, [(0, pt_r 7 0), (1, pt_i l1), (2, pt_i l2), (3, pt_i l3), (4, pt_i l4)], [], M)
      (153, [(0, pt_r 7 0), (1, pt_i l1), (2, pt_i l2), (3, pt_i l3), (4, pt_i l4)], [pt_i 1], (pt_wA M2 31 0 (upd (pt_A M2 31 0) (pt_nt l1) (pt_F M2 7 3 0)))) :=
  pt_run_ok tX7_rename_ok 21 [.inl true, .inr (4, none, M2)] (P := ((pt_F M 7 3 0) ≤ l4) ∧ pt_Cal YX7_rename (.invokevirtual 114) [pt_r 7 0, pt_i (120 * l2), pt_i (120 * l1), pt_i (pt_F M 7 3 0)] M none M2 ∧ (pt_in l1 6) ∧ True) (by with_unfolding_all rfl) ⟨h1, (pt_callV (i := 0) kX7_rename_114 mX7_pick rfl (by decide) rfl h2), h3, trivial⟩
theorem sz_F {M : pt_M} {n : Nat} {g : Nat → Nat} : pt_F (im_M M n g) 7 3 0 = pt_F M 7 3 0 := rfl
theorem dX7_rename {s t n : Nat} {b : Nat → Nat} {B : Nat → Nat → Nat → Bool} {M : pt_M} (hs : s < 6) (ht : t < 6) (hA : mA_P M (nI t)) (hN : pt_A M 31 0 t = nI n) (h : ml_P M (120 * t) n B) (hL : pt_F M 7 2 0 = nI n) (hb : mp_P M n b) : (∀ k, rm_F n b = some k → pt_Does yX7_rename YX7_rename [pt_r 7 0, pt_i (nI s), pt_i (nI t)] M (some (pt_i 0)) (im_M (tk_M (t0_M M)) k b)) ∧ (rm_F n b = none → pt_Does yX7_rename YX7_rename [pt_r 7 0, pt_i (nI s), pt_i (nI t)] M (some (pt_i 1)) (pk_M (im_M (tk_M (t0_M M)) n b) s n fun i j k => B (b i) (b j) (b k))) := by
  have hn := h.2.1
  have et : pt_nt (nI t) = t := pt_nt_nI (by omega)
  have h2 := pb_p2 hn
  have hN' : pt_A (tk_M (pt_wF M 7 0 0 0)) 31 0 (pt_nt (nI t)) = nI n := by rw [et]; exact hN
  have hz : pt_F (tk_M (pt_wF M 7 0 0 0)) 7 3 0 = nI n := hL
  have g0 := gX7_rename_0_2 (nI s) (nI t) M M (sl_nI hs) hA (pt_in_nI ht (by decide)) (by rw [hN', hz])
  have hz2 : ∀ k, pt_F (im_M (tk_M (t0_M M)) k b) 7 3 0 = nI n := fun _ => hL
  have hml : ml_P (im_M (tk_M (t0_M M)) n b) (120 * t) n B := ml_A h rfl
  have hA30 : ∀ k p, p < n → pt_A (im_M (tk_M (t0_M M)) k b) 30 0 (pt_nt (nI p)) = sb_F (b p) := fun k p hp => by
    rw [pt_nt_nI (by omega)]
    exact (hb.2 p hp).1
  have K := pt_srn (α := Nat) (Y := YX7_rename) (S := fun k => (44, [(0, pt_r 7 0), (1, pt_i (nI s)), (2, pt_i (nI t)), (3, pt_i (nI (sn_F b k))), (4, pt_i (nI k))], [], im_M (tk_M (t0_M M)) k b)) (R := fun k => (93, [], [pt_i 0], im_M (tk_M (t0_M M)) k b)) (n := n) (f := fun k => if rq_F n b k then none else some k) 0 (fun k _ hk hpre => by
    have hbk := (hb.2 k hk).2
    have e30 := hA30 k k hk
    have hlt : ¬ pt_F (im_M (tk_M (t0_M M)) k b) 7 3 0 ≤ nI k := by rw [hz2]; exact nI_ge hk (by omega)
    have h140 : pt_in (nI k) 140 := pt_in_nI (by omega) (by decide)
    by_cases c1 : 128 ≤ b k
    · have hq : rq_F n b k = false := by unfold rq_F; rw [decide_eq_false (by omega)]; rfl
      rw [hq]
      refine ⟨fun v z => ?_, fun z => (by cases z)⟩
      cases z
      exact (gX7_rename_44_4 (nI s) (nI t) (nI (sn_F b k)) (nI k) M _ hlt h140 (by rw [e30]; exact (sb_neg hbk).mpr c1)).tr pt_dropA
    have e30' : pt_A (im_M (tk_M (t0_M M)) k b) 30 0 (pt_nt (nI k)) = nI (b k) := by rw [e30]; exact sb_pos (by omega)
    have hnn : ¬ pt_A (im_M (tk_M (t0_M M)) k b) 30 0 (pt_nt (nI k)) < 0 := by rw [e30']; exact nI_pos (by omega)
    by_cases c2 : b k < n
    · have hge : ¬ pt_F (im_M (tk_M (t0_M M)) k b) 7 3 0 ≤ pt_A (im_M (tk_M (t0_M M)) k b) 30 0 (pt_nt (nI k)) := by rw [hz2, e30']; exact nI_ge c2 (by omega)
      have hlow : ∀ i, i < k → b i < n := fun i hi => by
        have := hpre i (by omega) hi
        cases c : rq_F n b i
        · rw [c] at this
          cases this
        · exact of_decide_eq_true (Bool.and_eq_true _ _ ▸ c).1
      · have hsl : sn_F b k < 1024 := sn_lt fun i hi => by have := hlow i hi; omega
        have hbt := pt_bit9 (m := sn_F b k) (k := b k) hsl (by omega)
        cases c3 : (sn_F b k).testBit (b k)
        · have hq : rq_F n b k = true := by unfold rq_F; rw [decide_eq_true c2, c3]; rfl
          rw [hq]
          refine ⟨fun v z => (by cases z), fun _ => (gX7_rename_44_2 (nI s) (nI t) (nI (sn_F b k)) (nI k) M _ hlt h140 hnn hge (by rw [e30']; exact fun z => by rw [hbt, c3] at z; cases z) (pt_in_nI (by omega) (by decide))).to ?_⟩
          have e5 : nI (sn_F b k) ||| ((1 : Int32) <<< (nI (b k) &&& 31)) = nI (sn_F b (k + 1)) := by
            rw [pt_shl1 (b k) (by omega), pt_or]
            rfl
          rw [e30', e5, nI_1, pt_nt_nI (by omega), im_step]
        · have hq : rq_F n b k = false := by unfold rq_F; rw [c3]; simp
          rw [hq]
          refine ⟨fun v z => ?_, fun z => (by cases z)⟩
          cases z
          exact (gX7_rename_44_1 (nI s) (nI t) (nI (sn_F b k)) (nI k) M _ hlt h140 hnn hge (by rw [e30']; exact hbt.mpr c3)).tr pt_dropA
    · have hq : rq_F n b k = false := by unfold rq_F; rw [decide_eq_false c2]; rfl
      rw [hq]
      refine ⟨fun v z => ?_, fun z => (by cases z)⟩
      cases z
      exact (gX7_rename_44_3 (nI s) (nI t) (nI (sn_F b k)) (nI k) M _ hlt h140 hnn (by rw [hz2, e30']; exact nI_le (by omega) (by omega))).tr pt_dropA) (n - 0) 0 (Nat.le_refl 0) (by omega) (fun j a b => absurd b (Nat.not_lt_zero j))
  have g1 := g0.toM (im_zero (tk_M (t0_M M)) b).symm
  refine ⟨fun k hk => rX7_rename_93 rfl (Nat.le_of_ble_eq_true rfl) rfl (g1.tr (K.1 k hk)), fun hk => ?_⟩
  have hall : ∀ i, i < n → rq_F n b i = true := fun i hi => by
    have := fs_none.mp hk i (by omega) (by omega)
    cases c : rq_F n b i
    · rw [c] at this
      cases this
    · rfl
  have hlt : ∀ i, i < n → b i < n := fun i hi => of_decide_eq_true (Bool.and_eq_true _ _ ▸ hall i hi).1
  have hinj : ∀ i j, i < j → j < n → b i ≠ b j := fun i j hij hj he => by
    have := hall j hj
    unfold rq_F at this
    rw [Bool.and_eq_true, Bool.not_eq_true'] at this
    have h6 : (sn_F b j).testBit (b j) = true := sn_bit.mpr ⟨i, hij, he⟩
    rw [this.2] at h6
    cases h6
  have D := dX7_pick (o := 120 * t) (d := 120 * s) (n := n) (m := n) (g := b) (B := B) (M := im_M (tk_M (t0_M M)) n b) hml (by omega) (by omega) hn (fun i hi => ⟨im_at hi, hlt i hi⟩) (fun i j hi hj he => by
    rcases Nat.lt_trichotomy i j with z | z | z
    · exact absurd he (hinj i j z hj)
    · exact z
    · exact absurd he.symm (hinj j i z hi))
  refine rX7_rename_153 rfl (Nat.le_of_ble_eq_true rfl) rfl (g1.tr ((K.2 hk).tr ((gX7_rename_44_5 (nI s) (nI t) (nI (sn_F b n)) (nI n) _ _ (by rw [hz2]; exact Int32.le_refl _) (by rw [m120, m120, hz2]; exact D) (pt_in_nI hs (by decide))).toM ?_)))
  rw [pt_nt_nI (by omega)]
  have hz3 : pt_F (cc_M (st_M (im_M (tk_M (t0_M M)) n b) 840 n fun i j k => B (b i) (b j) (b k)) 840 (nI (120 * s))) 7 3 0 = nI n := hL
  rw [hz3]
  rfl
theorem MR_im {M : pt_M} {A : iv_A} {n : Nat} {g : Nat → Nat} (h : MR_P M A) : MR_P (im_M M n g) A := MR_w h (by decide) (by decide) (by decide) (by decide) (by decide) (by decide)
theorem op_rename {M : pt_M} (h : IV_P M) (x y : Int32) : op_P yX6_rename YX6_rename yX7_rename YX7_rename [pt_i x, pt_i y] M := by
  obtain ⟨A, hC, hM⟩ := h
  have zB : Nat → Nat → Nat → Bool := fun _ _ _ => false
  have fail : pt_Does yX6_renameByTape YX6_renameByTape [pt_r 2 0, pt_i x, pt_i y] M (some (pt_i 0)) M → (∀ M', MR_P M' A → pt_Does yX7_rename YX7_rename [pt_r 7 0, pt_i x, pt_i y] M' (some (pt_i 0)) (tk_M (t0_M M'))) → op_P yX6_rename YX6_rename yX7_rename YX7_rename [pt_i x, pt_i y] M := fun d1 d2 => op_of hC hM (dX6_rename_p1 x y 0 M M d1 pt_nar0) (mo_wF (by decide)) (CR_t0 hC) fun hM => ⟨d2 _ hM, ca_tk, MR_tk hM⟩
  have no : ∀ {M'}, pt_Go YX7_rename (0, [(0, pt_r 7 0), (1, pt_i x), (2, pt_i y)], [], M') (38, [(0, pt_r 7 0), (1, pt_i x), (2, pt_i y)], [pt_i 0], tk_M (pt_wF M' 7 0 0 0)) → pt_Does yX7_rename YX7_rename [pt_r 7 0, pt_i x, pt_i y] M' (some (pt_i 0)) (tk_M (t0_M M')) := fun g => rX7_rename_38 rfl (Nat.le_of_ble_eq_true rfl) rfl g
  by_cases hx : sl_P x
  case neg =>
    rcases lw_case hC y with ⟨h1, h2⟩ | ⟨t, ht, rfl, hn⟩
    · exact fail (dX6_renameByTape_p5 x y 0 zB id M h1 hx) fun M' _ => no (gX7_rename_0_4 x y M' M' hx)
    · exact fail (dX6_renameByTape_p3 x (nI t) 0 zB id M (CR_l1 hC ht hn).1 hx) fun M' _ => no (gX7_rename_0_4 x (nI t) M' M' hx)
  obtain ⟨s, hs, rfl⟩ := sl_of hx
  rcases lw_case hC y with ⟨h1, h2⟩ | ⟨t, ht, rfl, hn⟩
  · exact fail (dX6_renameByTape_p4 (nI s) y 0 zB id M h1 hx) fun M' hM' => no (gX7_rename_0_3 (nI s) y M' M' hx (h2 M' hM'))
  obtain ⟨q1, q2, q3, q4, q5, q6⟩ := CR_y hC ht hn
  have hl := CR_l1 hC ht hn
  have et : pt_nt (nI t) = t := pt_nt_nI (by omega)
  have hsz : pt_F M 3 0 (pt_R M (pt_nt (nI t) + 1)) = nI (iv_N A t) := hl.2.1.2.2.1
  have hL140 := hC.1.2.1
  by_cases hL : iv_L A = iv_N A t
  case neg =>
    refine fail (dX6_renameByTape_p1 (nI s) (nI t) 0 zB id M hl.1 hx hl.2.1.1 (by rw [hsz, hC.1.1]; exact nI_nE hL (by omega) (by omega))) fun M' hM' => no (gX7_rename_0_1 (nI s) (nI t) M' M' hx (MR_y hM' ht hn).1 (pt_in_nI ht (by decide)) ?_)
    have e1 : pt_F (tk_M (pt_wF M' 7 0 0 0)) 7 3 0 = nI (iv_L A) := hM'.1
    have e2 : pt_A (tk_M (pt_wF M' 7 0 0 0)) 31 0 (pt_nt (nI t)) = nI (iv_N A t) := by rw [et]; exact (MR_y hM' ht hn).2.1
    rw [e1, e2]
    exact nI_nE hL (by omega) (by omega)
  have htp : tp_P M (iv_N A t) (iv_b A) := hL ▸ hC.1
  obtain ⟨r1, r2, r3⟩ := dX6_renameByTape (x1 := nI s) hl.1 (CR_kp hC hs) hl.2.1 (CR_ne hC ht) htp
  have d7 : ∀ M', MR_P M' A → _ := fun M' hM' => dX7_rename (s := s) (n := iv_N A t) (b := iv_b A) hs ht (MR_y hM' ht hn).1 (MR_y hM' ht hn).2.1 (MR_y hM' ht hn).2.2 (hL ▸ hM'.1) (hL ▸ hM'.2.1)
  cases hm : rm_F (iv_N A t) (iv_b A) with
  | none =>
    have hall : ∀ i, i < iv_N A t → rq_F (iv_N A t) (iv_b A) i = true := fun i hi => by
      have := fs_none.mp hm i (by omega) (by omega)
      cases c : rq_F (iv_N A t) (iv_b A) i
      · rw [c] at this
        cases this
      · rfl
    have hlt : ∀ i, i < iv_N A t → iv_b A i < iv_N A t := fun i hi => of_decide_eq_true (Bool.and_eq_true _ _ ▸ hall i hi).1
    have hrn : rn_F (iv_N A t) (iv_b A) = none := fs_none.mpr fun j a b => if_pos (hlt j (by omega))
    have hsn : sn_F (iv_b A) (iv_N A t) = 2 ^ iv_N A t - 1 := by
      have h1 := sn_all q2 hall (iv_N A t) (Nat.le_refl _)
      have h2 := (sn_le q2 hlt (iv_N A t) (Nat.le_refl _)).1
      have h3 := of_decide_eq_true (pt_all (pt_all pc_full (i := iv_N A t) (by omega)) h2)
      rw [decide_eq_true h1] at h3
      exact of_decide_eq_true h3.symm
    have eS : (fun i j k => iv_B A t (iv_b A i) (iv_b A j) (iv_b A k)) = fun i j k => iv_B A t (iv_b A i) (iv_b A j) (iv_b A k) != false := by
      funext i j k
      simp
    refine op_ex hC hM (dX6_rename_p1 (nI s) (nI t) 1 _ M (r3 hrn hsn) pt_nar1) ((mo_om.tr kt_mo).tr (mo_wF (by decide))) (CR_t0 (CR_keep (CR_om hC) hs q1 q2)) fun hM => ⟨_, (d7 _ hM).2 hm, (ca_tk.tr (ca_wA (by decide))).tr pk_ca, ?_⟩
    rw [eS]
    exact MR_pk (MR_im (MR_tk hM)) hs q1 q2
  | some k =>
    have h0 : ∃ n', pt_Does yX6_renameByTape YX6_renameByTape [pt_r 2 0, pt_i (nI s), pt_i (nI t)] M (some (pt_i 0)) (om_M M n' (iv_b A)) := by
      cases hrn : rn_F (iv_N A t) (iv_b A) with
      | some k' => exact ⟨_, r1 k' hrn⟩
      | none =>
        refine ⟨_, r2 hrn fun hsn => ?_⟩
        have hlt : ∀ i, i < iv_N A t → iv_b A i < iv_N A t := fun i hi => by
          have := fs_none.mp hrn i (by omega) (by omega)
          by_cases c : iv_b A i < iv_N A t
          · exact c
          · rw [if_neg c] at this
            cases this
        have h2 := (sn_le q2 hlt (iv_N A t) (Nat.le_refl _)).1
        have h3 := of_decide_eq_true (pt_all (pt_all pc_full (i := iv_N A t) (by omega)) h2)
        rw [decide_eq_true hsn] at h3
        have h4 : pc_F (sn_F (iv_b A) (iv_N A t)) = iv_N A t := of_decide_eq_true h3
        have hk : k < iv_N A t ∧ rq_F (iv_N A t) (iv_b A) k = false := fs_lt (P := fun k => k < iv_N A t ∧ rq_F (iv_N A t) (iv_b A) k = false) (fun a w b1 b2 b3 => by
          cases c : rq_F (iv_N A t) (iv_b A) a
          · rw [c] at b3
            cases b3
            exact ⟨by omega, c⟩
          · rw [c] at b3
            cases b3) hm
        have hd : (sn_F (iv_b A) k).testBit (iv_b A k) = true := by
          have := hk.2
          unfold rq_F at this
          rw [decide_eq_true (hlt k hk.1)] at this
          simpa using this
        have := sn_dup q2 hlt hk.1 hd (iv_N A t) hk.1 (Nat.le_refl _)
        omega
    obtain ⟨n', h0⟩ := h0
    exact op_ex hC hM (dX6_rename_p1 (nI s) (nI t) 0 _ M h0 pt_nar0) (mo_om.tr (mo_wF (by decide))) (CR_t0 (CR_om hC)) fun hM => ⟨_, (d7 _ hM).1 k hm, ca_tk.tr (ca_wA (by decide)), MR_im (MR_tk hM)⟩
