/-! rowOf, compare -/
theorem rk_e {n : Nat} : rk_F n n (n + 1) (n + 2) = rk_0 n n := by
  unfold rk_F
  rw [rk_i0 n n (n + 1) (Nat.le_refl _)]
  omega
def ro_Q (M : pt_M) (n : Nat) (g : Nat → Nat) : Prop := (∀ e, e < n → pt_A M 35 0 e = nI (g e) ∧ g e < n) ∧ ∀ a b, a < b → b < n → g a ≠ g b
theorem rX7_rowOf_96 {vs : List pt_V} {M M' : pt_M} {L : List (Nat × pt_V)} (hvs : (vs.map pt_w).sum ≤ 8) (hX : M'.2.2.2.2 = M.2.2.2.2) (h : pt_Go YX7_rowOf (0, pt_en 0 vs, [], M) (96, L, [], M')) : pt_Does yX7_rowOf YX7_rowOf vs M none M' := pt_does_go tX7_rowOf_ok nX7_rowOf hvs hX ⟨_, by with_unfolding_all rfl, rfl, rfl⟩ h
set_option maxRecDepth 100000 in
theorem gX7_rowOf_0_1 (x1 : Int32) (x2 : Int32) (n : Nat) (B : Nat → Nat → Nat → Bool) (M : pt_M) :
    pt_Go YX7_rowOf (0, [(0, pt_r 7 0), (1, pt_i x1), (2, pt_i x2), (3, pt_r 37 0)], [], M)
      (6, [(0, pt_r 7 0), (1, pt_i x1), (2, pt_i x2), (3, pt_r 37 0), (4, pt_i 0), (5, pt_i 0)], [], M) :=
  pt_run_ok tX7_rowOf_ok 4 [] (P := True) (by with_unfolding_all rfl) trivial
set_option maxRecDepth 100000 in
theorem gX7_rowOf_6_1 (l1 : Int32) (l2 : Int32) (l4 : Int32) (l5 : Int32) (n : Nat) (B : Nat → Nat → Nat → Bool) (M : pt_M) (h1 : ¬ l2 ≤ l5) :
    pt_Go YX7_rowOf (6, [(0, pt_r 7 0), (1, pt_i l1), (2, pt_i l2), (3, pt_r 37 0), (4, pt_i l4), (5, pt_i l5)], [], M)
      (18, [(0, pt_r 7 0), (1, pt_i l1), (2, pt_i l2), (3, pt_r 37 0), (4, pt_i l4), (5, pt_i l5), (6, pt_i (l5 + 1))], [], M) :=
  pt_run_ok tX7_rowOf_ok 7 [.inl false] (P := (¬ l2 ≤ l5) ∧ True) (by with_unfolding_all rfl) ⟨h1, trivial⟩
set_option maxRecDepth 100000 in
theorem gX7_rowOf_6_2 (l1 : Int32) (l2 : Int32) (l4 : Int32) (l5 : Int32) (n : Nat) (B : Nat → Nat → Nat → Bool) (M : pt_M) (h1 : l2 ≤ l5) :
    pt_Go YX7_rowOf (6, [(0, pt_r 7 0), (1, pt_i l1), (2, pt_i l2), (3, pt_r 37 0), (4, pt_i l4), (5, pt_i l5)], [], M)
      (96, [(0, pt_r 7 0), (1, pt_i l1), (2, pt_i l2), (3, pt_r 37 0), (4, pt_i l4), (5, pt_i l5)], [], M) :=
  pt_run_ok tX7_rowOf_ok 3 [.inl true] (P := (l2 ≤ l5) ∧ True) (by with_unfolding_all rfl) ⟨h1, trivial⟩
set_option maxRecDepth 100000 in
theorem gX7_rowOf_18_1 (l1 : Int32) (l2 : Int32) (l4 : Int32) (l5 : Int32) (l6 : Int32) (n : Nat) (B : Nat → Nat → Nat → Bool) (M : pt_M) (h1 : ¬ l2 ≤ l6) :
    pt_Go YX7_rowOf (18, [(0, pt_r 7 0), (1, pt_i l1), (2, pt_i l2), (3, pt_r 37 0), (4, pt_i l4), (5, pt_i l5), (6, pt_i l6)], [], M)
      (30, [(0, pt_r 7 0), (1, pt_i l1), (2, pt_i l2), (3, pt_r 37 0), (4, pt_i l4), (5, pt_i l5), (6, pt_i l6), (7, pt_i (l6 + 1))], [], M) :=
  pt_run_ok tX7_rowOf_ok 7 [.inl false] (P := (¬ l2 ≤ l6) ∧ True) (by with_unfolding_all rfl) ⟨h1, trivial⟩
set_option maxRecDepth 100000 in
theorem gX7_rowOf_18_2 (l1 : Int32) (l2 : Int32) (l4 : Int32) (l5 : Int32) (l6 : Int32) (n : Nat) (B : Nat → Nat → Nat → Bool) (M : pt_M) (h1 : l2 ≤ l6) :
    pt_Go YX7_rowOf (18, [(0, pt_r 7 0), (1, pt_i l1), (2, pt_i l2), (3, pt_r 37 0), (4, pt_i l4), (5, pt_i l5), (6, pt_i l6)], [], M)
      (6, [(0, pt_r 7 0), (1, pt_i l1), (2, pt_i l2), (3, pt_r 37 0), (4, pt_i l4), (5, pt_i (l5 + 1))], [], M) :=
  (pt_run_ok tX7_rowOf_ok 5 [.inl true] (P := (l2 ≤ l6) ∧ True) (by with_unfolding_all rfl) ⟨h1, trivial⟩ : pt_Go YX7_rowOf _ (6, [(0, pt_r 7 0), (1, pt_i l1), (2, pt_i l2), (3, pt_r 37 0), (4, pt_i l4), (5, pt_i (l5 + 1)), (6, pt_i l6)], [], M)).tr (pt_pick [0, 1, 2, 3, 4, 5] (by with_unfolding_all rfl))
set_option maxRecDepth 100000 in
theorem gX7_rowOf_30_1 (l1 : Int32) (l2 : Int32) (l4 : Int32) (l5 : Int32) (l6 : Int32) (l7 : Int32) (n : Nat) (B : Nat → Nat → Nat → Bool) (M : pt_M) (h1 : ¬ l2 ≤ l7) (h2 : pt_in l5 10) (h3 : pt_in l6 10) (h4 : pt_in l7 10) (h5 : tq_P M l1 (pt_A M 35 0 (pt_nt l5)) (pt_A M 35 0 (pt_nt l6)) (pt_A M 35 0 (pt_nt l7)) n B) (h6 : (ta_I B (pt_A M 35 0 (pt_nt l5)) (pt_A M 35 0 (pt_nt l6)) (pt_A M 35 0 (pt_nt l7))) = 1) (h7 : pt_in l4 120) :
    pt_Go YX7_rowOf (30, [(0, pt_r 7 0), (1, pt_i l1), (2, pt_i l2), (3, pt_r 37 0), (4, pt_i l4), (5, pt_i l5), (6, pt_i l6), (7, pt_i l7)], [], M)
      (30, [(0, pt_r 7 0), (1, pt_i l1), (2, pt_i l2), (3, pt_r 37 0), (4, pt_i (l4 + 1)), (5, pt_i l5), (6, pt_i l6), (7, pt_i (l7 + 1))], [], (pt_wA M 37 0 (upd (pt_A M 37 0) (pt_nt l4) 1))) :=
  pt_run_ok tX7_rowOf_ok 28 [.inl false, .inr (5, some (pt_i (ta_I B (pt_A M 35 0 (pt_nt l5)) (pt_A M 35 0 (pt_nt l6)) (pt_A M 35 0 (pt_nt l7)))), M), .inl false] (P := (¬ l2 ≤ l7) ∧ (pt_in l5 10) ∧ (pt_in l6 10) ∧ (pt_in l7 10) ∧ pt_Cal YX7_rowOf (.invokevirtual 81) [pt_r 7 0, pt_i l1, pt_i (pt_A M 35 0 (pt_nt l5)), pt_i (pt_A M 35 0 (pt_nt l6)), pt_i (pt_A M 35 0 (pt_nt l7))] M (some (pt_i (ta_I B (pt_A M 35 0 (pt_nt l5)) (pt_A M 35 0 (pt_nt l6)) (pt_A M 35 0 (pt_nt l7))))) M ∧ ((ta_I B (pt_A M 35 0 (pt_nt l5)) (pt_A M 35 0 (pt_nt l6)) (pt_A M 35 0 (pt_nt l7))) = 1) ∧ (pt_in l4 120) ∧ True) (by with_unfolding_all rfl) ⟨h1, h2, h3, h4, (pt_callV (i := 0) kX7_rowOf_81 mX7_turnAt rfl (by decide) rfl (dX7_turnAt_t h5)), h6, h7, trivial⟩
set_option maxRecDepth 100000 in
theorem gX7_rowOf_30_2 (l1 : Int32) (l2 : Int32) (l4 : Int32) (l5 : Int32) (l6 : Int32) (l7 : Int32) (n : Nat) (B : Nat → Nat → Nat → Bool) (M : pt_M) (h1 : ¬ l2 ≤ l7) (h2 : pt_in l5 10) (h3 : pt_in l6 10) (h4 : pt_in l7 10) (h5 : tq_P M l1 (pt_A M 35 0 (pt_nt l5)) (pt_A M 35 0 (pt_nt l6)) (pt_A M 35 0 (pt_nt l7)) n B) (h6 : ¬ (ta_I B (pt_A M 35 0 (pt_nt l5)) (pt_A M 35 0 (pt_nt l6)) (pt_A M 35 0 (pt_nt l7))) = 1) (h7 : pt_in l4 120) :
    pt_Go YX7_rowOf (30, [(0, pt_r 7 0), (1, pt_i l1), (2, pt_i l2), (3, pt_r 37 0), (4, pt_i l4), (5, pt_i l5), (6, pt_i l6), (7, pt_i l7)], [], M)
      (30, [(0, pt_r 7 0), (1, pt_i l1), (2, pt_i l2), (3, pt_r 37 0), (4, pt_i (l4 + 1)), (5, pt_i l5), (6, pt_i l6), (7, pt_i (l7 + 1))], [], (pt_wA M 37 0 (upd (pt_A M 37 0) (pt_nt l4) 2))) :=
  pt_run_ok tX7_rowOf_ok 27 [.inl false, .inr (5, some (pt_i (ta_I B (pt_A M 35 0 (pt_nt l5)) (pt_A M 35 0 (pt_nt l6)) (pt_A M 35 0 (pt_nt l7)))), M), .inl true] (P := (¬ l2 ≤ l7) ∧ (pt_in l5 10) ∧ (pt_in l6 10) ∧ (pt_in l7 10) ∧ pt_Cal YX7_rowOf (.invokevirtual 81) [pt_r 7 0, pt_i l1, pt_i (pt_A M 35 0 (pt_nt l5)), pt_i (pt_A M 35 0 (pt_nt l6)), pt_i (pt_A M 35 0 (pt_nt l7))] M (some (pt_i (ta_I B (pt_A M 35 0 (pt_nt l5)) (pt_A M 35 0 (pt_nt l6)) (pt_A M 35 0 (pt_nt l7))))) M ∧ (¬ (ta_I B (pt_A M 35 0 (pt_nt l5)) (pt_A M 35 0 (pt_nt l6)) (pt_A M 35 0 (pt_nt l7))) = 1) ∧ (pt_in l4 120) ∧ True) (by with_unfolding_all rfl) ⟨h1, h2, h3, h4, (pt_callV (i := 0) kX7_rowOf_81 mX7_turnAt rfl (by decide) rfl (dX7_turnAt_t h5)), h6, h7, trivial⟩
set_option maxRecDepth 100000 in
theorem gX7_rowOf_30_3 (l1 : Int32) (l2 : Int32) (l4 : Int32) (l5 : Int32) (l6 : Int32) (l7 : Int32) (n : Nat) (B : Nat → Nat → Nat → Bool) (M : pt_M) (h1 : l2 ≤ l7) :
    pt_Go YX7_rowOf (30, [(0, pt_r 7 0), (1, pt_i l1), (2, pt_i l2), (3, pt_r 37 0), (4, pt_i l4), (5, pt_i l5), (6, pt_i l6), (7, pt_i l7)], [], M)
      (18, [(0, pt_r 7 0), (1, pt_i l1), (2, pt_i l2), (3, pt_r 37 0), (4, pt_i l4), (5, pt_i l5), (6, pt_i (l6 + 1))], [], M) :=
  (pt_run_ok tX7_rowOf_ok 5 [.inl true] (P := (l2 ≤ l7) ∧ True) (by with_unfolding_all rfl) ⟨h1, trivial⟩ : pt_Go YX7_rowOf _ (18, [(0, pt_r 7 0), (1, pt_i l1), (2, pt_i l2), (3, pt_r 37 0), (4, pt_i l4), (5, pt_i l5), (6, pt_i (l6 + 1)), (7, pt_i l7)], [], M)).tr (pt_pick [0, 1, 2, 3, 4, 5, 6] (by with_unfolding_all rfl))
theorem dX7_rowOf {o n : Nat} {g : Nat → Nat} {B : Nat → Nat → Nat → Bool} {M : pt_M} (hml : ml_P M o n B) (hg : ro_Q M n g) : pt_Does yX7_rowOf YX7_rowOf [pt_r 7 0, pt_i (nI o), pt_i (nI n), pt_r 37 0] M none (pt_wA M 37 0 (co_F (pt_A M 37 0) (rw_F n B g false) (rk_0 n n))) := by
  have hn := hml.2.1
  have K := pt_three (Y := YX7_rowOf) (n := n)
    (fun i => (6, [(0, pt_r 7 0), (1, pt_i (nI o)), (2, pt_i (nI n)), (3, pt_r 37 0), (4, pt_i (nI (rk_F n i (i + 1) (i + 2)))), (5, pt_i (nI i))], [], pt_wA M 37 0 (co_F (pt_A M 37 0) (rw_F n B g false) (rk_F n i (i + 1) (i + 2)))))
    (fun i j => (18, [(0, pt_r 7 0), (1, pt_i (nI o)), (2, pt_i (nI n)), (3, pt_r 37 0), (4, pt_i (nI (rk_F n i j (j + 1)))), (5, pt_i (nI i)), (6, pt_i (nI j))], [], pt_wA M 37 0 (co_F (pt_A M 37 0) (rw_F n B g false) (rk_F n i j (j + 1)))))
    (fun i j k => (30, [(0, pt_r 7 0), (1, pt_i (nI o)), (2, pt_i (nI n)), (3, pt_r 37 0), (4, pt_i (nI (rk_F n i j k))), (5, pt_i (nI i)), (6, pt_i (nI j)), (7, pt_i (nI k))], [], pt_wA M 37 0 (co_F (pt_A M 37 0) (rw_F n B g false) (rk_F n i j k))))
    (fun i hi => (gX7_rowOf_6_1 (nI o) (nI n) _ (nI i) n B _ (nI_ge hi (by omega))).to (by rw [nI_1]))
    (fun i j hij hj => (gX7_rowOf_18_1 (nI o) (nI n) _ (nI i) (nI j) n B _ (nI_ge hj (by omega))).to (by rw [nI_1]))
    (fun i hi => (gX7_rowOf_18_2 (nI o) (nI n) _ (nI i) (nI n) n B _ (Int32.le_refl _)).to (by rw [nI_1, rk_i (n + 1) (Nat.le_refl _)]))
    (fun i j k hij hjk hk => by
      obtain ⟨hr1, hr2⟩ := rk_lt n hn i (by omega) j (by omega) k hk hij hjk
      obtain ⟨a1, a2⟩ := hg.1 i (by omega)
      obtain ⟨b1, b2⟩ := hg.1 j (by omega)
      obtain ⟨c1, c2⟩ := hg.1 k hk
      have hml' : ml_P (pt_wA M 37 0 (co_F (pt_A M 37 0) (rw_F n B g false) (rk_F n i j k))) o n B := hml
      have e1 : pt_A (pt_wA M 37 0 (co_F (pt_A M 37 0) (rw_F n B g false) (rk_F n i j k))) 35 0 (pt_nt (nI i)) = nI (g i) := by rw [pt_nt_nI (by omega)]; exact a1
      have e2 : pt_A (pt_wA M 37 0 (co_F (pt_A M 37 0) (rw_F n B g false) (rk_F n i j k))) 35 0 (pt_nt (nI j)) = nI (g j) := by rw [pt_nt_nI (by omega)]; exact b1
      have e3 : pt_A (pt_wA M 37 0 (co_F (pt_A M 37 0) (rw_F n B g false) (rk_F n i j k))) 35 0 (pt_nt (nI k)) = nI (g k) := by rw [pt_nt_nI (by omega)]; exact c1
      have ht := tq_of hml' a2 b2 c2 (hg.2 i j hij (by omega)) (hg.2 j k hjk hk) (hg.2 i k (by omega) hk)
      have hw := rw_at (B := B) (g := g) (mr := false) hn hij hjk hk
      have i10 : pt_in (nI i) 10 := pt_in_nI (by omega) (by decide)
      have j10 : pt_in (nI j) 10 := pt_in_nI (by omega) (by decide)
      have k10 : pt_in (nI k) 10 := pt_in_nI (by omega) (by decide)
      have r120 : pt_in (nI (rk_F n i j k)) 120 := pt_in_nI (by omega) (by decide)
      cases hv : B (g i) (g j) (g k)
      · refine (gX7_rowOf_30_2 (nI o) (nI n) (nI (rk_F n i j k)) (nI i) (nI j) (nI k) n B _ (nI_ge hk (by omega)) i10 j10 k10 (by rw [e1, e2, e3]; exact ht) (by rw [e1, e2, e3, ta_nI (by omega) (by omega) (by omega), hv]; decide) r120).to ?_
        have hw : rw_F n B g false (rk_F n i j k) = 2 := by rw [hw, hv]; rfl
        rw [nI_1, nI_1, rk_k hjk, wA_2 _ _ _ _ (by omega), ← co_step, hw]
      · refine (gX7_rowOf_30_1 (nI o) (nI n) (nI (rk_F n i j k)) (nI i) (nI j) (nI k) n B _ (nI_ge hk (by omega)) i10 j10 k10 (by rw [e1, e2, e3]; exact ht) (by rw [e1, e2, e3, ta_nI (by omega) (by omega) (by omega), hv]; rfl) r120).to ?_
        have hw : rw_F n B g false (rk_F n i j k) = 1 := by rw [hw, hv]; rfl
        rw [nI_1, nI_1, rk_k hjk, wA_2 _ _ _ _ (by omega), ← co_step, hw])
    (fun i j hij hj => (gX7_rowOf_30_3 (nI o) (nI n) _ (nI i) (nI j) (nI n) n B _ (Int32.le_refl _)).to (by rw [nI_1, rk_j hij hj]))
  refine rX7_rowOf_96 (Nat.le_of_ble_eq_true rfl) rfl (((gX7_rowOf_0_1 (nI o) (nI n) n B M).to ?_).tr (K.tr ((gX7_rowOf_6_2 (nI o) (nI n) _ (nI n) n B _ (Int32.le_refl _)).toM ?_)))
  · have e : rk_F n 0 (0 + 1) (0 + 2) = 0 := rfl
    rw [e, co_zero, pt_wA_self]
    rfl
  · rw [rk_e]
def mc_F (f w : Nat → Int32) (N : Nat) : Int32 := match fs_F (N - 0) 0 (fun p => if f p = w p then none else some p) with
  | some p => f p - w p
  | none => 0
theorem rX7_compare_23 {vs : List pt_V} {M M' : pt_M} {x : Int32} {L : List (Nat × pt_V)} (hvs : (vs.map pt_w).sum ≤ 4) (hX : M'.2.2.2.2 = M.2.2.2.2) (h : pt_Go YX7_compare (0, pt_en 0 vs, [], M) (23, L, [pt_i x], M')) : pt_Does yX7_compare YX7_compare vs M (some (pt_i x)) M' := pt_does_go tX7_compare_ok nX7_compare hvs hX ⟨_, by with_unfolding_all rfl, rfl, _, rfl, rfl⟩ h
theorem rX7_compare_31 {vs : List pt_V} {M M' : pt_M} {x : Int32} {L : List (Nat × pt_V)} (hvs : (vs.map pt_w).sum ≤ 4) (hX : M'.2.2.2.2 = M.2.2.2.2) (h : pt_Go YX7_compare (0, pt_en 0 vs, [], M) (31, L, [pt_i x], M')) : pt_Does yX7_compare YX7_compare vs M (some (pt_i x)) M' := pt_does_go tX7_compare_ok nX7_compare hvs hX ⟨_, by with_unfolding_all rfl, rfl, _, rfl, rfl⟩ h
set_option maxRecDepth 100000 in
theorem gX7_compare3738_0_1 (x : Int32)  (M : pt_M) :
    pt_Go YX7_compare (0, [(0, pt_r 37 0), (1, pt_r 38 0), (2, pt_i x)], [], M)
      (2, [(0, pt_r 37 0), (1, pt_r 38 0), (2, pt_i x), (3, pt_i 0)], [], M) :=
  pt_run_ok tX7_compare_ok 2 [] (P := True) (by with_unfolding_all rfl) trivial
set_option maxRecDepth 100000 in
theorem gX7_compare3738_2_1 (l2 : Int32) (l3 : Int32)  (M : pt_M) (h1 : ¬ l2 ≤ l3) (h2 : pt_in l3 120) (h3 : ¬ (pt_A M 37 0 (pt_nt l3)) = (pt_A M 38 0 (pt_nt l3))) :
    pt_Go YX7_compare (2, [(0, pt_r 37 0), (1, pt_r 38 0), (2, pt_i l2), (3, pt_i l3)], [], M)
      (23, [(0, pt_r 37 0), (1, pt_r 38 0), (2, pt_i l2), (3, pt_i l3)], [pt_i ((pt_A M 37 0 (pt_nt l3)) - (pt_A M 38 0 (pt_nt l3)))], M) :=
  pt_run_ok tX7_compare_ok 17 [.inl false, .inl false] (P := (¬ l2 ≤ l3) ∧ (pt_in l3 120) ∧ (pt_in l3 120) ∧ (¬ (pt_A M 37 0 (pt_nt l3)) = (pt_A M 38 0 (pt_nt l3))) ∧ (pt_in l3 120) ∧ (pt_in l3 120) ∧ True) (by with_unfolding_all rfl) ⟨h1, h2, h2, h3, h2, h2, trivial⟩
set_option maxRecDepth 100000 in
theorem gX7_compare3738_2_2 (l2 : Int32) (l3 : Int32)  (M : pt_M) (h1 : ¬ l2 ≤ l3) (h2 : pt_in l3 120) (h3 : (pt_A M 37 0 (pt_nt l3)) = (pt_A M 38 0 (pt_nt l3))) :
    pt_Go YX7_compare (2, [(0, pt_r 37 0), (1, pt_r 38 0), (2, pt_i l2), (3, pt_i l3)], [], M)
      (2, [(0, pt_r 37 0), (1, pt_r 38 0), (2, pt_i l2), (3, pt_i (l3 + 1))], [], M) :=
  pt_run_ok tX7_compare_ok 12 [.inl false, .inl true] (P := (¬ l2 ≤ l3) ∧ (pt_in l3 120) ∧ (pt_in l3 120) ∧ ((pt_A M 37 0 (pt_nt l3)) = (pt_A M 38 0 (pt_nt l3))) ∧ True) (by with_unfolding_all rfl) ⟨h1, h2, h2, h3, trivial⟩
set_option maxRecDepth 100000 in
theorem gX7_compare3738_2_3 (l2 : Int32) (l3 : Int32)  (M : pt_M) (h1 : l2 ≤ l3) :
    pt_Go YX7_compare (2, [(0, pt_r 37 0), (1, pt_r 38 0), (2, pt_i l2), (3, pt_i l3)], [], M)
      (31, [(0, pt_r 37 0), (1, pt_r 38 0), (2, pt_i l2), (3, pt_i l3)], [pt_i 0], M) :=
  pt_run_ok tX7_compare_ok 4 [.inl true] (P := (l2 ≤ l3) ∧ True) (by with_unfolding_all rfl) ⟨h1, trivial⟩
theorem dX7_compare_3738 {N : Nat} {M : pt_M} (hN : N ≤ 120) : pt_Does yX7_compare YX7_compare [pt_r 37 0, pt_r 38 0, pt_i (nI N)] M (some (pt_i (mc_F (pt_A M 37 0) (pt_A M 38 0) N))) M := by
  have K := pt_nest (Y := YX7_compare) (σ := (0, [(0, pt_r 37 0), (1, pt_r 38 0), (2, pt_i (nI N))], [], M)) (τ := (31, [], [pt_i 0], M)) (R := fun p => (23, [], [pt_i (pt_A M 37 0 p - pt_A M 38 0 p)], M)) (n := N) (i := 0)
    (S := fun p => (2, [(0, pt_r 37 0), (1, pt_r 38 0), (2, pt_i (nI N)), (3, pt_i (nI p))], [], M)) (f := fun p => if pt_A M 37 0 p = pt_A M 38 0 p then none else some p)
    (Nat.zero_le N) (gX7_compare3738_0_1 (nI N) M) ((gX7_compare3738_2_3 (nI N) (nI N) M (Int32.le_refl _)).tr pt_dropA) fun p _ hp => by
      have e : pt_nt (nI p) = p := pt_nt_nI (by omega)
      by_cases hv : pt_A M 37 0 p = pt_A M 38 0 p
      · refine ⟨fun v z => by simp [hv] at z, fun _ => (gX7_compare3738_2_2 (nI N) (nI p) M (nI_ge hp (by omega)) (pt_in_nI (by omega) (by decide)) (by rw [e]; exact hv)).to (by rw [nI_1])⟩
      · refine ⟨fun v z => ?_, fun z => by simp [hv] at z⟩
        simp only [if_neg hv, Option.some.injEq] at z
        subst z
        refine ((gX7_compare3738_2_1 (nI N) (nI p) M (nI_ge hp (by omega)) (pt_in_nI (by omega) (by decide)) (by rw [e]; exact hv)).tr pt_dropA).to ?_
        rw [e]
  unfold mc_F
  cases hf : fs_F (N - 0) 0 (fun p => if pt_A M 37 0 p = pt_A M 38 0 p then none else some p) with
  | none => exact rX7_compare_31 (Nat.le_of_ble_eq_true rfl) rfl (K.2 hf)
  | some v => exact rX7_compare_23 (Nat.le_of_ble_eq_true rfl) rfl (K.1 v hf)
theorem dX7_compare_3738t {N : Nat} {x : Int32} {M : pt_M} (h : cn_P x N) : pt_Does yX7_compare YX7_compare [pt_r 37 0, pt_r 38 0, pt_i x] M (some (pt_i (mc_F (pt_A M 37 0) (pt_A M 38 0) N))) M := by
  rw [h.1]
  exact dX7_compare_3738 h.2
set_option maxRecDepth 100000 in
theorem gX7_compare3739_0_1 (x : Int32)  (M : pt_M) :
    pt_Go YX7_compare (0, [(0, pt_r 37 0), (1, pt_r 39 0), (2, pt_i x)], [], M)
      (2, [(0, pt_r 37 0), (1, pt_r 39 0), (2, pt_i x), (3, pt_i 0)], [], M) :=
  pt_run_ok tX7_compare_ok 2 [] (P := True) (by with_unfolding_all rfl) trivial
set_option maxRecDepth 100000 in
theorem gX7_compare3739_2_1 (l2 : Int32) (l3 : Int32)  (M : pt_M) (h1 : ¬ l2 ≤ l3) (h2 : pt_in l3 120) (h3 : ¬ (pt_A M 37 0 (pt_nt l3)) = (pt_A M 39 0 (pt_nt l3))) :
    pt_Go YX7_compare (2, [(0, pt_r 37 0), (1, pt_r 39 0), (2, pt_i l2), (3, pt_i l3)], [], M)
      (23, [(0, pt_r 37 0), (1, pt_r 39 0), (2, pt_i l2), (3, pt_i l3)], [pt_i ((pt_A M 37 0 (pt_nt l3)) - (pt_A M 39 0 (pt_nt l3)))], M) :=
  pt_run_ok tX7_compare_ok 17 [.inl false, .inl false] (P := (¬ l2 ≤ l3) ∧ (pt_in l3 120) ∧ (pt_in l3 120) ∧ (¬ (pt_A M 37 0 (pt_nt l3)) = (pt_A M 39 0 (pt_nt l3))) ∧ (pt_in l3 120) ∧ (pt_in l3 120) ∧ True) (by with_unfolding_all rfl) ⟨h1, h2, h2, h3, h2, h2, trivial⟩
set_option maxRecDepth 100000 in
theorem gX7_compare3739_2_2 (l2 : Int32) (l3 : Int32)  (M : pt_M) (h1 : ¬ l2 ≤ l3) (h2 : pt_in l3 120) (h3 : (pt_A M 37 0 (pt_nt l3)) = (pt_A M 39 0 (pt_nt l3))) :
    pt_Go YX7_compare (2, [(0, pt_r 37 0), (1, pt_r 39 0), (2, pt_i l2), (3, pt_i l3)], [], M)
      (2, [(0, pt_r 37 0), (1, pt_r 39 0), (2, pt_i l2), (3, pt_i (l3 + 1))], [], M) :=
  pt_run_ok tX7_compare_ok 12 [.inl false, .inl true] (P := (¬ l2 ≤ l3) ∧ (pt_in l3 120) ∧ (pt_in l3 120) ∧ ((pt_A M 37 0 (pt_nt l3)) = (pt_A M 39 0 (pt_nt l3))) ∧ True) (by with_unfolding_all rfl) ⟨h1, h2, h2, h3, trivial⟩
set_option maxRecDepth 100000 in
theorem gX7_compare3739_2_3 (l2 : Int32) (l3 : Int32)  (M : pt_M) (h1 : l2 ≤ l3) :
    pt_Go YX7_compare (2, [(0, pt_r 37 0), (1, pt_r 39 0), (2, pt_i l2), (3, pt_i l3)], [], M)
      (31, [(0, pt_r 37 0), (1, pt_r 39 0), (2, pt_i l2), (3, pt_i l3)], [pt_i 0], M) :=
  pt_run_ok tX7_compare_ok 4 [.inl true] (P := (l2 ≤ l3) ∧ True) (by with_unfolding_all rfl) ⟨h1, trivial⟩
theorem dX7_compare_3739 {N : Nat} {M : pt_M} (hN : N ≤ 120) : pt_Does yX7_compare YX7_compare [pt_r 37 0, pt_r 39 0, pt_i (nI N)] M (some (pt_i (mc_F (pt_A M 37 0) (pt_A M 39 0) N))) M := by
  have K := pt_nest (Y := YX7_compare) (σ := (0, [(0, pt_r 37 0), (1, pt_r 39 0), (2, pt_i (nI N))], [], M)) (τ := (31, [], [pt_i 0], M)) (R := fun p => (23, [], [pt_i (pt_A M 37 0 p - pt_A M 39 0 p)], M)) (n := N) (i := 0)
    (S := fun p => (2, [(0, pt_r 37 0), (1, pt_r 39 0), (2, pt_i (nI N)), (3, pt_i (nI p))], [], M)) (f := fun p => if pt_A M 37 0 p = pt_A M 39 0 p then none else some p)
    (Nat.zero_le N) (gX7_compare3739_0_1 (nI N) M) ((gX7_compare3739_2_3 (nI N) (nI N) M (Int32.le_refl _)).tr pt_dropA) fun p _ hp => by
      have e : pt_nt (nI p) = p := pt_nt_nI (by omega)
      by_cases hv : pt_A M 37 0 p = pt_A M 39 0 p
      · refine ⟨fun v z => by simp [hv] at z, fun _ => (gX7_compare3739_2_2 (nI N) (nI p) M (nI_ge hp (by omega)) (pt_in_nI (by omega) (by decide)) (by rw [e]; exact hv)).to (by rw [nI_1])⟩
      · refine ⟨fun v z => ?_, fun z => by simp [hv] at z⟩
        simp only [if_neg hv, Option.some.injEq] at z
        subst z
        refine ((gX7_compare3739_2_1 (nI N) (nI p) M (nI_ge hp (by omega)) (pt_in_nI (by omega) (by decide)) (by rw [e]; exact hv)).tr pt_dropA).to ?_
        rw [e]
  unfold mc_F
  cases hf : fs_F (N - 0) 0 (fun p => if pt_A M 37 0 p = pt_A M 39 0 p then none else some p) with
  | none => exact rX7_compare_31 (Nat.le_of_ble_eq_true rfl) rfl (K.2 hf)
  | some v => exact rX7_compare_23 (Nat.le_of_ble_eq_true rfl) rfl (K.1 v hf)
theorem dX7_compare_3739t {N : Nat} {x : Int32} {M : pt_M} (h : cn_P x N) : pt_Does yX7_compare YX7_compare [pt_r 37 0, pt_r 39 0, pt_i x] M (some (pt_i (mc_F (pt_A M 37 0) (pt_A M 39 0) N))) M := by
  rw [h.1]
  exact dX7_compare_3739 h.2
set_option maxRecDepth 100000 in
theorem gX7_compare3740_0_1 (x : Int32)  (M : pt_M) :
    pt_Go YX7_compare (0, [(0, pt_r 37 0), (1, pt_r 40 0), (2, pt_i x)], [], M)
      (2, [(0, pt_r 37 0), (1, pt_r 40 0), (2, pt_i x), (3, pt_i 0)], [], M) :=
  pt_run_ok tX7_compare_ok 2 [] (P := True) (by with_unfolding_all rfl) trivial
set_option maxRecDepth 100000 in
theorem gX7_compare3740_2_1 (l2 : Int32) (l3 : Int32)  (M : pt_M) (h1 : ¬ l2 ≤ l3) (h2 : pt_in l3 120) (h3 : ¬ (pt_A M 37 0 (pt_nt l3)) = (pt_A M 40 0 (pt_nt l3))) :
    pt_Go YX7_compare (2, [(0, pt_r 37 0), (1, pt_r 40 0), (2, pt_i l2), (3, pt_i l3)], [], M)
      (23, [(0, pt_r 37 0), (1, pt_r 40 0), (2, pt_i l2), (3, pt_i l3)], [pt_i ((pt_A M 37 0 (pt_nt l3)) - (pt_A M 40 0 (pt_nt l3)))], M) :=
  pt_run_ok tX7_compare_ok 17 [.inl false, .inl false] (P := (¬ l2 ≤ l3) ∧ (pt_in l3 120) ∧ (pt_in l3 120) ∧ (¬ (pt_A M 37 0 (pt_nt l3)) = (pt_A M 40 0 (pt_nt l3))) ∧ (pt_in l3 120) ∧ (pt_in l3 120) ∧ True) (by with_unfolding_all rfl) ⟨h1, h2, h2, h3, h2, h2, trivial⟩
set_option maxRecDepth 100000 in
theorem gX7_compare3740_2_2 (l2 : Int32) (l3 : Int32)  (M : pt_M) (h1 : ¬ l2 ≤ l3) (h2 : pt_in l3 120) (h3 : (pt_A M 37 0 (pt_nt l3)) = (pt_A M 40 0 (pt_nt l3))) :
    pt_Go YX7_compare (2, [(0, pt_r 37 0), (1, pt_r 40 0), (2, pt_i l2), (3, pt_i l3)], [], M)
      (2, [(0, pt_r 37 0), (1, pt_r 40 0), (2, pt_i l2), (3, pt_i (l3 + 1))], [], M) :=
  pt_run_ok tX7_compare_ok 12 [.inl false, .inl true] (P := (¬ l2 ≤ l3) ∧ (pt_in l3 120) ∧ (pt_in l3 120) ∧ ((pt_A M 37 0 (pt_nt l3)) = (pt_A M 40 0 (pt_nt l3))) ∧ True) (by with_unfolding_all rfl) ⟨h1, h2, h2, h3, trivial⟩
set_option maxRecDepth 100000 in
theorem gX7_compare3740_2_3 (l2 : Int32) (l3 : Int32)  (M : pt_M) (h1 : l2 ≤ l3) :
    pt_Go YX7_compare (2, [(0, pt_r 37 0), (1, pt_r 40 0), (2, pt_i l2), (3, pt_i l3)], [], M)
      (31, [(0, pt_r 37 0), (1, pt_r 40 0), (2, pt_i l2), (3, pt_i l3)], [pt_i 0], M) :=
  pt_run_ok tX7_compare_ok 4 [.inl true] (P := (l2 ≤ l3) ∧ True) (by with_unfolding_all rfl) ⟨h1, trivial⟩
theorem dX7_compare_3740 {N : Nat} {M : pt_M} (hN : N ≤ 120) : pt_Does yX7_compare YX7_compare [pt_r 37 0, pt_r 40 0, pt_i (nI N)] M (some (pt_i (mc_F (pt_A M 37 0) (pt_A M 40 0) N))) M := by
  have K := pt_nest (Y := YX7_compare) (σ := (0, [(0, pt_r 37 0), (1, pt_r 40 0), (2, pt_i (nI N))], [], M)) (τ := (31, [], [pt_i 0], M)) (R := fun p => (23, [], [pt_i (pt_A M 37 0 p - pt_A M 40 0 p)], M)) (n := N) (i := 0)
    (S := fun p => (2, [(0, pt_r 37 0), (1, pt_r 40 0), (2, pt_i (nI N)), (3, pt_i (nI p))], [], M)) (f := fun p => if pt_A M 37 0 p = pt_A M 40 0 p then none else some p)
    (Nat.zero_le N) (gX7_compare3740_0_1 (nI N) M) ((gX7_compare3740_2_3 (nI N) (nI N) M (Int32.le_refl _)).tr pt_dropA) fun p _ hp => by
      have e : pt_nt (nI p) = p := pt_nt_nI (by omega)
      by_cases hv : pt_A M 37 0 p = pt_A M 40 0 p
      · refine ⟨fun v z => by simp [hv] at z, fun _ => (gX7_compare3740_2_2 (nI N) (nI p) M (nI_ge hp (by omega)) (pt_in_nI (by omega) (by decide)) (by rw [e]; exact hv)).to (by rw [nI_1])⟩
      · refine ⟨fun v z => ?_, fun z => by simp [hv] at z⟩
        simp only [if_neg hv, Option.some.injEq] at z
        subst z
        refine ((gX7_compare3740_2_1 (nI N) (nI p) M (nI_ge hp (by omega)) (pt_in_nI (by omega) (by decide)) (by rw [e]; exact hv)).tr pt_dropA).to ?_
        rw [e]
  unfold mc_F
  cases hf : fs_F (N - 0) 0 (fun p => if pt_A M 37 0 p = pt_A M 40 0 p then none else some p) with
  | none => exact rX7_compare_31 (Nat.le_of_ble_eq_true rfl) rfl (K.2 hf)
  | some v => exact rX7_compare_23 (Nat.le_of_ble_eq_true rfl) rfl (K.1 v hf)
theorem dX7_compare_3740t {N : Nat} {x : Int32} {M : pt_M} (h : cn_P x N) : pt_Does yX7_compare YX7_compare [pt_r 37 0, pt_r 40 0, pt_i x] M (some (pt_i (mc_F (pt_A M 37 0) (pt_A M 40 0) N))) M := by
  rw [h.1]
  exact dX7_compare_3740 h.2
set_option maxRecDepth 100000 in
theorem gX7_compare3938_0_1 (x : Int32)  (M : pt_M) :
    pt_Go YX7_compare (0, [(0, pt_r 39 0), (1, pt_r 38 0), (2, pt_i x)], [], M)
      (2, [(0, pt_r 39 0), (1, pt_r 38 0), (2, pt_i x), (3, pt_i 0)], [], M) :=
  pt_run_ok tX7_compare_ok 2 [] (P := True) (by with_unfolding_all rfl) trivial
set_option maxRecDepth 100000 in
theorem gX7_compare3938_2_1 (l2 : Int32) (l3 : Int32)  (M : pt_M) (h1 : ¬ l2 ≤ l3) (h2 : pt_in l3 120) (h3 : ¬ (pt_A M 39 0 (pt_nt l3)) = (pt_A M 38 0 (pt_nt l3))) :
    pt_Go YX7_compare (2, [(0, pt_r 39 0), (1, pt_r 38 0), (2, pt_i l2), (3, pt_i l3)], [], M)
      (23, [(0, pt_r 39 0), (1, pt_r 38 0), (2, pt_i l2), (3, pt_i l3)], [pt_i ((pt_A M 39 0 (pt_nt l3)) - (pt_A M 38 0 (pt_nt l3)))], M) :=
  pt_run_ok tX7_compare_ok 17 [.inl false, .inl false] (P := (¬ l2 ≤ l3) ∧ (pt_in l3 120) ∧ (pt_in l3 120) ∧ (¬ (pt_A M 39 0 (pt_nt l3)) = (pt_A M 38 0 (pt_nt l3))) ∧ (pt_in l3 120) ∧ (pt_in l3 120) ∧ True) (by with_unfolding_all rfl) ⟨h1, h2, h2, h3, h2, h2, trivial⟩
set_option maxRecDepth 100000 in
theorem gX7_compare3938_2_2 (l2 : Int32) (l3 : Int32)  (M : pt_M) (h1 : ¬ l2 ≤ l3) (h2 : pt_in l3 120) (h3 : (pt_A M 39 0 (pt_nt l3)) = (pt_A M 38 0 (pt_nt l3))) :
    pt_Go YX7_compare (2, [(0, pt_r 39 0), (1, pt_r 38 0), (2, pt_i l2), (3, pt_i l3)], [], M)
      (2, [(0, pt_r 39 0), (1, pt_r 38 0), (2, pt_i l2), (3, pt_i (l3 + 1))], [], M) :=
  pt_run_ok tX7_compare_ok 12 [.inl false, .inl true] (P := (¬ l2 ≤ l3) ∧ (pt_in l3 120) ∧ (pt_in l3 120) ∧ ((pt_A M 39 0 (pt_nt l3)) = (pt_A M 38 0 (pt_nt l3))) ∧ True) (by with_unfolding_all rfl) ⟨h1, h2, h2, h3, trivial⟩
set_option maxRecDepth 100000 in
theorem gX7_compare3938_2_3 (l2 : Int32) (l3 : Int32)  (M : pt_M) (h1 : l2 ≤ l3) :
    pt_Go YX7_compare (2, [(0, pt_r 39 0), (1, pt_r 38 0), (2, pt_i l2), (3, pt_i l3)], [], M)
      (31, [(0, pt_r 39 0), (1, pt_r 38 0), (2, pt_i l2), (3, pt_i l3)], [pt_i 0], M) :=
  pt_run_ok tX7_compare_ok 4 [.inl true] (P := (l2 ≤ l3) ∧ True) (by with_unfolding_all rfl) ⟨h1, trivial⟩
theorem dX7_compare_3938 {N : Nat} {M : pt_M} (hN : N ≤ 120) : pt_Does yX7_compare YX7_compare [pt_r 39 0, pt_r 38 0, pt_i (nI N)] M (some (pt_i (mc_F (pt_A M 39 0) (pt_A M 38 0) N))) M := by
  have K := pt_nest (Y := YX7_compare) (σ := (0, [(0, pt_r 39 0), (1, pt_r 38 0), (2, pt_i (nI N))], [], M)) (τ := (31, [], [pt_i 0], M)) (R := fun p => (23, [], [pt_i (pt_A M 39 0 p - pt_A M 38 0 p)], M)) (n := N) (i := 0)
    (S := fun p => (2, [(0, pt_r 39 0), (1, pt_r 38 0), (2, pt_i (nI N)), (3, pt_i (nI p))], [], M)) (f := fun p => if pt_A M 39 0 p = pt_A M 38 0 p then none else some p)
    (Nat.zero_le N) (gX7_compare3938_0_1 (nI N) M) ((gX7_compare3938_2_3 (nI N) (nI N) M (Int32.le_refl _)).tr pt_dropA) fun p _ hp => by
      have e : pt_nt (nI p) = p := pt_nt_nI (by omega)
      by_cases hv : pt_A M 39 0 p = pt_A M 38 0 p
      · refine ⟨fun v z => by simp [hv] at z, fun _ => (gX7_compare3938_2_2 (nI N) (nI p) M (nI_ge hp (by omega)) (pt_in_nI (by omega) (by decide)) (by rw [e]; exact hv)).to (by rw [nI_1])⟩
      · refine ⟨fun v z => ?_, fun z => by simp [hv] at z⟩
        simp only [if_neg hv, Option.some.injEq] at z
        subst z
        refine ((gX7_compare3938_2_1 (nI N) (nI p) M (nI_ge hp (by omega)) (pt_in_nI (by omega) (by decide)) (by rw [e]; exact hv)).tr pt_dropA).to ?_
        rw [e]
  unfold mc_F
  cases hf : fs_F (N - 0) 0 (fun p => if pt_A M 39 0 p = pt_A M 38 0 p then none else some p) with
  | none => exact rX7_compare_31 (Nat.le_of_ble_eq_true rfl) rfl (K.2 hf)
  | some v => exact rX7_compare_23 (Nat.le_of_ble_eq_true rfl) rfl (K.1 v hf)
theorem dX7_compare_3938t {N : Nat} {x : Int32} {M : pt_M} (h : cn_P x N) : pt_Does yX7_compare YX7_compare [pt_r 39 0, pt_r 38 0, pt_i x] M (some (pt_i (mc_F (pt_A M 39 0) (pt_A M 38 0) N))) M := by
  rw [h.1]
  exact dX7_compare_3938 h.2
set_option maxRecDepth 100000 in
theorem gX7_compare4038_0_1 (x : Int32)  (M : pt_M) :
    pt_Go YX7_compare (0, [(0, pt_r 40 0), (1, pt_r 38 0), (2, pt_i x)], [], M)
      (2, [(0, pt_r 40 0), (1, pt_r 38 0), (2, pt_i x), (3, pt_i 0)], [], M) :=
  pt_run_ok tX7_compare_ok 2 [] (P := True) (by with_unfolding_all rfl) trivial
set_option maxRecDepth 100000 in
theorem gX7_compare4038_2_1 (l2 : Int32) (l3 : Int32)  (M : pt_M) (h1 : ¬ l2 ≤ l3) (h2 : pt_in l3 120) (h3 : ¬ (pt_A M 40 0 (pt_nt l3)) = (pt_A M 38 0 (pt_nt l3))) :
    pt_Go YX7_compare (2, [(0, pt_r 40 0), (1, pt_r 38 0), (2, pt_i l2), (3, pt_i l3)], [], M)
      (23, [(0, pt_r 40 0), (1, pt_r 38 0), (2, pt_i l2), (3, pt_i l3)], [pt_i ((pt_A M 40 0 (pt_nt l3)) - (pt_A M 38 0 (pt_nt l3)))], M) :=
  pt_run_ok tX7_compare_ok 17 [.inl false, .inl false] (P := (¬ l2 ≤ l3) ∧ (pt_in l3 120) ∧ (pt_in l3 120) ∧ (¬ (pt_A M 40 0 (pt_nt l3)) = (pt_A M 38 0 (pt_nt l3))) ∧ (pt_in l3 120) ∧ (pt_in l3 120) ∧ True) (by with_unfolding_all rfl) ⟨h1, h2, h2, h3, h2, h2, trivial⟩
set_option maxRecDepth 100000 in
theorem gX7_compare4038_2_2 (l2 : Int32) (l3 : Int32)  (M : pt_M) (h1 : ¬ l2 ≤ l3) (h2 : pt_in l3 120) (h3 : (pt_A M 40 0 (pt_nt l3)) = (pt_A M 38 0 (pt_nt l3))) :
    pt_Go YX7_compare (2, [(0, pt_r 40 0), (1, pt_r 38 0), (2, pt_i l2), (3, pt_i l3)], [], M)
      (2, [(0, pt_r 40 0), (1, pt_r 38 0), (2, pt_i l2), (3, pt_i (l3 + 1))], [], M) :=
  pt_run_ok tX7_compare_ok 12 [.inl false, .inl true] (P := (¬ l2 ≤ l3) ∧ (pt_in l3 120) ∧ (pt_in l3 120) ∧ ((pt_A M 40 0 (pt_nt l3)) = (pt_A M 38 0 (pt_nt l3))) ∧ True) (by with_unfolding_all rfl) ⟨h1, h2, h2, h3, trivial⟩
set_option maxRecDepth 100000 in
theorem gX7_compare4038_2_3 (l2 : Int32) (l3 : Int32)  (M : pt_M) (h1 : l2 ≤ l3) :
    pt_Go YX7_compare (2, [(0, pt_r 40 0), (1, pt_r 38 0), (2, pt_i l2), (3, pt_i l3)], [], M)
      (31, [(0, pt_r 40 0), (1, pt_r 38 0), (2, pt_i l2), (3, pt_i l3)], [pt_i 0], M) :=
  pt_run_ok tX7_compare_ok 4 [.inl true] (P := (l2 ≤ l3) ∧ True) (by with_unfolding_all rfl) ⟨h1, trivial⟩
theorem dX7_compare_4038 {N : Nat} {M : pt_M} (hN : N ≤ 120) : pt_Does yX7_compare YX7_compare [pt_r 40 0, pt_r 38 0, pt_i (nI N)] M (some (pt_i (mc_F (pt_A M 40 0) (pt_A M 38 0) N))) M := by
  have K := pt_nest (Y := YX7_compare) (σ := (0, [(0, pt_r 40 0), (1, pt_r 38 0), (2, pt_i (nI N))], [], M)) (τ := (31, [], [pt_i 0], M)) (R := fun p => (23, [], [pt_i (pt_A M 40 0 p - pt_A M 38 0 p)], M)) (n := N) (i := 0)
    (S := fun p => (2, [(0, pt_r 40 0), (1, pt_r 38 0), (2, pt_i (nI N)), (3, pt_i (nI p))], [], M)) (f := fun p => if pt_A M 40 0 p = pt_A M 38 0 p then none else some p)
    (Nat.zero_le N) (gX7_compare4038_0_1 (nI N) M) ((gX7_compare4038_2_3 (nI N) (nI N) M (Int32.le_refl _)).tr pt_dropA) fun p _ hp => by
      have e : pt_nt (nI p) = p := pt_nt_nI (by omega)
      by_cases hv : pt_A M 40 0 p = pt_A M 38 0 p
      · refine ⟨fun v z => by simp [hv] at z, fun _ => (gX7_compare4038_2_2 (nI N) (nI p) M (nI_ge hp (by omega)) (pt_in_nI (by omega) (by decide)) (by rw [e]; exact hv)).to (by rw [nI_1])⟩
      · refine ⟨fun v z => ?_, fun z => by simp [hv] at z⟩
        simp only [if_neg hv, Option.some.injEq] at z
        subst z
        refine ((gX7_compare4038_2_1 (nI N) (nI p) M (nI_ge hp (by omega)) (pt_in_nI (by omega) (by decide)) (by rw [e]; exact hv)).tr pt_dropA).to ?_
        rw [e]
  unfold mc_F
  cases hf : fs_F (N - 0) 0 (fun p => if pt_A M 40 0 p = pt_A M 38 0 p then none else some p) with
  | none => exact rX7_compare_31 (Nat.le_of_ble_eq_true rfl) rfl (K.2 hf)
  | some v => exact rX7_compare_23 (Nat.le_of_ble_eq_true rfl) rfl (K.1 v hf)
theorem dX7_compare_4038t {N : Nat} {x : Int32} {M : pt_M} (h : cn_P x N) : pt_Does yX7_compare YX7_compare [pt_r 40 0, pt_r 38 0, pt_i x] M (some (pt_i (mc_F (pt_A M 40 0) (pt_A M 38 0) N))) M := by
  rw [h.1]
  exact dX7_compare_4038 h.2
