/-! octet -/
theorem rX7_octet_34 {vs : List pt_V} {M M' : pt_M} {x : Int32} {L : List (Nat × pt_V)} (hvs : (vs.map pt_w).sum ≤ 2) (hX : M'.2.2.2.2 = M.2.2.2.2) (h : pt_Go YX7_octet (0, pt_en 0 vs, [], M) (34, L, [pt_i x], M')) : pt_Does yX7_octet YX7_octet vs M (some (pt_i x)) M' := pt_does_go tX7_octet_ok nX7_octet hvs hX ⟨_, by with_unfolding_all rfl, rfl, _, rfl, rfl⟩ h
set_option maxRecDepth 100000 in
theorem gX7_octet_0_1 (x1 : Int32)  (M : pt_M) (h1 : ¬ x1 < 0) (h2 : ¬ x1 < (pt_F M 7 16 0)) :
    pt_Go YX7_octet (0, [(0, pt_r 7 0), (1, pt_i x1)], [], M)
      (34, [(0, pt_r 7 0), (1, pt_i x1)], [pt_i 0], (pt_wF M 7 0 0 1)) :=
  pt_run_ok tX7_octet_ok 13 [.inl false, .inl false, .inr (2, some (pt_i 1), (pt_wF M 7 0 0 1)), .inl false] (P := (¬ x1 < 0) ∧ (¬ x1 < (pt_F M 7 16 0)) ∧ pt_Cal YX7_octet (.invokevirtual 150) [pt_r 7 0, pt_i 1] M (some (pt_i 1)) (pt_wF M 7 0 0 1) ∧ (¬ (1 : Int32) = (0 : Int32)) ∧ True) (by with_unfolding_all rfl) ⟨h1, h2, (pt_callV (i := 0) kX7_octet_150 mX7_throwsIf rfl (by decide) rfl (dX7_throwsIf (by decide))), (by decide), trivial⟩
set_option maxRecDepth 100000 in
theorem gX7_octet_0_2 (x1 : Int32)  (M : pt_M) (h1 : ¬ x1 < 0) (h2 : x1 < (pt_F M 7 16 0)) (h3 : pt_in x1 120) :
    pt_Go YX7_octet (0, [(0, pt_r 7 0), (1, pt_i x1)], [], M)
      (34, [(0, pt_r 7 0), (1, pt_i x1)], [pt_i (pt_A (pt_wF M 7 0 0 0) 41 0 (pt_nt x1))], (pt_wF M 7 0 0 0)) :=
  pt_run_ok tX7_octet_ok 14 [.inl false, .inl true, .inr (2, some (pt_i 0), (pt_wF M 7 0 0 0)), .inl true] (P := (¬ x1 < 0) ∧ (x1 < (pt_F M 7 16 0)) ∧ pt_Cal YX7_octet (.invokevirtual 150) [pt_r 7 0, pt_i 0] M (some (pt_i 0)) (pt_wF M 7 0 0 0) ∧ ((0 : Int32) = (0 : Int32)) ∧ (pt_in x1 120) ∧ True) (by with_unfolding_all rfl) ⟨h1, h2, (pt_callV (i := 0) kX7_octet_150 mX7_throwsIf rfl (by decide) rfl (dX7_throwsIf (by decide))), (by decide), h3, trivial⟩
set_option maxRecDepth 100000 in
theorem gX7_octet_0_3 (x1 : Int32)  (M : pt_M) (h1 : x1 < 0) :
    pt_Go YX7_octet (0, [(0, pt_r 7 0), (1, pt_i x1)], [], M)
      (34, [(0, pt_r 7 0), (1, pt_i x1)], [pt_i 0], (pt_wF M 7 0 0 1)) :=
  pt_run_ok tX7_octet_ok 9 [.inl true, .inr (2, some (pt_i 1), (pt_wF M 7 0 0 1)), .inl false] (P := (x1 < 0) ∧ pt_Cal YX7_octet (.invokevirtual 150) [pt_r 7 0, pt_i 1] M (some (pt_i 1)) (pt_wF M 7 0 0 1) ∧ (¬ (1 : Int32) = (0 : Int32)) ∧ True) (by with_unfolding_all rfl) ⟨h1, (pt_callV (i := 0) kX7_octet_150 mX7_throwsIf rfl (by decide) rfl (dX7_throwsIf (by decide))), (by decide), trivial⟩
def oO_P (M : pt_M) (k : Int32) : Prop := (∃ M2 r, pt_Does yX6_octet YX6_octet [pt_r 2 0, pt_i k] M (some (pt_i r)) M ∧ pt_Does yX7_octet YX7_octet [pt_r 7 0, pt_i k] M (some (pt_i r)) M2 ∧ pt_F M2 7 0 0 = 0 ∧ IV_P M2) ∨ ∃ M2 L, pt_Go YX6_octet (0, [(0, pt_r 2 0), (1, pt_i k)], [], M) (12, L, [], M) ∧ pt_Does yX7_octet YX7_octet [pt_r 7 0, pt_i k] M (some (pt_i 0)) M2 ∧ pt_F M2 7 0 0 = 1 ∧ IV_P M2
theorem op_octet {M : pt_M} (h : IV_P M) (k : Int32) : oO_P M k := by
  obtain ⟨A, hC, hM⟩ := h
  have c6 : pt_F M 2 6 0 = nI (iv_O A) := hC.2.2.2.2.2.2.1
  have cO := hC.2.2.2.2.2.2.2.1
  have cu := hC.2.2.2.2.2.2.2.2
  have m6 : pt_F M 7 16 0 = nI (iv_O A) := hM.2.2.2.2.1
  have mu := hM.2.2.2.2.2.1
  by_cases c1 : k < 0
  · exact .inr ⟨pt_wF M 7 0 0 1, _, gX6_octet_0_3 k M c1, rX7_octet_34 (Nat.le_of_ble_eq_true rfl) rfl (gX7_octet_0_3 k M c1), rfl, A, CR_ca hC ca_wF, hM⟩
  by_cases c2 : k < nI (iv_O A)
  · obtain ⟨p, hp0, rfl⟩ := nI_of c1
    have hp : p < iv_O A := by
      rcases Nat.lt_or_ge p (iv_O A) with z | z
      · exact z
      · exact absurd c2 (Int32.not_lt.mpr (nI_le z (by omega)))
    have es : pt_nt (nI p) = p := pt_nt_nI (by omega)
    have d1 := dX6_octet_p2 (nI p) M c1 (by rw [c6]; exact c2) (pt_in_nI (by omega) (by decide))
    rw [es, cu p hp] at d1
    have g1 := gX7_octet_0_2 (nI p) M c1 (by rw [m6]; exact c2) (pt_in_nI (by omega) (by decide))
    have e : pt_A (pt_wF M 7 0 0 0) 41 0 (pt_nt (nI p)) = iv_u A p := by rw [es]; exact mu p hp
    rw [e] at g1
    exact .inl ⟨pt_wF M 7 0 0 0, _, d1, rX7_octet_34 (Nat.le_of_ble_eq_true rfl) rfl g1, rfl, A, CR_ca hC ca_wF, hM⟩
  · exact .inr ⟨pt_wF M 7 0 0 1, _, gX6_octet_0_1 k M c1 (by rw [c6]; exact c2), rX7_octet_34 (Nat.le_of_ble_eq_true rfl) rfl (gX7_octet_0_1 k M c1 (by rw [m6]; exact c2)), rfl, A, CR_ca hC ca_wF, hM⟩
