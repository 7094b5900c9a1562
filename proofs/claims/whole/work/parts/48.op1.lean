/-! CALLS ON BOTH SIDES: end, line, points, turn, flip -/
theorem CR_tp {M M' : pt_M} {A : iv_A} {L : Nat} {b : Nat → Nat} (h : CR_P M A) (htp : tp_P M' L b) (c1 : ∀ k, k ≠ 4 → pt_F M' k = pt_F M k) (c2 : ∀ k, k ≠ 14 → pt_A M' k = pt_A M k) (c3 : pt_R M' = pt_R M) : CR_P M' (L, b, A.2.2) := by
  obtain ⟨h1, h2, h3, h4, h5, h6, h7, h8, h9⟩ := h
  refine ⟨htp, ?_, ?_, fun s hs => ?_, fun i hi => ?_, ?_, ?_, h8, fun p hp => ?_⟩
  · rw [c3]
    exact h2
  · rw [c3]
    exact h3
  · rw [c3]
    exact cs_ca (h4 s hs) (fun f => by rw [c1 3 (by decide)]) (by rw [c2 11 (by decide)]) (by rw [c2 12 (by decide)]) (by rw [c2 13 (by decide)])
  · rw [c2 15 (by decide)]
    exact h5 i hi
  · rw [c1 2 (by decide)]
    exact h6
  · rw [c1 2 (by decide)]
    exact h7
  · rw [c2 20 (by decide)]
    exact h9 p hp
theorem MR_tp {M M' : pt_M} {A : iv_A} {L : Nat} {b : Nat → Nat} (h : MR_P M A) (e1 : pt_F M' 7 2 0 = nI L) (e2 : mp_P M' L b) (e3 : pt_F M' 7 8 0 = pt_F M 7 8 0) (e4 : pt_F M' 7 16 0 = pt_F M 7 16 0) (c2 : ∀ k, k ≠ 30 → pt_A M' k = pt_A M k) : MR_P M' (L, b, A.2.2) := by
  obtain ⟨h1, h2, h3, h4, h5, h6, h7⟩ := h
  refine ⟨e1, e2, fun s hs => ⟨?_, ?_⟩, ?_, ?_, fun p hp => ?_, fun n a b => ?_⟩
  · rw [c2 31 (by decide)]
    exact (h3 s hs).1
  · exact (h3 s hs).2.imp id fun z => ⟨z.1, ml_A z.2 (by rw [c2 32 (by decide)])⟩
  · rw [e3]
    exact h4
  · rw [e4]
    exact h5
  · rw [c2 41 (by decide)]
    exact h6 p hp
  · rw [c2 44 (by decide), c2 45 (by decide)]
    exact h7 n a b
theorem rX7_end_18 {vs : List pt_V} {M M' : pt_M} {x : Int32} {L : List (Nat × pt_V)} (hn : narrow .boolean (.int x) = .int x) (hvs : (vs.map pt_w).sum ≤ 2) (hX : M'.2.2.2.2 = M.2.2.2.2) (h : pt_Go YX7_end (0, pt_en 0 vs, [], M) (18, L, [pt_i x], M')) : pt_Does yX7_end YX7_end vs M (some (pt_i x)) M' := pt_does_go tX7_end_ok nX7_end hvs hX ⟨_, by with_unfolding_all rfl, rfl, _, rfl, hn⟩ h
theorem rX7_end_25 {vs : List pt_V} {M M' : pt_M} {x : Int32} {L : List (Nat × pt_V)} (hn : narrow .boolean (.int x) = .int x) (hvs : (vs.map pt_w).sum ≤ 2) (hX : M'.2.2.2.2 = M.2.2.2.2) (h : pt_Go YX7_end (0, pt_en 0 vs, [], M) (25, L, [pt_i x], M')) : pt_Does yX7_end YX7_end vs M (some (pt_i x)) M' := pt_does_go tX7_end_ok nX7_end hvs hX ⟨_, by with_unfolding_all rfl, rfl, _, rfl, hn⟩ h
set_option maxRecDepth 100000 in
theorem gX7_end_0_1 (x1 : Int32)  (M : pt_M) (h1 : ¬ x1 < 0) (h2 : ¬ x1 ≤ (pt_F (pt_wF M 7 0 0 0) 7 2 0)) :
    pt_Go YX7_end (0, [(0, pt_r 7 0), (1, pt_i x1)], [], M)
      (18, [(0, pt_r 7 0), (1, pt_i x1)], [pt_i 0], (pt_wF M 7 0 0 0)) :=
  pt_run_ok tX7_end_ok 10 [.inl false, .inl false] (P := (¬ x1 < 0) ∧ (¬ x1 ≤ (pt_F (pt_wF M 7 0 0 0) 7 2 0)) ∧ True) (by with_unfolding_all rfl) ⟨h1, h2, trivial⟩
set_option maxRecDepth 100000 in
theorem gX7_end_0_2 (x1 : Int32)  (M : pt_M) (h1 : ¬ x1 < 0) (h2 : x1 ≤ (pt_F (pt_wF M 7 0 0 0) 7 2 0)) :
    pt_Go YX7_end (0, [(0, pt_r 7 0), (1, pt_i x1)], [], M)
      (25, [(0, pt_r 7 0), (1, pt_i x1)], [pt_i 1], (pt_wF (pt_wF M 7 0 0 0) 7 2 0 x1)) :=
  pt_run_ok tX7_end_ok 13 [.inl false, .inl true] (P := (¬ x1 < 0) ∧ (x1 ≤ (pt_F (pt_wF M 7 0 0 0) 7 2 0)) ∧ True) (by with_unfolding_all rfl) ⟨h1, h2, trivial⟩
set_option maxRecDepth 100000 in
theorem gX7_end_0_3 (x1 : Int32)  (M : pt_M) (h1 : x1 < 0) :
    pt_Go YX7_end (0, [(0, pt_r 7 0), (1, pt_i x1)], [], M)
      (18, [(0, pt_r 7 0), (1, pt_i x1)], [pt_i 0], (pt_wF M 7 0 0 0)) :=
  pt_run_ok tX7_end_ok 6 [.inl true] (P := (x1 < 0) ∧ True) (by with_unfolding_all rfl) ⟨h1, trivial⟩
theorem dX7_end_p1 (x1 : Int32)  (M : pt_M) (h1 : ¬ x1 < 0) (h2 : ¬ x1 ≤ (pt_F (pt_wF M 7 0 0 0) 7 2 0)) : pt_Does yX7_end YX7_end [pt_r 7 0, pt_i x1] M (some (pt_i 0)) (pt_wF M 7 0 0 0) :=
  rX7_end_18 pt_nar0 (Nat.le_of_ble_eq_true rfl) rfl (gX7_end_0_1 x1 M h1 h2)
theorem dX7_end_p2 (x1 : Int32)  (M : pt_M) (h1 : ¬ x1 < 0) (h2 : x1 ≤ (pt_F (pt_wF M 7 0 0 0) 7 2 0)) : pt_Does yX7_end YX7_end [pt_r 7 0, pt_i x1] M (some (pt_i 1)) (pt_wF (pt_wF M 7 0 0 0) 7 2 0 x1) :=
  rX7_end_25 pt_nar1 (Nat.le_of_ble_eq_true rfl) rfl (gX7_end_0_2 x1 M h1 h2)
theorem dX7_end_p3 (x1 : Int32)  (M : pt_M) (h1 : x1 < 0) : pt_Does yX7_end YX7_end [pt_r 7 0, pt_i x1] M (some (pt_i 0)) (pt_wF M 7 0 0 0) :=
  rX7_end_18 pt_nar0 (Nat.le_of_ble_eq_true rfl) rfl (gX7_end_0_3 x1 M h1)
theorem rX7_line_9 {vs : List pt_V} {M M' : pt_M} {x : Int32} {L : List (Nat × pt_V)} (hvs : (vs.map pt_w).sum ≤ 1) (hX : M'.2.2.2.2 = M.2.2.2.2) (h : pt_Go YX7_line (0, pt_en 0 vs, [], M) (9, L, [pt_i x], M')) : pt_Does yX7_line YX7_line vs M (some (pt_i x)) M' := pt_does_go tX7_line_ok nX7_line hvs hX ⟨_, by with_unfolding_all rfl, rfl, _, rfl, rfl⟩ h
set_option maxRecDepth 100000 in
theorem gX7_line_0_1   (M : pt_M) :
    pt_Go YX7_line (0, [(0, pt_r 7 0)], [], M)
      (9, [(0, pt_r 7 0)], [pt_i (pt_F (pt_wF M 7 0 0 0) 7 8 0)], (pt_wF M 7 0 0 0)) :=
  pt_run_ok tX7_line_ok 5 [] (P := True) (by with_unfolding_all rfl) trivial
theorem dX7_line_p1   (M : pt_M) : pt_Does yX7_line YX7_line [pt_r 7 0] M (some (pt_i (pt_F (pt_wF M 7 0 0 0) 7 8 0))) (pt_wF M 7 0 0 0) :=
  rX7_line_9 (Nat.le_of_ble_eq_true rfl) rfl (gX7_line_0_1 M)
theorem rX7_points_23 {vs : List pt_V} {M M' : pt_M} {x : Int32} {L : List (Nat × pt_V)} (hvs : (vs.map pt_w).sum ≤ 2) (hX : M'.2.2.2.2 = M.2.2.2.2) (h : pt_Go YX7_points (0, pt_en 0 vs, [], M) (23, L, [pt_i x], M')) : pt_Does yX7_points YX7_points vs M (some (pt_i x)) M' := pt_does_go tX7_points_ok nX7_points hvs hX ⟨_, by with_unfolding_all rfl, rfl, _, rfl, rfl⟩ h
set_option maxRecDepth 100000 in
theorem gX7_points_0_1 (x1 : Int32)  (M : pt_M) (h1 : mA_P (pt_wF M 7 0 0 0) x1) (h2 : pt_in x1 6) :
    pt_Go YX7_points (0, [(0, pt_r 7 0), (1, pt_i x1)], [], M)
      (23, [(0, pt_r 7 0), (1, pt_i x1)], [pt_i (pt_A (pt_wF M 7 0 0 0) 31 0 (pt_nt x1))], (pt_wF M 7 0 0 0)) :=
  pt_run_ok tX7_points_ok 12 [.inr (2, some (pt_i 1), (pt_wF M 7 0 0 0)), .inl false] (P := pt_Cal YX7_points (.invokevirtual 89) [pt_r 7 0, pt_i x1] (pt_wF M 7 0 0 0) (some (pt_i 1)) (pt_wF M 7 0 0 0) ∧ (¬ (1 : Int32) = (0 : Int32)) ∧ (pt_in x1 6) ∧ True) (by with_unfolding_all rfl) ⟨(pt_callV (i := 0) kX7_points_89 mX7_has rfl (by decide) rfl (dX7_has_1 h1)), (by decide), h2, trivial⟩
set_option maxRecDepth 100000 in
theorem gX7_points_0_2 (x1 : Int32)  (M : pt_M) (h1 : mN_P (pt_wF M 7 0 0 0) x1) :
    pt_Go YX7_points (0, [(0, pt_r 7 0), (1, pt_i x1)], [], M)
      (23, [(0, pt_r 7 0), (1, pt_i x1)], [pt_i 0], (pt_wF M 7 0 0 0)) :=
  pt_run_ok tX7_points_ok 8 [.inr (2, some (pt_i 0), (pt_wF M 7 0 0 0)), .inl true] (P := pt_Cal YX7_points (.invokevirtual 89) [pt_r 7 0, pt_i x1] (pt_wF M 7 0 0 0) (some (pt_i 0)) (pt_wF M 7 0 0 0) ∧ ((0 : Int32) = (0 : Int32)) ∧ True) (by with_unfolding_all rfl) ⟨(pt_callV (i := 0) kX7_points_89 mX7_has rfl (by decide) rfl (dX7_has_0 h1)), (by decide), trivial⟩
theorem dX7_points_p1 (x1 : Int32)  (M : pt_M) (h1 : mA_P (pt_wF M 7 0 0 0) x1) (h2 : pt_in x1 6) : pt_Does yX7_points YX7_points [pt_r 7 0, pt_i x1] M (some (pt_i (pt_A (pt_wF M 7 0 0 0) 31 0 (pt_nt x1)))) (pt_wF M 7 0 0 0) :=
  rX7_points_23 (Nat.le_of_ble_eq_true rfl) rfl (gX7_points_0_1 x1 M h1 h2)
theorem dX7_points_p2 (x1 : Int32)  (M : pt_M) (h1 : mN_P (pt_wF M 7 0 0 0) x1) : pt_Does yX7_points YX7_points [pt_r 7 0, pt_i x1] M (some (pt_i 0)) (pt_wF M 7 0 0 0) :=
  rX7_points_23 (Nat.le_of_ble_eq_true rfl) rfl (gX7_points_0_2 x1 M h1)
theorem op_line {M : pt_M} (h : IV_P M) : op_P yX6_line YX6_line yX7_line YX7_line [] M := by
  obtain ⟨A, hC, hM⟩ := h
  refine op_of hC hM (A' := A) (M2 := t0_M M) (r := iv_o A) ?_ mo_P.rf hC fun hM => ⟨?_, t0_ca, hM⟩
  · rw [← hC.2.2.2.2.2.1]
    exact dX6_line_p1 M
  · rw [← hM.2.2.2.1]
    exact dX7_line_p1 M
theorem op_end {M : pt_M} (h : IV_P M) (x : Int32) : op_P yX6_end YX6_end yX7_end YX7_end [pt_i x] M := by
  obtain ⟨A, hC, hM⟩ := h
  by_cases h1 : x < 0
  · exact op_of hC hM (A' := A) (M2 := t0_M M) (dX6_end_p3 x M h1) mo_P.rf hC fun hM => ⟨dX7_end_p3 x M h1, t0_ca, hM⟩
  · obtain ⟨e, he, rfl⟩ := nI_of h1
    have hL := hC.1.2.1
    by_cases h2 : nI e ≤ pt_F M 4 1 0
    · have h2' : e ≤ iv_L A := by
        rw [hC.1.1, nI_leI he (by omega)] at h2
        exact h2
      refine op_of hC hM (A' := (e, iv_b A, A.2.2)) (M2 := pt_wF (pt_wF (pt_wF M 4 1 0 (nI e)) 7 0 0 0) 7 2 0 (nI e)) (dX6_end_p2 (nI e) M h1 h2) (mo_wF (by decide)) ?_ fun hM => ⟨dX7_end_p2 (nI e) (pt_wF M 4 1 0 (nI e)) h1 ?_, ca_wF.tr ca_wF, ?_⟩
      · refine CR_tp hC ⟨rfl, by omega, fun p hp => hC.1.2.2 p (by omega)⟩ (fun k hk => funext fun f => funext fun i => if_neg fun z => hk z.1) (fun _ _ => rfl) rfl
      · show nI e ≤ pt_F M 7 2 0
        rw [show pt_F M 7 2 0 = nI (iv_L A) from hM.1, nI_leI he (by omega)]
        exact h2'
      · exact MR_tp hM rfl ⟨by omega, fun p hp => hM.2.1.2 p (by omega)⟩ rfl rfl (fun _ _ => rfl)
    · refine op_of hC hM (A' := A) (M2 := t0_M M) (dX6_end_p1 (nI e) M h1 h2) mo_P.rf hC fun hM => ⟨dX7_end_p1 (nI e) M h1 ?_, t0_ca, hM⟩
      show ¬ nI e ≤ pt_F M 7 2 0
      rw [hM.1, ← hC.1.1]
      exact h2
theorem op_points {M : pt_M} (h : IV_P M) (x : Int32) : op_P yX6_points YX6_points yX7_points YX7_points [pt_i x] M := by
  obtain ⟨A, hC, hM⟩ := h
  by_cases h1 : sl_P x
  · obtain ⟨s, hs, rfl⟩ := sl_of h1
    have e : pt_nt (nI s) = s := pt_nt_nI (by omega)
    have d1 := dX6_points_p1 (nI s) M h1 (pt_in_nI hs (by decide)) (by rw [e]; exact hC.2.1 _ (by omega))
    by_cases hn : iv_N A s = 0
    · rw [e, (CR_n hC hs hn).2] at d1
      exact op_of hC hM (A' := A) (M2 := t0_M M) d1 mo_P.rf hC fun hM => ⟨dX7_points_p2 (nI s) M (MR_n hM hs hn).1, t0_ca, hM⟩
    · rw [e, (CR_y hC hs hn).2.2.2.1.2.2.1] at d1
      refine op_of hC hM (A' := A) (M2 := t0_M M) d1 mo_P.rf hC fun hM => ⟨?_, t0_ca, hM⟩
      have d2 := dX7_points_p1 (nI s) M (MR_y hM hs hn).1 (pt_in_nI hs (by decide))
      have e2 : pt_A (pt_wF M 7 0 0 0) 31 0 (pt_nt (nI s)) = nI (iv_N A s) := by
        rw [e]
        exact (MR_y hM hs hn).2.1
      rw [e2] at d2
      exact d2
  · exact op_of hC hM (A' := A) (M2 := t0_M M) (dX6_points_p2 x M h1) mo_P.rf hC fun hM => ⟨dX7_points_p2 x M (Or.inl h1), t0_ca, hM⟩
/-! three points -/
def g3_P (n : Nat) (i j k : Int32) : Prop := ∃ a b c, i = nI a ∧ j = nI b ∧ k = nI c ∧ a < n ∧ b < n ∧ c < n ∧ a ≠ b ∧ b ≠ c ∧ a ≠ c
theorem hp_of {x : Int32} {n : Nat} (hn : n ≤ 10) (h1 : ¬ x < 0) (h2 : ¬ nI n ≤ x) : ∃ a, a < n ∧ x = nI a := by
  obtain ⟨a, ha, rfl⟩ := nI_of h1
  rw [nI_leI (by omega) ha] at h2
  exact ⟨a, by omega, rfl⟩
theorem ht_g3 {M : pt_M} {t n : Nat} {i j k : Int32} (hn : n ≤ 10) (hs : pt_F M 3 0 t = nI n) : ht_P M t i j k ↔ g3_P n i j k := by
  unfold ht_P hp_P
  rw [hs]
  constructor
  · rintro ⟨⟨a1, a2⟩, ⟨b1, b2⟩, ⟨c1, c2⟩, d1, d2, d3⟩
    obtain ⟨a, ha, rfl⟩ := hp_of hn a1 a2
    obtain ⟨b, hb, rfl⟩ := hp_of hn b1 b2
    obtain ⟨c, hc, rfl⟩ := hp_of hn c1 c2
    exact ⟨a, b, c, rfl, rfl, rfl, ha, hb, hc, fun z => d1 (by rw [z]), fun z => d2 (by rw [z]), fun z => d3 (by rw [z])⟩
  · rintro ⟨a, b, c, rfl, rfl, rfl, ha, hb, hc, d1, d2, d3⟩
    exact ⟨⟨nI_pos (by omega), nI_ge ha (by omega)⟩, ⟨nI_pos (by omega), nI_ge hb (by omega)⟩, ⟨nI_pos (by omega), nI_ge hc (by omega)⟩, nI_nE d1 (by omega) (by omega), nI_nE d2 (by omega) (by omega), nI_nE (fun z => d3 z.symm) (by omega) (by omega)⟩
def aT_P (M : pt_M) (x i j k : Int32) : Prop := mA_P M x ∧ ∃ n, n ≤ 10 ∧ pt_A M 31 0 (pt_nt x) = nI n ∧ g3_P n i j k
def aN_P (M : pt_M) (x i j k : Int32) : Prop := mN_P M x ∨ (mA_P M x ∧ ∃ n, n ≤ 10 ∧ pt_A M 31 0 (pt_nt x) = nI n ∧ ¬ g3_P n i j k)
theorem rX7_areThree_74 {vs : List pt_V} {M M' : pt_M} {x : Int32} {L : List (Nat × pt_V)} (hn : narrow .boolean (.int x) = .int x) (hvs : (vs.map pt_w).sum ≤ 5) (hX : M'.2.2.2.2 = M.2.2.2.2) (h : pt_Go YX7_areThree (0, pt_en 0 vs, [], M) (74, L, [pt_i x], M')) : pt_Does yX7_areThree YX7_areThree vs M (some (pt_i x)) M' := pt_does_go tX7_areThree_ok nX7_areThree hvs hX ⟨_, by with_unfolding_all rfl, rfl, _, rfl, hn⟩ h
set_option maxRecDepth 100000 in
theorem gX7_areThree_0_1 (x1 : Int32) (x2 : Int32) (x3 : Int32) (x4 : Int32)  (M : pt_M) (h1 : mA_P M x1) (h2 : ¬ x2 < 0) (h3 : ¬ x3 < 0) (h4 : ¬ x4 < 0) (h5 : pt_in x1 6) (h6 : ¬ (pt_A M 31 0 (pt_nt x1)) ≤ x2) (h7 : ¬ (pt_A M 31 0 (pt_nt x1)) ≤ x3) (h8 : ¬ (pt_A M 31 0 (pt_nt x1)) ≤ x4) (h9 : ¬ x2 = x3) (h10 : ¬ x3 = x4) (h11 : ¬ x2 = x4) :
    pt_Go YX7_areThree (0, [(0, pt_r 7 0), (1, pt_i x1), (2, pt_i x2), (3, pt_i x3), (4, pt_i x4)], [], M)
      (74, [(0, pt_r 7 0), (1, pt_i x1), (2, pt_i x2), (3, pt_i x3), (4, pt_i x4)], [pt_i 1], M) :=
  pt_run_ok tX7_areThree_ok 39 [.inr (2, some (pt_i 1), M), .inl false, .inl false, .inl false, .inl false, .inl false, .inl false, .inl false, .inl false, .inl false, .inl false] (P := pt_Cal YX7_areThree (.invokevirtual 89) [pt_r 7 0, pt_i x1] M (some (pt_i 1)) M ∧ (¬ (1 : Int32) = (0 : Int32)) ∧ (¬ x2 < 0) ∧ (¬ x3 < 0) ∧ (¬ x4 < 0) ∧ (pt_in x1 6) ∧ (¬ (pt_A M 31 0 (pt_nt x1)) ≤ x2) ∧ (pt_in x1 6) ∧ (¬ (pt_A M 31 0 (pt_nt x1)) ≤ x3) ∧ (pt_in x1 6) ∧ (¬ (pt_A M 31 0 (pt_nt x1)) ≤ x4) ∧ (¬ x2 = x3) ∧ (¬ x3 = x4) ∧ (¬ x2 = x4) ∧ True) (by with_unfolding_all rfl) ⟨(pt_callV (i := 0) kX7_areThree_89 mX7_has rfl (by decide) rfl (dX7_has_1 h1)), (by decide), h2, h3, h4, h5, h6, h5, h7, h5, h8, h9, h10, h11, trivial⟩
set_option maxRecDepth 100000 in
theorem gX7_areThree_0_2 (x1 : Int32) (x2 : Int32) (x3 : Int32) (x4 : Int32)  (M : pt_M) (h1 : mA_P M x1) (h2 : ¬ x2 < 0) (h3 : ¬ x3 < 0) (h4 : ¬ x4 < 0) (h5 : pt_in x1 6) (h6 : ¬ (pt_A M 31 0 (pt_nt x1)) ≤ x2) (h7 : ¬ (pt_A M 31 0 (pt_nt x1)) ≤ x3) (h8 : ¬ (pt_A M 31 0 (pt_nt x1)) ≤ x4) (h9 : ¬ x2 = x3) (h10 : ¬ x3 = x4) (h11 : x2 = x4) :
    pt_Go YX7_areThree (0, [(0, pt_r 7 0), (1, pt_i x1), (2, pt_i x2), (3, pt_i x3), (4, pt_i x4)], [], M)
      (74, [(0, pt_r 7 0), (1, pt_i x1), (2, pt_i x2), (3, pt_i x3), (4, pt_i x4)], [pt_i 0], M) :=
  pt_run_ok tX7_areThree_ok 38 [.inr (2, some (pt_i 1), M), .inl false, .inl false, .inl false, .inl false, .inl false, .inl false, .inl false, .inl false, .inl false, .inl true] (P := pt_Cal YX7_areThree (.invokevirtual 89) [pt_r 7 0, pt_i x1] M (some (pt_i 1)) M ∧ (¬ (1 : Int32) = (0 : Int32)) ∧ (¬ x2 < 0) ∧ (¬ x3 < 0) ∧ (¬ x4 < 0) ∧ (pt_in x1 6) ∧ (¬ (pt_A M 31 0 (pt_nt x1)) ≤ x2) ∧ (pt_in x1 6) ∧ (¬ (pt_A M 31 0 (pt_nt x1)) ≤ x3) ∧ (pt_in x1 6) ∧ (¬ (pt_A M 31 0 (pt_nt x1)) ≤ x4) ∧ (¬ x2 = x3) ∧ (¬ x3 = x4) ∧ (x2 = x4) ∧ True) (by with_unfolding_all rfl) ⟨(pt_callV (i := 0) kX7_areThree_89 mX7_has rfl (by decide) rfl (dX7_has_1 h1)), (by decide), h2, h3, h4, h5, h6, h5, h7, h5, h8, h9, h10, h11, trivial⟩
set_option maxRecDepth 100000 in
theorem gX7_areThree_0_3 (x1 : Int32) (x2 : Int32) (x3 : Int32) (x4 : Int32)  (M : pt_M) (h1 : mA_P M x1) (h2 : ¬ x2 < 0) (h3 : ¬ x3 < 0) (h4 : ¬ x4 < 0) (h5 : pt_in x1 6) (h6 : ¬ (pt_A M 31 0 (pt_nt x1)) ≤ x2) (h7 : ¬ (pt_A M 31 0 (pt_nt x1)) ≤ x3) (h8 : ¬ (pt_A M 31 0 (pt_nt x1)) ≤ x4) (h9 : ¬ x2 = x3) (h10 : x3 = x4) :
    pt_Go YX7_areThree (0, [(0, pt_r 7 0), (1, pt_i x1), (2, pt_i x2), (3, pt_i x3), (4, pt_i x4)], [], M)
      (74, [(0, pt_r 7 0), (1, pt_i x1), (2, pt_i x2), (3, pt_i x3), (4, pt_i x4)], [pt_i 0], M) :=
  pt_run_ok tX7_areThree_ok 35 [.inr (2, some (pt_i 1), M), .inl false, .inl false, .inl false, .inl false, .inl false, .inl false, .inl false, .inl false, .inl true] (P := pt_Cal YX7_areThree (.invokevirtual 89) [pt_r 7 0, pt_i x1] M (some (pt_i 1)) M ∧ (¬ (1 : Int32) = (0 : Int32)) ∧ (¬ x2 < 0) ∧ (¬ x3 < 0) ∧ (¬ x4 < 0) ∧ (pt_in x1 6) ∧ (¬ (pt_A M 31 0 (pt_nt x1)) ≤ x2) ∧ (pt_in x1 6) ∧ (¬ (pt_A M 31 0 (pt_nt x1)) ≤ x3) ∧ (pt_in x1 6) ∧ (¬ (pt_A M 31 0 (pt_nt x1)) ≤ x4) ∧ (¬ x2 = x3) ∧ (x3 = x4) ∧ True) (by with_unfolding_all rfl) ⟨(pt_callV (i := 0) kX7_areThree_89 mX7_has rfl (by decide) rfl (dX7_has_1 h1)), (by decide), h2, h3, h4, h5, h6, h5, h7, h5, h8, h9, h10, trivial⟩
set_option maxRecDepth 100000 in
theorem gX7_areThree_0_4 (x1 : Int32) (x2 : Int32) (x3 : Int32) (x4 : Int32)  (M : pt_M) (h1 : mA_P M x1) (h2 : ¬ x2 < 0) (h3 : ¬ x3 < 0) (h4 : ¬ x4 < 0) (h5 : pt_in x1 6) (h6 : ¬ (pt_A M 31 0 (pt_nt x1)) ≤ x2) (h7 : ¬ (pt_A M 31 0 (pt_nt x1)) ≤ x3) (h8 : ¬ (pt_A M 31 0 (pt_nt x1)) ≤ x4) (h9 : x2 = x3) :
    pt_Go YX7_areThree (0, [(0, pt_r 7 0), (1, pt_i x1), (2, pt_i x2), (3, pt_i x3), (4, pt_i x4)], [], M)
      (74, [(0, pt_r 7 0), (1, pt_i x1), (2, pt_i x2), (3, pt_i x3), (4, pt_i x4)], [pt_i 0], M) :=
  pt_run_ok tX7_areThree_ok 32 [.inr (2, some (pt_i 1), M), .inl false, .inl false, .inl false, .inl false, .inl false, .inl false, .inl false, .inl true] (P := pt_Cal YX7_areThree (.invokevirtual 89) [pt_r 7 0, pt_i x1] M (some (pt_i 1)) M ∧ (¬ (1 : Int32) = (0 : Int32)) ∧ (¬ x2 < 0) ∧ (¬ x3 < 0) ∧ (¬ x4 < 0) ∧ (pt_in x1 6) ∧ (¬ (pt_A M 31 0 (pt_nt x1)) ≤ x2) ∧ (pt_in x1 6) ∧ (¬ (pt_A M 31 0 (pt_nt x1)) ≤ x3) ∧ (pt_in x1 6) ∧ (¬ (pt_A M 31 0 (pt_nt x1)) ≤ x4) ∧ (x2 = x3) ∧ True) (by with_unfolding_all rfl) ⟨(pt_callV (i := 0) kX7_areThree_89 mX7_has rfl (by decide) rfl (dX7_has_1 h1)), (by decide), h2, h3, h4, h5, h6, h5, h7, h5, h8, h9, trivial⟩
set_option maxRecDepth 100000 in
theorem gX7_areThree_0_5 (x1 : Int32) (x2 : Int32) (x3 : Int32) (x4 : Int32)  (M : pt_M) (h1 : mA_P M x1) (h2 : ¬ x2 < 0) (h3 : ¬ x3 < 0) (h4 : ¬ x4 < 0) (h5 : pt_in x1 6) (h6 : ¬ (pt_A M 31 0 (pt_nt x1)) ≤ x2) (h7 : ¬ (pt_A M 31 0 (pt_nt x1)) ≤ x3) (h8 : (pt_A M 31 0 (pt_nt x1)) ≤ x4) :
    pt_Go YX7_areThree (0, [(0, pt_r 7 0), (1, pt_i x1), (2, pt_i x2), (3, pt_i x3), (4, pt_i x4)], [], M)
      (74, [(0, pt_r 7 0), (1, pt_i x1), (2, pt_i x2), (3, pt_i x3), (4, pt_i x4)], [pt_i 0], M) :=
  pt_run_ok tX7_areThree_ok 29 [.inr (2, some (pt_i 1), M), .inl false, .inl false, .inl false, .inl false, .inl false, .inl false, .inl true] (P := pt_Cal YX7_areThree (.invokevirtual 89) [pt_r 7 0, pt_i x1] M (some (pt_i 1)) M ∧ (¬ (1 : Int32) = (0 : Int32)) ∧ (¬ x2 < 0) ∧ (¬ x3 < 0) ∧ (¬ x4 < 0) ∧ (pt_in x1 6) ∧ (¬ (pt_A M 31 0 (pt_nt x1)) ≤ x2) ∧ (pt_in x1 6) ∧ (¬ (pt_A M 31 0 (pt_nt x1)) ≤ x3) ∧ (pt_in x1 6) ∧ ((pt_A M 31 0 (pt_nt x1)) ≤ x4) ∧ True) (by with_unfolding_all rfl) ⟨(pt_callV (i := 0) kX7_areThree_89 mX7_has rfl (by decide) rfl (dX7_has_1 h1)), (by decide), h2, h3, h4, h5, h6, h5, h7, h5, h8, trivial⟩
set_option maxRecDepth 100000 in
theorem gX7_areThree_0_6 (x1 : Int32) (x2 : Int32) (x3 : Int32) (x4 : Int32)  (M : pt_M) (h1 : mA_P M x1) (h2 : ¬ x2 < 0) (h3 : ¬ x3 < 0) (h4 : ¬ x4 < 0) (h5 : pt_in x1 6) (h6 : ¬ (pt_A M 31 0 (pt_nt x1)) ≤ x2) (h7 : (pt_A M 31 0 (pt_nt x1)) ≤ x3) :
    pt_Go YX7_areThree (0, [(0, pt_r 7 0), (1, pt_i x1), (2, pt_i x2), (3, pt_i x3), (4, pt_i x4)], [], M)
      (74, [(0, pt_r 7 0), (1, pt_i x1), (2, pt_i x2), (3, pt_i x3), (4, pt_i x4)], [pt_i 0], M) :=
  pt_run_ok tX7_areThree_ok 23 [.inr (2, some (pt_i 1), M), .inl false, .inl false, .inl false, .inl false, .inl false, .inl true] (P := pt_Cal YX7_areThree (.invokevirtual 89) [pt_r 7 0, pt_i x1] M (some (pt_i 1)) M ∧ (¬ (1 : Int32) = (0 : Int32)) ∧ (¬ x2 < 0) ∧ (¬ x3 < 0) ∧ (¬ x4 < 0) ∧ (pt_in x1 6) ∧ (¬ (pt_A M 31 0 (pt_nt x1)) ≤ x2) ∧ (pt_in x1 6) ∧ ((pt_A M 31 0 (pt_nt x1)) ≤ x3) ∧ True) (by with_unfolding_all rfl) ⟨(pt_callV (i := 0) kX7_areThree_89 mX7_has rfl (by decide) rfl (dX7_has_1 h1)), (by decide), h2, h3, h4, h5, h6, h5, h7, trivial⟩
set_option maxRecDepth 100000 in
theorem gX7_areThree_0_7 (x1 : Int32) (x2 : Int32) (x3 : Int32) (x4 : Int32)  (M : pt_M) (h1 : mA_P M x1) (h2 : ¬ x2 < 0) (h3 : ¬ x3 < 0) (h4 : ¬ x4 < 0) (h5 : pt_in x1 6) (h6 : (pt_A M 31 0 (pt_nt x1)) ≤ x2) :
    pt_Go YX7_areThree (0, [(0, pt_r 7 0), (1, pt_i x1), (2, pt_i x2), (3, pt_i x3), (4, pt_i x4)], [], M)
      (74, [(0, pt_r 7 0), (1, pt_i x1), (2, pt_i x2), (3, pt_i x3), (4, pt_i x4)], [pt_i 0], M) :=
  pt_run_ok tX7_areThree_ok 17 [.inr (2, some (pt_i 1), M), .inl false, .inl false, .inl false, .inl false, .inl true] (P := pt_Cal YX7_areThree (.invokevirtual 89) [pt_r 7 0, pt_i x1] M (some (pt_i 1)) M ∧ (¬ (1 : Int32) = (0 : Int32)) ∧ (¬ x2 < 0) ∧ (¬ x3 < 0) ∧ (¬ x4 < 0) ∧ (pt_in x1 6) ∧ ((pt_A M 31 0 (pt_nt x1)) ≤ x2) ∧ True) (by with_unfolding_all rfl) ⟨(pt_callV (i := 0) kX7_areThree_89 mX7_has rfl (by decide) rfl (dX7_has_1 h1)), (by decide), h2, h3, h4, h5, h6, trivial⟩
set_option maxRecDepth 100000 in
theorem gX7_areThree_0_8 (x1 : Int32) (x2 : Int32) (x3 : Int32) (x4 : Int32)  (M : pt_M) (h1 : mA_P M x1) (h2 : ¬ x2 < 0) (h3 : ¬ x3 < 0) (h4 : x4 < 0) :
    pt_Go YX7_areThree (0, [(0, pt_r 7 0), (1, pt_i x1), (2, pt_i x2), (3, pt_i x3), (4, pt_i x4)], [], M)
      (74, [(0, pt_r 7 0), (1, pt_i x1), (2, pt_i x2), (3, pt_i x3), (4, pt_i x4)], [pt_i 0], M) :=
  pt_run_ok tX7_areThree_ok 11 [.inr (2, some (pt_i 1), M), .inl false, .inl false, .inl false, .inl true] (P := pt_Cal YX7_areThree (.invokevirtual 89) [pt_r 7 0, pt_i x1] M (some (pt_i 1)) M ∧ (¬ (1 : Int32) = (0 : Int32)) ∧ (¬ x2 < 0) ∧ (¬ x3 < 0) ∧ (x4 < 0) ∧ True) (by with_unfolding_all rfl) ⟨(pt_callV (i := 0) kX7_areThree_89 mX7_has rfl (by decide) rfl (dX7_has_1 h1)), (by decide), h2, h3, h4, trivial⟩
set_option maxRecDepth 100000 in
theorem gX7_areThree_0_9 (x1 : Int32) (x2 : Int32) (x3 : Int32) (x4 : Int32)  (M : pt_M) (h1 : mA_P M x1) (h2 : ¬ x2 < 0) (h3 : x3 < 0) :
    pt_Go YX7_areThree (0, [(0, pt_r 7 0), (1, pt_i x1), (2, pt_i x2), (3, pt_i x3), (4, pt_i x4)], [], M)
      (74, [(0, pt_r 7 0), (1, pt_i x1), (2, pt_i x2), (3, pt_i x3), (4, pt_i x4)], [pt_i 0], M) :=
  pt_run_ok tX7_areThree_ok 9 [.inr (2, some (pt_i 1), M), .inl false, .inl false, .inl true] (P := pt_Cal YX7_areThree (.invokevirtual 89) [pt_r 7 0, pt_i x1] M (some (pt_i 1)) M ∧ (¬ (1 : Int32) = (0 : Int32)) ∧ (¬ x2 < 0) ∧ (x3 < 0) ∧ True) (by with_unfolding_all rfl) ⟨(pt_callV (i := 0) kX7_areThree_89 mX7_has rfl (by decide) rfl (dX7_has_1 h1)), (by decide), h2, h3, trivial⟩
set_option maxRecDepth 100000 in
theorem gX7_areThree_0_10 (x1 : Int32) (x2 : Int32) (x3 : Int32) (x4 : Int32)  (M : pt_M) (h1 : mA_P M x1) (h2 : x2 < 0) :
    pt_Go YX7_areThree (0, [(0, pt_r 7 0), (1, pt_i x1), (2, pt_i x2), (3, pt_i x3), (4, pt_i x4)], [], M)
      (74, [(0, pt_r 7 0), (1, pt_i x1), (2, pt_i x2), (3, pt_i x3), (4, pt_i x4)], [pt_i 0], M) :=
  pt_run_ok tX7_areThree_ok 7 [.inr (2, some (pt_i 1), M), .inl false, .inl true] (P := pt_Cal YX7_areThree (.invokevirtual 89) [pt_r 7 0, pt_i x1] M (some (pt_i 1)) M ∧ (¬ (1 : Int32) = (0 : Int32)) ∧ (x2 < 0) ∧ True) (by with_unfolding_all rfl) ⟨(pt_callV (i := 0) kX7_areThree_89 mX7_has rfl (by decide) rfl (dX7_has_1 h1)), (by decide), h2, trivial⟩
set_option maxRecDepth 100000 in
theorem gX7_areThree_0_11 (x1 : Int32) (x2 : Int32) (x3 : Int32) (x4 : Int32)  (M : pt_M) (h1 : mN_P M x1) :
    pt_Go YX7_areThree (0, [(0, pt_r 7 0), (1, pt_i x1), (2, pt_i x2), (3, pt_i x3), (4, pt_i x4)], [], M)
      (74, [(0, pt_r 7 0), (1, pt_i x1), (2, pt_i x2), (3, pt_i x3), (4, pt_i x4)], [pt_i 0], M) :=
  pt_run_ok tX7_areThree_ok 5 [.inr (2, some (pt_i 0), M), .inl true] (P := pt_Cal YX7_areThree (.invokevirtual 89) [pt_r 7 0, pt_i x1] M (some (pt_i 0)) M ∧ ((0 : Int32) = (0 : Int32)) ∧ True) (by with_unfolding_all rfl) ⟨(pt_callV (i := 0) kX7_areThree_89 mX7_has rfl (by decide) rfl (dX7_has_0 h1)), (by decide), trivial⟩
theorem dX7_areThree_1 {M : pt_M} {x i j k : Int32} (h : aT_P M x i j k) : pt_Does yX7_areThree YX7_areThree [pt_r 7 0, pt_i x, pt_i i, pt_i j, pt_i k] M (some (pt_i 1)) M := by
  obtain ⟨h, n, hn, e, a, b, c, rfl, rfl, rfl, ha, hb, hc, d1, d2, d3⟩ := h
  exact rX7_areThree_74 rfl (Nat.le_of_ble_eq_true rfl) rfl (gX7_areThree_0_1 x (nI a) (nI b) (nI c) M h (nI_pos (by omega)) (nI_pos (by omega)) (nI_pos (by omega)) h.2.1 (by rw [e]; exact nI_ge ha (by omega)) (by rw [e]; exact nI_ge hb (by omega)) (by rw [e]; exact nI_ge hc (by omega)) (nI_nE d1 (by omega) (by omega)) (nI_nE d2 (by omega) (by omega)) (nI_nE d3 (by omega) (by omega)))
theorem dX7_areThree_0 {M : pt_M} {x i j k : Int32} (h : aN_P M x i j k) : pt_Does yX7_areThree YX7_areThree [pt_r 7 0, pt_i x, pt_i i, pt_i j, pt_i k] M (some (pt_i 0)) M := by
  refine rX7_areThree_74 rfl (L := [(0, pt_r 7 0), (1, pt_i x), (2, pt_i i), (3, pt_i j), (4, pt_i k)]) (Nat.le_of_ble_eq_true rfl) rfl ?_
  rcases h with h | ⟨h, n, hn, e, hg⟩
  · exact gX7_areThree_0_11 x i j k M h
  by_cases a1 : i < 0
  · exact gX7_areThree_0_10 x i j k M h a1
  by_cases b1 : j < 0
  · exact gX7_areThree_0_9 x i j k M h a1 b1
  by_cases c1 : k < 0
  · exact gX7_areThree_0_8 x i j k M h a1 b1 c1
  by_cases a2 : pt_A M 31 0 (pt_nt x) ≤ i
  · exact gX7_areThree_0_7 x i j k M h a1 b1 c1 h.2.1 a2
  by_cases b2 : pt_A M 31 0 (pt_nt x) ≤ j
  · exact gX7_areThree_0_6 x i j k M h a1 b1 c1 h.2.1 a2 b2
  by_cases c2 : pt_A M 31 0 (pt_nt x) ≤ k
  · exact gX7_areThree_0_5 x i j k M h a1 b1 c1 h.2.1 a2 b2 c2
  by_cases d1 : i = j
  · exact gX7_areThree_0_4 x i j k M h a1 b1 c1 h.2.1 a2 b2 c2 d1
  by_cases d2 : j = k
  · exact gX7_areThree_0_3 x i j k M h a1 b1 c1 h.2.1 a2 b2 c2 d1 d2
  by_cases d3 : i = k
  · exact gX7_areThree_0_2 x i j k M h a1 b1 c1 h.2.1 a2 b2 c2 d1 d2 d3
  · exfalso
    rw [e] at a2 b2 c2
    obtain ⟨a, ha, rfl⟩ := hp_of hn a1 a2
    obtain ⟨b, hb, rfl⟩ := hp_of hn b1 b2
    obtain ⟨c, hc, rfl⟩ := hp_of hn c1 c2
    exact hg ⟨a, b, c, rfl, rfl, rfl, ha, hb, hc, fun z => d1 (by rw [z]), fun z => d2 (by rw [z]), fun z => d3 (by rw [z])⟩
theorem MR_T {M : pt_M} {A : iv_A} {s : Nat} {i j k : Int32} (h : MR_P M A) (hs : s < 6) (hn : iv_N A s ≠ 0) (hg : g3_P (iv_N A s) i j k) : aT_P M (nI s) i j k := ⟨(MR_y h hs hn).1, iv_N A s, (MR_y h hs hn).2.2.2.1, by rw [pt_nt_nI (by omega)]; exact (MR_y h hs hn).2.1, hg⟩
theorem MR_F {M : pt_M} {A : iv_A} {s : Nat} {i j k : Int32} (h : MR_P M A) (hs : s < 6) (hn : iv_N A s ≠ 0) (hg : ¬ g3_P (iv_N A s) i j k) : aN_P M (nI s) i j k := Or.inr ⟨(MR_y h hs hn).1, iv_N A s, (MR_y h hs hn).2.2.2.1, by rw [pt_nt_nI (by omega)]; exact (MR_y h hs hn).2.1, hg⟩
theorem rX7_turn_33 {vs : List pt_V} {M M' : pt_M} {x : Int32} {L : List (Nat × pt_V)} (hvs : (vs.map pt_w).sum ≤ 5) (hX : M'.2.2.2.2 = M.2.2.2.2) (h : pt_Go YX7_turn (0, pt_en 0 vs, [], M) (33, L, [pt_i x], M')) : pt_Does yX7_turn YX7_turn vs M (some (pt_i x)) M' := pt_does_go tX7_turn_ok nX7_turn hvs hX ⟨_, by with_unfolding_all rfl, rfl, _, rfl, rfl⟩ h
set_option maxRecDepth 100000 in
theorem gX7_turn_0_1 (x1 : Int32) (x2 : Int32) (x3 : Int32) (x4 : Int32) (n : Nat) (B : Nat → Nat → Nat → Bool) (M : pt_M) (h1 : aT_P (pt_wF M 7 0 0 0) x1 x2 x3 x4) (h2 : tq_P (pt_wF M 7 0 0 0) (120 * x1) x2 x3 x4 n B) :
    pt_Go YX7_turn (0, [(0, pt_r 7 0), (1, pt_i x1), (2, pt_i x2), (3, pt_i x3), (4, pt_i x4)], [], M)
      (33, [(0, pt_r 7 0), (1, pt_i x1), (2, pt_i x2), (3, pt_i x3), (4, pt_i x4)], [pt_i (ta_I B x2 x3 x4)], (pt_wF M 7 0 0 0)) :=
  pt_run_ok tX7_turn_ok 19 [.inr (5, some (pt_i 1), (pt_wF M 7 0 0 0)), .inl false, .inr (5, some (pt_i (ta_I B x2 x3 x4)), (pt_wF M 7 0 0 0))] (P := pt_Cal YX7_turn (.invokevirtual 107) [pt_r 7 0, pt_i x1, pt_i x2, pt_i x3, pt_i x4] (pt_wF M 7 0 0 0) (some (pt_i 1)) (pt_wF M 7 0 0 0) ∧ (¬ (1 : Int32) = (0 : Int32)) ∧ pt_Cal YX7_turn (.invokevirtual 81) [pt_r 7 0, pt_i (120 * x1), pt_i x2, pt_i x3, pt_i x4] (pt_wF M 7 0 0 0) (some (pt_i (ta_I B x2 x3 x4))) (pt_wF M 7 0 0 0) ∧ True) (by with_unfolding_all rfl) ⟨(pt_callV (i := 0) kX7_turn_107 mX7_areThree rfl (by decide) rfl (dX7_areThree_1 h1)), (by decide), (pt_callV (i := 0) kX7_turn_81 mX7_turnAt rfl (by decide) rfl (dX7_turnAt_t h2)), trivial⟩
set_option maxRecDepth 100000 in
theorem gX7_turn_0_2 (x1 : Int32) (x2 : Int32) (x3 : Int32) (x4 : Int32) (n : Nat) (B : Nat → Nat → Nat → Bool) (M : pt_M) (h1 : aN_P (pt_wF M 7 0 0 0) x1 x2 x3 x4) :
    pt_Go YX7_turn (0, [(0, pt_r 7 0), (1, pt_i x1), (2, pt_i x2), (3, pt_i x3), (4, pt_i x4)], [], M)
      (33, [(0, pt_r 7 0), (1, pt_i x1), (2, pt_i x2), (3, pt_i x3), (4, pt_i x4)], [pt_i 0], (pt_wF M 7 0 0 0)) :=
  pt_run_ok tX7_turn_ok 11 [.inr (5, some (pt_i 0), (pt_wF M 7 0 0 0)), .inl true] (P := pt_Cal YX7_turn (.invokevirtual 107) [pt_r 7 0, pt_i x1, pt_i x2, pt_i x3, pt_i x4] (pt_wF M 7 0 0 0) (some (pt_i 0)) (pt_wF M 7 0 0 0) ∧ ((0 : Int32) = (0 : Int32)) ∧ True) (by with_unfolding_all rfl) ⟨(pt_callV (i := 0) kX7_turn_107 mX7_areThree rfl (by decide) rfl (dX7_areThree_0 h1)), (by decide), trivial⟩
theorem dX7_turn_p1 (x1 : Int32) (x2 : Int32) (x3 : Int32) (x4 : Int32) (n : Nat) (B : Nat → Nat → Nat → Bool) (M : pt_M) (h1 : aT_P (pt_wF M 7 0 0 0) x1 x2 x3 x4) (h2 : tq_P (pt_wF M 7 0 0 0) (120 * x1) x2 x3 x4 n B) : pt_Does yX7_turn YX7_turn [pt_r 7 0, pt_i x1, pt_i x2, pt_i x3, pt_i x4] M (some (pt_i (ta_I B x2 x3 x4))) (pt_wF M 7 0 0 0) :=
  rX7_turn_33 (Nat.le_of_ble_eq_true rfl) rfl (gX7_turn_0_1 x1 x2 x3 x4 n B M h1 h2)
theorem dX7_turn_p2 (x1 : Int32) (x2 : Int32) (x3 : Int32) (x4 : Int32) (n : Nat) (B : Nat → Nat → Nat → Bool) (M : pt_M) (h1 : aN_P (pt_wF M 7 0 0 0) x1 x2 x3 x4) : pt_Does yX7_turn YX7_turn [pt_r 7 0, pt_i x1, pt_i x2, pt_i x3, pt_i x4] M (some (pt_i 0)) (pt_wF M 7 0 0 0) :=
  rX7_turn_33 (Nat.le_of_ble_eq_true rfl) rfl (gX7_turn_0_2 x1 x2 x3 x4 n B M h1)
theorem op_turn {M : pt_M} (h : IV_P M) (x i j k : Int32) : op_P yX6_turn YX6_turn yX7_turn YX7_turn [pt_i x, pt_i i, pt_i j, pt_i k] M := by
  obtain ⟨A, hC, hM⟩ := h
  by_cases h1 : sl_P x
  · obtain ⟨s, hs, rfl⟩ := sl_of h1
    have e : pt_nt (nI s) = s := pt_nt_nI (by omega)
    by_cases hn : iv_N A s = 0
    · exact op_of hC hM (A' := A) (M2 := t0_M M) (dX6_turn_p4 (nI s) i j k M (CR_n hC hs hn).1) mo_P.rf hC fun hM => ⟨dX7_turn_p2 (nI s) i j k 0 (fun _ _ _ => false) M (Or.inl (MR_n hM hs hn).1), t0_ca, hM⟩
    · obtain ⟨q1, q2, q3, q4, q5, q6⟩ := CR_y hC hs hn
      have hr : pt_R M (pt_nt (nI s) + 1) < 7 := by rw [e]; exact hC.2.1 _ (by omega)
      by_cases hg : g3_P (iv_N A s) i j k
      · have hht := (ht_g3 (t := pt_R M (pt_nt (nI s) + 1)) q2 (by rw [e]; exact q4.2.2.1)).mpr hg
        have hml := (MR_y hM hs hn).2.2
        obtain ⟨a, b, c, rfl, rfl, rfl, ha, hb, hc, d1, d2, d3⟩ := hg
        have hlb : lb_F M (pt_R M (pt_nt (nI s) + 1)) (nI a) (nI b) (nI c) = pt_b (iv_B A s a b c) := by
          rw [e]
          exact lb_B q4.2.2.2 (by omega) (by omega) (by omega)
        have d7 : MR_P M A → pt_Does yX7_turn YX7_turn [pt_r 7 0, pt_i (nI s), pt_i (nI a), pt_i (nI b), pt_i (nI c)] M (some (pt_i (tv_F (iv_B A s a b c)))) (t0_M M) := fun hM => by
          have D := dX7_turn_p1 (nI s) (nI a) (nI b) (nI c) (iv_N A s) (iv_B A s) M (MR_T hM hs hn ⟨a, b, c, rfl, rfl, rfl, ha, hb, hc, d1, d2, d3⟩) (by rw [m120]; exact tq_of (ml_A hml rfl) ha hb hc d1 d2 d3)
          rw [ta_nI (by omega) (by omega) (by omega)] at D
          exact D
        cases hv : iv_B A s a b c
        · rw [hv] at hlb d7
          exact op_of hC hM (A' := A) (M2 := t0_M M) (dX6_turn_p2 (nI s) (nI a) (nI b) (nI c) M q3 hr hht (pt_in_nI (by omega) (by decide)) (pt_in_nI (by omega) (by decide)) (by rw [hlb]; rfl)) mo_P.rf hC fun hM => ⟨d7 hM, t0_ca, hM⟩
        · rw [hv] at hlb d7
          exact op_of hC hM (A' := A) (M2 := t0_M M) (dX6_turn_p1 (nI s) (nI a) (nI b) (nI c) M q3 hr hht (pt_in_nI (by omega) (by decide)) (pt_in_nI (by omega) (by decide)) (by rw [hlb]; decide)) mo_P.rf hC fun hM => ⟨d7 hM, t0_ca, hM⟩
      · exact op_of hC hM (A' := A) (M2 := t0_M M) (dX6_turn_p3 (nI s) i j k M q3 hr (fun z => hg ((ht_g3 q2 (by rw [e]; exact q4.2.2.1)).mp z))) mo_P.rf hC fun hM => ⟨dX7_turn_p2 (nI s) i j k 0 (fun _ _ _ => false) M (MR_F hM hs hn hg), t0_ca, hM⟩
  · exact op_of hC hM (A' := A) (M2 := t0_M M) (dX6_turn_p4 x i j k M (Or.inl h1)) mo_P.rf hC fun hM => ⟨dX7_turn_p2 x i j k 0 (fun _ _ _ => false) M (Or.inl (Or.inl h1)), t0_ca, hM⟩
