/-! CALLS ON BOTH SIDES: why, lawful, rim -/
def iv_set (A : iv_A) (s n : Nat) (S : Nat → Nat → Nat → Bool) : iv_A := (A.1, A.2.1, fun q => if q = s then n else iv_N A q, fun q => if q = s then S else iv_S A q, A.2.2.2.2)
theorem iv_self {A : iv_A} {s : Nat} : iv_set A s (iv_N A s) (iv_S A s) = A := by
  have e1 : (fun q => if q = s then iv_N A s else iv_N A q) = iv_N A := by
    funext q
    by_cases h : q = s
    · rw [if_pos h, h]
    · rw [if_neg h]
  have e2 : (fun q => if q = s then iv_S A s else iv_S A q) = iv_S A := by
    funext q
    by_cases h : q = s
    · rw [if_pos h, h]
    · rw [if_neg h]
  unfold iv_set
  rw [e1, e2]
  rfl
theorem iv_s1 {A : iv_A} {s n : Nat} {S : Nat → Nat → Nat → Bool} : iv_N (iv_set A s n S) s = n ∧ iv_B (iv_set A s n S) s = nB_F n S := by
  have e1 : iv_N (iv_set A s n S) s = n := if_pos rfl
  have e2 : iv_S (iv_set A s n S) s = S := if_pos rfl
  unfold iv_B
  rw [e1, e2]
  exact ⟨rfl, rfl⟩
theorem iv_s2 {A : iv_A} {s n q : Nat} {S : Nat → Nat → Nat → Bool} (h : q ≠ s) : iv_N (iv_set A s n S) q = iv_N A q ∧ iv_B (iv_set A s n S) q = iv_B A q := by
  have e1 : iv_N (iv_set A s n S) q = iv_N A q := if_neg h
  have e2 : iv_S (iv_set A s n S) q = iv_S A q := if_neg h
  unfold iv_B
  rw [e1, e2]
  exact ⟨rfl, rfl⟩
/-- the table of one slot has changed -/
theorem CR_slot {M M' : pt_M} {A : iv_A} {s n : Nat} {S : Nat → Nat → Nat → Bool} (h : CR_P M A) (hs : s < 6) (c0 : ∀ k f i, ¬ (k = 3 ∧ i = pt_R M (s + 1)) → pt_F M' k f i = pt_F M k f i) (c1 : ∀ k i, k ≠ 15 → ¬ (i = pt_R M (s + 1) ∧ (k = 11 ∨ k = 12 ∨ k = 13)) → pt_A M' k i = pt_A M k i) (c2 : pt_R M' = pt_R M) (c3 : ∀ i, i < 10 → pt_in (pt_A M' 15 0 i) 10) (hcs : cs_P M' (pt_R M (s + 1)) n (nB_F n S)) : CR_P M' (iv_set A s n S) := by
  obtain ⟨h1, h2, h3, h4, h5, h6, h7, h8, h9⟩ := h
  refine ⟨⟨?_, h1.2.1, fun p hp => ?_⟩, ?_, ?_, fun q hq => ?_, c3, ?_, ?_, h8, fun p hp => ?_⟩
  · rw [c0 4 1 0 (by omega)]
    exact h1.1
  · rw [c1 14 0 (by decide) (by omega)]
    exact h1.2.2 p hp
  · rw [c2]
    exact h2
  · rw [c2]
    exact h3
  · rw [c2]
    by_cases e : q = s
    · subst e
      rw [iv_s1.1, iv_s1.2]
      exact hcs
    · have hne : ¬ pt_R M (q + 1) = pt_R M (s + 1) := fun z => e (by have := h3 (q + 1) (s + 1) (by omega) (by omega) z; omega)
      rw [(iv_s2 e).1, (iv_s2 e).2]
      exact cs_ca (h4 q hq) (fun f => c0 3 f _ (fun z => hne z.2)) (c1 11 _ (by decide) (fun z => hne z.1)) (c1 12 _ (by decide) (fun z => hne z.1)) (c1 13 _ (by decide) (fun z => hne z.1))
  · rw [c0 2 7 0 (by omega)]
    exact h6
  · rw [c0 2 6 0 (by omega)]
    exact h7
  · rw [c1 20 0 (by decide) (by omega)]
    exact h9 p hp
theorem MR_slot {M M' : pt_M} {A : iv_A} {s n : Nat} {S : Nat → Nat → Nat → Bool} (h : MR_P M A) (hs : s < 6) (e2 : pt_F M' 7 2 0 = pt_F M 7 2 0) (e8 : pt_F M' 7 8 0 = pt_F M 7 8 0) (e16 : pt_F M' 7 16 0 = pt_F M 7 16 0) (a30 : pt_A M' 30 0 = pt_A M 30 0) (a41 : pt_A M' 41 0 = pt_A M 41 0) (a44 : pt_A M' 44 0 = pt_A M 44 0) (a45 : pt_A M' 45 0 = pt_A M 45 0) (c2 : ∀ q, q ≠ s → pt_A M' 31 0 q = pt_A M 31 0 q) (c3 : ∀ p, p < 720 → (p < 120 * s ∨ 120 * s + 120 ≤ p) → pt_A M' 32 0 p = pt_A M 32 0 p) (hms : ms_P M' s n (nB_F n S)) : MR_P M' (iv_set A s n S) := by
  obtain ⟨h1, h2, h3, h4, h5, h6, h7⟩ := h
  refine ⟨?_, mp_A h2 a30, fun q hq => ?_, ?_, ?_, fun p hp => ?_, fun n a b => ?_⟩
  · rw [e2]
    exact h1
  · by_cases e : q = s
    · subst e
      rw [iv_s1.1, iv_s1.2]
      exact hms
    · rw [(iv_s2 e).1, (iv_s2 e).2]
      refine ⟨?_, (h3 q hq).2.imp id fun z => ⟨z.1, z.2.1, z.2.2.1, fun i j k g1 g2 g3 => ?_, z.2.2.2.2⟩⟩
      · rw [c2 q e]
        exact (h3 q hq).1
      · have hn := z.2.2.1
        obtain ⟨-, t2⟩ := th_nI g1 g2 (show k < 10 by omega)
        rw [c3 _ (by omega) (by omega)]
        exact z.2.2.2.1 i j k g1 g2 g3
  · rw [e8]
    exact h4
  · rw [e16]
    exact h5
  · rw [a41]
    exact h6 p hp
  · rw [a44, a45]
    exact h7 n a b
/-- the fault is known -/
theorem CR_wl {M : pt_M} {A : iv_A} {s : Nat} (h : CR_P M A) (hs : s < 6) (hn : iv_N A s ≠ 0) : CR_P (pt_wF M 3 2 (pt_R M (s + 1)) (nI (wy_F (iv_N A s) (iv_B A s)))) A := by
  obtain ⟨q1, q2, q3, q4, q5, q6⟩ := CR_y h hs hn
  have key : cs_P (pt_wF M 3 2 (pt_R M (s + 1)) (nI (wy_F (iv_N A s) (iv_B A s)))) (pt_R M (s + 1)) (iv_N A s) (iv_B A s) := by
    refine Or.inr ⟨q1, tb_ca q4 ?_ rfl, Or.inr ?_, ?_⟩
    · rw [pt_F_wF, if_neg (by omega)]
    · rw [pt_F_wF, if_pos ⟨rfl, rfl, rfl⟩]
    · unfold fk_P
      rw [pt_F_wF, if_neg (by omega)]
      exact q6
  have h2 := CR_slot (M' := pt_wF M 3 2 (pt_R M (s + 1)) (nI (wy_F (iv_N A s) (iv_B A s)))) (n := iv_N A s) (S := iv_S A s) h hs (fun k f i z => by rw [pt_F_wF, if_neg (fun w => z ⟨w.1, w.2.2⟩)]) (fun _ _ _ _ => rfl) rfl h.2.2.2.2.1 key
  rw [iv_self] at h2
  exact h2
theorem wy_31 {n : Nat} {B : Nat → Nat → Nat → Bool} (hn : n ≤ 10) : wy_F n B < 2 ^ 31 := by
  have := wy_lt (B := B) hn
  omega
theorem rX7_isLawful_30 {vs : List pt_V} {M M' : pt_M} {x : Int32} {L : List (Nat × pt_V)} (hn : narrow .boolean (.int x) = .int x) (hvs : (vs.map pt_w).sum ≤ 2) (hX : M'.2.2.2.2 = M.2.2.2.2) (h : pt_Go YX7_isLawful (0, pt_en 0 vs, [], M) (30, L, [pt_i x], M')) : pt_Does yX7_isLawful YX7_isLawful vs M (some (pt_i x)) M' := pt_does_go tX7_isLawful_ok nX7_isLawful hvs hX ⟨_, by with_unfolding_all rfl, rfl, _, rfl, hn⟩ h
set_option maxRecDepth 100000 in
theorem gX7_isLawful_0_1 (x1 : Int32) (r : Int32) (M2 : pt_M) (M : pt_M) (h1 : mA_P M x1) (h2 : pt_in x1 6) (h3 : pt_Does yX7_whyNot YX7_whyNot [pt_r 7 0, pt_i (120 * x1), pt_i (pt_A M 31 0 (pt_nt x1))] M (some (pt_i r)) M2) (h4 : r = 0) :
    pt_Go YX7_isLawful (0, [(0, pt_r 7 0), (1, pt_i x1)], [], M)
      (30, [(0, pt_r 7 0), (1, pt_i x1)], [pt_i 1], M2) :=
  pt_run_ok tX7_isLawful_ok 16 [.inr (2, some (pt_i 1), M), .inl false, .inr (3, some (pt_i r), M2), .inl false] (P := pt_Cal YX7_isLawful (.invokevirtual 89) [pt_r 7 0, pt_i x1] M (some (pt_i 1)) M ∧ (¬ (1 : Int32) = (0 : Int32)) ∧ (pt_in x1 6) ∧ pt_Cal YX7_isLawful (.invokevirtual 137) [pt_r 7 0, pt_i (120 * x1), pt_i (pt_A M 31 0 (pt_nt x1))] M (some (pt_i r)) M2 ∧ (r = 0) ∧ True) (by with_unfolding_all rfl) ⟨(pt_callV (i := 0) kX7_isLawful_89 mX7_has rfl (by decide) rfl (dX7_has_1 h1)), (by decide), h2, (pt_callV (i := 0) kX7_isLawful_137 mX7_whyNot rfl (by decide) rfl h3), h4, trivial⟩
set_option maxRecDepth 100000 in
theorem gX7_isLawful_0_2 (x1 : Int32) (r : Int32) (M2 : pt_M) (M : pt_M) (h1 : mA_P M x1) (h2 : pt_in x1 6) (h3 : pt_Does yX7_whyNot YX7_whyNot [pt_r 7 0, pt_i (120 * x1), pt_i (pt_A M 31 0 (pt_nt x1))] M (some (pt_i r)) M2) (h4 : ¬ r = 0) :
    pt_Go YX7_isLawful (0, [(0, pt_r 7 0), (1, pt_i x1)], [], M)
      (30, [(0, pt_r 7 0), (1, pt_i x1)], [pt_i 0], M2) :=
  pt_run_ok tX7_isLawful_ok 15 [.inr (2, some (pt_i 1), M), .inl false, .inr (3, some (pt_i r), M2), .inl true] (P := pt_Cal YX7_isLawful (.invokevirtual 89) [pt_r 7 0, pt_i x1] M (some (pt_i 1)) M ∧ (¬ (1 : Int32) = (0 : Int32)) ∧ (pt_in x1 6) ∧ pt_Cal YX7_isLawful (.invokevirtual 137) [pt_r 7 0, pt_i (120 * x1), pt_i (pt_A M 31 0 (pt_nt x1))] M (some (pt_i r)) M2 ∧ (¬ r = 0) ∧ True) (by with_unfolding_all rfl) ⟨(pt_callV (i := 0) kX7_isLawful_89 mX7_has rfl (by decide) rfl (dX7_has_1 h1)), (by decide), h2, (pt_callV (i := 0) kX7_isLawful_137 mX7_whyNot rfl (by decide) rfl h3), h4, trivial⟩
set_option maxRecDepth 100000 in
theorem gX7_isLawful_0_3 (x1 : Int32) (r : Int32) (M2 : pt_M) (M : pt_M) (h1 : mN_P M x1) :
    pt_Go YX7_isLawful (0, [(0, pt_r 7 0), (1, pt_i x1)], [], M)
      (30, [(0, pt_r 7 0), (1, pt_i x1)], [pt_i 0], M) :=
  pt_run_ok tX7_isLawful_ok 5 [.inr (2, some (pt_i 0), M), .inl true] (P := pt_Cal YX7_isLawful (.invokevirtual 89) [pt_r 7 0, pt_i x1] M (some (pt_i 0)) M ∧ ((0 : Int32) = (0 : Int32)) ∧ True) (by with_unfolding_all rfl) ⟨(pt_callV (i := 0) kX7_isLawful_89 mX7_has rfl (by decide) rfl (dX7_has_0 h1)), (by decide), trivial⟩
theorem dX7_isLawful_p1 (x1 : Int32) (r : Int32) (M2 : pt_M) (M : pt_M) (h1 : mA_P M x1) (h2 : pt_in x1 6) (h3 : pt_Does yX7_whyNot YX7_whyNot [pt_r 7 0, pt_i (120 * x1), pt_i (pt_A M 31 0 (pt_nt x1))] M (some (pt_i r)) M2) (h4 : r = 0) : pt_Does yX7_isLawful YX7_isLawful [pt_r 7 0, pt_i x1] M (some (pt_i 1)) M2 :=
  rX7_isLawful_30 pt_nar1 (Nat.le_of_ble_eq_true rfl) (dX_x5 h3) (gX7_isLawful_0_1 x1 r M2 M h1 h2 h3 h4)
theorem dX7_isLawful_p2 (x1 : Int32) (r : Int32) (M2 : pt_M) (M : pt_M) (h1 : mA_P M x1) (h2 : pt_in x1 6) (h3 : pt_Does yX7_whyNot YX7_whyNot [pt_r 7 0, pt_i (120 * x1), pt_i (pt_A M 31 0 (pt_nt x1))] M (some (pt_i r)) M2) (h4 : ¬ r = 0) : pt_Does yX7_isLawful YX7_isLawful [pt_r 7 0, pt_i x1] M (some (pt_i 0)) M2 :=
  rX7_isLawful_30 pt_nar0 (Nat.le_of_ble_eq_true rfl) (dX_x5 h3) (gX7_isLawful_0_2 x1 r M2 M h1 h2 h3 h4)
theorem dX7_isLawful_p3 (x1 : Int32) (r : Int32) (M2 : pt_M) (M : pt_M) (h1 : mN_P M x1) : pt_Does yX7_isLawful YX7_isLawful [pt_r 7 0, pt_i x1] M (some (pt_i 0)) M :=
  rX7_isLawful_30 pt_nar0 (Nat.le_of_ble_eq_true rfl) rfl (gX7_isLawful_0_3 x1 r M2 M h1)
theorem il_y {M : pt_M} {A : iv_A} {s : Nat} (h : MR_P M A) (hs : s < 6) (hn : iv_N A s ≠ 0) : ∃ g, pt_Does yX7_isLawful YX7_isLawful [pt_r 7 0, pt_i (nI s)] M (some (pt_i (pt_b (decide (wy_F (iv_N A s) (iv_B A s) = 0))))) (pt_wA M 36 0 g) := by
  obtain ⟨q1, q2, q3⟩ := MR_y h hs hn
  obtain ⟨g, hg⟩ := dX7_whyNot q3
  have e : pt_nt (nI s) = s := pt_nt_nI (by omega)
  have hd : pt_Does yX7_whyNot YX7_whyNot [pt_r 7 0, pt_i (120 * nI s), pt_i (pt_A M 31 0 (pt_nt (nI s)))] M (some (pt_i (nI (wy_F (iv_N A s) (iv_B A s))))) (pt_wA M 36 0 g) := by
    rw [m120, e, q2]
    exact hg
  have hw := wy_31 (B := iv_B A s) q3.2.1
  by_cases hz : wy_F (iv_N A s) (iv_B A s) = 0
  · rw [decide_eq_true hz]
    exact ⟨g, dX7_isLawful_p1 (nI s) _ _ M q1 (pt_in_nI hs (by decide)) hd (by rw [hz]; rfl)⟩
  · rw [decide_eq_false hz]
    exact ⟨g, dX7_isLawful_p2 (nI s) _ _ M q1 (pt_in_nI hs (by decide)) hd (fun z => hz ((nI_0' hw).mp z))⟩
theorem il_0 {M : pt_M} {x : Int32} (h : mN_P M x) : pt_Does yX7_isLawful YX7_isLawful [pt_r 7 0, pt_i x] M (some (pt_i 0)) M := dX7_isLawful_p3 x 0 M M h
theorem rX7_why_31 {vs : List pt_V} {M M' : pt_M} {x : Int32} {L : List (Nat × pt_V)} (hvs : (vs.map pt_w).sum ≤ 2) (hX : M'.2.2.2.2 = M.2.2.2.2) (h : pt_Go YX7_why (0, pt_en 0 vs, [], M) (31, L, [pt_i x], M')) : pt_Does yX7_why YX7_why vs M (some (pt_i x)) M' := pt_does_go tX7_why_ok nX7_why hvs hX ⟨_, by with_unfolding_all rfl, rfl, _, rfl, rfl⟩ h
set_option maxRecDepth 100000 in
theorem gX7_why_0_1 (x1 : Int32) (r : Int32) (M2 : pt_M) (M : pt_M) (h1 : mA_P (pt_wF M 7 0 0 0) x1) (h2 : pt_in x1 6) (h3 : pt_Does yX7_whyNot YX7_whyNot [pt_r 7 0, pt_i (120 * x1), pt_i (pt_A (pt_wF M 7 0 0 0) 31 0 (pt_nt x1))] (pt_wF M 7 0 0 0) (some (pt_i r)) M2) :
    pt_Go YX7_why (0, [(0, pt_r 7 0), (1, pt_i x1)], [], M)
      (31, [(0, pt_r 7 0), (1, pt_i x1)], [pt_i r], M2) :=
  pt_run_ok tX7_why_ok 17 [.inr (2, some (pt_i 1), (pt_wF M 7 0 0 0)), .inl false, .inr (3, some (pt_i r), M2)] (P := pt_Cal YX7_why (.invokevirtual 89) [pt_r 7 0, pt_i x1] (pt_wF M 7 0 0 0) (some (pt_i 1)) (pt_wF M 7 0 0 0) ∧ (¬ (1 : Int32) = (0 : Int32)) ∧ (pt_in x1 6) ∧ pt_Cal YX7_why (.invokevirtual 137) [pt_r 7 0, pt_i (120 * x1), pt_i (pt_A (pt_wF M 7 0 0 0) 31 0 (pt_nt x1))] (pt_wF M 7 0 0 0) (some (pt_i r)) M2 ∧ True) (by with_unfolding_all rfl) ⟨(pt_callV (i := 0) kX7_why_89 mX7_has rfl (by decide) rfl (dX7_has_1 h1)), (by decide), h2, (pt_callV (i := 0) kX7_why_137 mX7_whyNot rfl (by decide) rfl h3), trivial⟩
set_option maxRecDepth 100000 in
theorem gX7_why_0_2 (x1 : Int32) (r : Int32) (M2 : pt_M) (M : pt_M) (h1 : mN_P (pt_wF M 7 0 0 0) x1) :
    pt_Go YX7_why (0, [(0, pt_r 7 0), (1, pt_i x1)], [], M)
      (31, [(0, pt_r 7 0), (1, pt_i x1)], [pt_i (-1)], (pt_wF M 7 0 0 0)) :=
  pt_run_ok tX7_why_ok 8 [.inr (2, some (pt_i 0), (pt_wF M 7 0 0 0)), .inl true] (P := pt_Cal YX7_why (.invokevirtual 89) [pt_r 7 0, pt_i x1] (pt_wF M 7 0 0 0) (some (pt_i 0)) (pt_wF M 7 0 0 0) ∧ ((0 : Int32) = (0 : Int32)) ∧ True) (by with_unfolding_all rfl) ⟨(pt_callV (i := 0) kX7_why_89 mX7_has rfl (by decide) rfl (dX7_has_0 h1)), (by decide), trivial⟩
theorem dX7_why_p1 (x1 : Int32) (r : Int32) (M2 : pt_M) (M : pt_M) (h1 : mA_P (pt_wF M 7 0 0 0) x1) (h2 : pt_in x1 6) (h3 : pt_Does yX7_whyNot YX7_whyNot [pt_r 7 0, pt_i (120 * x1), pt_i (pt_A (pt_wF M 7 0 0 0) 31 0 (pt_nt x1))] (pt_wF M 7 0 0 0) (some (pt_i r)) M2) : pt_Does yX7_why YX7_why [pt_r 7 0, pt_i x1] M (some (pt_i r)) M2 :=
  rX7_why_31 (Nat.le_of_ble_eq_true rfl) (show M2.2.2.2.2 = (pt_wF M 7 0 0 0).2.2.2.2 from dX_x5 h3) (gX7_why_0_1 x1 r M2 M h1 h2 h3)
theorem dX7_why_p2 (x1 : Int32) (r : Int32) (M2 : pt_M) (M : pt_M) (h1 : mN_P (pt_wF M 7 0 0 0) x1) : pt_Does yX7_why YX7_why [pt_r 7 0, pt_i x1] M (some (pt_i (-1))) (pt_wF M 7 0 0 0) :=
  rX7_why_31 (Nat.le_of_ble_eq_true rfl) rfl (gX7_why_0_2 x1 r M2 M h1)
theorem op_why {M : pt_M} (h : IV_P M) (x : Int32) : op_P yX6_why YX6_why yX7_why YX7_why [pt_i x] M := by
  obtain ⟨A, hC, hM⟩ := h
  by_cases h1 : sl_P x
  · obtain ⟨s, hs, rfl⟩ := sl_of h1
    have e : pt_nt (nI s) = s := pt_nt_nI (by omega)
    by_cases hn : iv_N A s = 0
    · exact op_of hC hM (A' := A) (M2 := t0_M M) (dX6_why_p2 (nI s) 0 (fun _ _ _ => false) M (CR_n hC hs hn).1) mo_P.rf hC fun hM => ⟨dX7_why_p2 (nI s) 0 M M (MR_n hM hs hn).1, t0_ca, hM⟩
    · obtain ⟨q1, q2, q3, q4, q5, q6⟩ := CR_y hC hs hn
      have d1 := dX6_why_p1 (nI s) (iv_N A s) (iv_B A s) M q3 (by rw [e]; exact q4) (by rw [e]; exact q5)
      rw [e] at d1
      have hM1 : MR_P (t0_M (pt_wF M 3 2 (pt_R M (s + 1)) (nI (wy_F (iv_N A s) (iv_B A s))))) A := MR_t0 (MR_mo hM (mo_wF (by decide)))
      obtain ⟨p1, p2, p3⟩ := MR_y hM1 hs hn
      obtain ⟨g, hg⟩ := dX7_whyNot p3
      refine op_of hC hM (A' := A) d1 (mo_wF (by decide)) (CR_wl hC hs hn) fun hM => ⟨dX7_why_p1 (nI s) _ (pt_wA (t0_M (pt_wF M 3 2 (pt_R M (s + 1)) (nI (wy_F (iv_N A s) (iv_B A s))))) 36 0 g) _ p1 (pt_in_nI hs (by decide)) ?_, t0_ca.tr ca_36, MR_w (MR_t0 hM) (by decide) (by decide) (by decide) (by decide) (by decide) (by decide)⟩
      rw [m120, e]
      have e2 : pt_A (pt_wF (pt_wF M 3 2 (pt_R M (s + 1)) (nI (wy_F (iv_N A s) (iv_B A s)))) 7 0 0 0) 31 0 s = nI (iv_N A s) := p2
      rw [e2]
      exact hg
  · exact op_of hC hM (A' := A) (M2 := t0_M M) (dX6_why_p2 x 0 (fun _ _ _ => false) M (Or.inl h1)) mo_P.rf hC fun hM => ⟨dX7_why_p2 x 0 M M (Or.inl h1), t0_ca, hM⟩
theorem rX7_lawful_30 {vs : List pt_V} {M M' : pt_M} {x : Int32} {L : List (Nat × pt_V)} (hvs : (vs.map pt_w).sum ≤ 2) (hX : M'.2.2.2.2 = M.2.2.2.2) (h : pt_Go YX7_lawful (0, pt_en 0 vs, [], M) (30, L, [pt_i x], M')) : pt_Does yX7_lawful YX7_lawful vs M (some (pt_i x)) M' := pt_does_go tX7_lawful_ok nX7_lawful hvs hX ⟨_, by with_unfolding_all rfl, rfl, _, rfl, rfl⟩ h
set_option maxRecDepth 100000 in
theorem gX7_lawful_0_1 (x1 : Int32) (M2 : pt_M) (M : pt_M) (h1 : mA_P (pt_wF M 7 0 0 0) x1) (h2 : pt_Does yX7_isLawful YX7_isLawful [pt_r 7 0, pt_i x1] (pt_wF M 7 0 0 0) (some (pt_i 1)) M2) :
    pt_Go YX7_lawful (0, [(0, pt_r 7 0), (1, pt_i x1)], [], M)
      (30, [(0, pt_r 7 0), (1, pt_i x1)], [pt_i 1], M2) :=
  pt_run_ok tX7_lawful_ok 13 [.inr (2, some (pt_i 1), (pt_wF M 7 0 0 0)), .inl false, .inr (2, some (pt_i 1), M2), .inl false] (P := pt_Cal YX7_lawful (.invokevirtual 89) [pt_r 7 0, pt_i x1] (pt_wF M 7 0 0 0) (some (pt_i 1)) (pt_wF M 7 0 0 0) ∧ (¬ (1 : Int32) = (0 : Int32)) ∧ pt_Cal YX7_lawful (.invokevirtual 141) [pt_r 7 0, pt_i x1] (pt_wF M 7 0 0 0) (some (pt_i 1)) M2 ∧ (¬ (1 : Int32) = (0 : Int32)) ∧ True) (by with_unfolding_all rfl) ⟨(pt_callV (i := 0) kX7_lawful_89 mX7_has rfl (by decide) rfl (dX7_has_1 h1)), (by decide), (pt_callV (i := 0) kX7_lawful_141 mX7_isLawful rfl (by decide) rfl h2), (by decide), trivial⟩
set_option maxRecDepth 100000 in
theorem gX7_lawful_0_2 (x1 : Int32) (M2 : pt_M) (M : pt_M) (h1 : mA_P (pt_wF M 7 0 0 0) x1) (h2 : pt_Does yX7_isLawful YX7_isLawful [pt_r 7 0, pt_i x1] (pt_wF M 7 0 0 0) (some (pt_i 0)) M2) :
    pt_Go YX7_lawful (0, [(0, pt_r 7 0), (1, pt_i x1)], [], M)
      (30, [(0, pt_r 7 0), (1, pt_i x1)], [pt_i 0], M2) :=
  pt_run_ok tX7_lawful_ok 13 [.inr (2, some (pt_i 1), (pt_wF M 7 0 0 0)), .inl false, .inr (2, some (pt_i 0), M2), .inl true] (P := pt_Cal YX7_lawful (.invokevirtual 89) [pt_r 7 0, pt_i x1] (pt_wF M 7 0 0 0) (some (pt_i 1)) (pt_wF M 7 0 0 0) ∧ (¬ (1 : Int32) = (0 : Int32)) ∧ pt_Cal YX7_lawful (.invokevirtual 141) [pt_r 7 0, pt_i x1] (pt_wF M 7 0 0 0) (some (pt_i 0)) M2 ∧ ((0 : Int32) = (0 : Int32)) ∧ True) (by with_unfolding_all rfl) ⟨(pt_callV (i := 0) kX7_lawful_89 mX7_has rfl (by decide) rfl (dX7_has_1 h1)), (by decide), (pt_callV (i := 0) kX7_lawful_141 mX7_isLawful rfl (by decide) rfl h2), (by decide), trivial⟩
set_option maxRecDepth 100000 in
theorem gX7_lawful_0_3 (x1 : Int32) (M2 : pt_M) (M : pt_M) (h1 : mN_P (pt_wF M 7 0 0 0) x1) :
    pt_Go YX7_lawful (0, [(0, pt_r 7 0), (1, pt_i x1)], [], M)
      (30, [(0, pt_r 7 0), (1, pt_i x1)], [pt_i (-1)], (pt_wF M 7 0 0 0)) :=
  pt_run_ok tX7_lawful_ok 8 [.inr (2, some (pt_i 0), (pt_wF M 7 0 0 0)), .inl true] (P := pt_Cal YX7_lawful (.invokevirtual 89) [pt_r 7 0, pt_i x1] (pt_wF M 7 0 0 0) (some (pt_i 0)) (pt_wF M 7 0 0 0) ∧ ((0 : Int32) = (0 : Int32)) ∧ True) (by with_unfolding_all rfl) ⟨(pt_callV (i := 0) kX7_lawful_89 mX7_has rfl (by decide) rfl (dX7_has_0 h1)), (by decide), trivial⟩
theorem dX7_lawful_p1 (x1 : Int32) (M2 : pt_M) (M : pt_M) (h1 : mA_P (pt_wF M 7 0 0 0) x1) (h2 : pt_Does yX7_isLawful YX7_isLawful [pt_r 7 0, pt_i x1] (pt_wF M 7 0 0 0) (some (pt_i 1)) M2) : pt_Does yX7_lawful YX7_lawful [pt_r 7 0, pt_i x1] M (some (pt_i 1)) M2 :=
  rX7_lawful_30 (Nat.le_of_ble_eq_true rfl) (show M2.2.2.2.2 = (pt_wF M 7 0 0 0).2.2.2.2 from dX_x5 h2) (gX7_lawful_0_1 x1 M2 M h1 h2)
theorem dX7_lawful_p2 (x1 : Int32) (M2 : pt_M) (M : pt_M) (h1 : mA_P (pt_wF M 7 0 0 0) x1) (h2 : pt_Does yX7_isLawful YX7_isLawful [pt_r 7 0, pt_i x1] (pt_wF M 7 0 0 0) (some (pt_i 0)) M2) : pt_Does yX7_lawful YX7_lawful [pt_r 7 0, pt_i x1] M (some (pt_i 0)) M2 :=
  rX7_lawful_30 (Nat.le_of_ble_eq_true rfl) (show M2.2.2.2.2 = (pt_wF M 7 0 0 0).2.2.2.2 from dX_x5 h2) (gX7_lawful_0_2 x1 M2 M h1 h2)
theorem dX7_lawful_p3 (x1 : Int32) (M2 : pt_M) (M : pt_M) (h1 : mN_P (pt_wF M 7 0 0 0) x1) : pt_Does yX7_lawful YX7_lawful [pt_r 7 0, pt_i x1] M (some (pt_i (-1))) (pt_wF M 7 0 0 0) :=
  rX7_lawful_30 (Nat.le_of_ble_eq_true rfl) rfl (gX7_lawful_0_3 x1 M2 M h1)
theorem op_lawful {M : pt_M} (h : IV_P M) (x : Int32) : op_P yX6_lawful YX6_lawful yX7_lawful YX7_lawful [pt_i x] M := by
  obtain ⟨A, hC, hM⟩ := h
  by_cases h1 : sl_P x
  · obtain ⟨s, hs, rfl⟩ := sl_of h1
    have e : pt_nt (nI s) = s := pt_nt_nI (by omega)
    by_cases hn : iv_N A s = 0
    · exact op_of hC hM (A' := A) (M2 := t0_M M) (dX6_lawful_p1 (nI s) (-1) M M (dX6_why_p2 (nI s) 0 (fun _ _ _ => false) M (CR_n hC hs hn).1) rfl) mo_P.rf hC fun hM => ⟨dX7_lawful_p3 (nI s) M M (MR_n hM hs hn).1, t0_ca, hM⟩
    · obtain ⟨q1, q2, q3, q4, q5, q6⟩ := CR_y hC hs hn
      have d1 := dX6_why_p1 (nI s) (iv_N A s) (iv_B A s) M q3 (by rw [e]; exact q4) (by rw [e]; exact q5)
      rw [e] at d1
      have hw := wy_31 (B := iv_B A s) q2
      have hm1 : ¬ nI (wy_F (iv_N A s) (iv_B A s)) = -1 := nI_m1 hw
      have hM1 : MR_P (t0_M (pt_wF M 3 2 (pt_R M (s + 1)) (nI (wy_F (iv_N A s) (iv_B A s))))) A := MR_t0 (MR_mo hM (mo_wF (by decide)))
      obtain ⟨g, hg⟩ := il_y hM1 hs hn
      by_cases hz : wy_F (iv_N A s) (iv_B A s) = 0
      · rw [decide_eq_true hz] at hg
        exact op_of hC hM (A' := A) (dX6_lawful_p2 (nI s) _ _ M d1 hm1 (by rw [hz]; rfl)) (mo_wF (by decide)) (CR_wl hC hs hn) fun hM => ⟨dX7_lawful_p1 (nI s) _ _ (MR_y hM1 hs hn).1 hg, t0_ca.tr ca_36, MR_w (MR_t0 hM) (by decide) (by decide) (by decide) (by decide) (by decide) (by decide)⟩
      · rw [decide_eq_false hz] at hg
        exact op_of hC hM (A' := A) (dX6_lawful_p3 (nI s) _ _ M d1 hm1 (fun z => hz ((nI_0' hw).mp z))) (mo_wF (by decide)) (CR_wl hC hs hn) fun hM => ⟨dX7_lawful_p2 (nI s) _ _ (MR_y hM1 hs hn).1 hg, t0_ca.tr ca_36, MR_w (MR_t0 hM) (by decide) (by decide) (by decide) (by decide) (by decide) (by decide)⟩
  · exact op_of hC hM (A' := A) (M2 := t0_M M) (dX6_lawful_p1 x (-1) M M (dX6_why_p2 x 0 (fun _ _ _ => false) M (Or.inl h1)) rfl) mo_P.rf hC fun hM => ⟨dX7_lawful_p3 x M M (Or.inl h1), t0_ca, hM⟩
