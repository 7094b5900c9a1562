/-! named -/
/-- the class's memory, when the rows of the lawful table in slot s are known -/
def xr_M (M : pt_M) (A : iv_A) (s : Nat) : pt_M := fw_M (wl_M M (nI s) (iv_N A s) (iv_B A s)) (pt_R M (s + 1)) (iv_N A s) (iv_B A s)
theorem xr_ok {M : pt_M} {A : iv_A} {s : Nat} (hC : CR_P M A) (hs : s < 6) (hn : iv_N A s ≠ 0) (hz : wy_F (iv_N A s) (iv_B A s) = 0) : CR_P (xr_M M A s) A ∧ lw_P (iv_N A s) (iv_B A s) ∧ fr_H (wl_M M (nI s) (iv_N A s) (iv_B A s)) (pt_R M (s + 1)) (iv_N A s) (iv_B A s) ∧ (∀ p, p < rk_0 (iv_N A s) (iv_N A s) → pt_A (xr_M M A s) 12 (pt_R M (s + 1)) p = fr_R (iv_N A s) (iv_B A s) false (iv_N A s) p ∧ pt_A (xr_M M A s) 13 (pt_R M (s + 1)) p = fr_R (iv_N A s) (iv_B A s) true (iv_N A s) p) ∧ (0 < cq_F (pt_A (xr_M M A s) 12 (pt_R M (s + 1))) (pt_A (xr_M M A s) 13 (pt_R M (s + 1))) (rk_0 (iv_N A s) (iv_N A s)) ↔ mc_F (fr_R (iv_N A s) (iv_B A s) true (iv_N A s)) (fr_R (iv_N A s) (iv_B A s) false (iv_N A s)) (rk_0 (iv_N A s) (iv_N A s)) < 0) ∧ pt_F (wl_M M (nI s) (iv_N A s) (iv_B A s)) 3 0 (pt_R M (s + 1)) = nI (iv_N A s) ∧ mo_P M (xr_M M A s) ∧ pt_R (xr_M M A s) = pt_R M := by
  obtain ⟨q1, q2, q3, q4, q5, q6⟩ := CR_y hC hs hn
  have hC1 := CR_wm hC hs hn
  have hl := CR_lA hC hs hn hz
  have hlw : lw_P (iv_N A s) (iv_B A s) := lw_of q2 nB_sy hz
  have es : pt_nt (nI s) = s := pt_nt_nI (by omega)
  have htb : tb_P (wl_M M (nI s) (iv_N A s) (iv_B A s)) (pt_R M (s + 1)) (iv_N A s) (iv_B A s) := by
    have := hl.2.1
    rw [es] at this
    exact this
  have hA : ∀ p, p < rk_0 (iv_N A s) (iv_N A s) → pt_A (xr_M M A s) 12 (pt_R M (s + 1)) p = fr_R (iv_N A s) (iv_B A s) false (iv_N A s) p ∧ pt_A (xr_M M A s) 13 (pt_R M (s + 1)) p = fr_R (iv_N A s) (iv_B A s) true (iv_N A s) p := fw_A hlw iv_dg q1 (CR_y hC1 hs hn).2.2.2.2.2
  refine ⟨CR_fw hC1 hs hn hlw, hlw, ⟨htb, lq_of hlw iv_dg, hC1.2.2.2.2.1⟩, hA, ?_, htb.2.2.1, mo_wm.tr (mo_fw q2), ?_⟩
  · rw [cq_cg (fun p hp => (hA p hp).1) fun p hp => (hA p hp).2]
    exact cq_mc (fr_n hlw q1) (fr_n hlw q1)
  · exact congrArg (fun z => z.2.1) (fw_ke (M := wl_M M (nI s) (iv_N A s) (iv_B A s)) (t := pt_R M (s + 1)) (B := iv_B A s) q2).2.2.2
theorem rX7_named_21 {vs : List pt_V} {M M' : pt_M} {x : Int32} {L : List (Nat × pt_V)} (hn : narrow .boolean (.int x) = .int x) (hvs : (vs.map pt_w).sum ≤ 3) (hX : M'.2.2.2.2 = M.2.2.2.2) (h : pt_Go YX7_named (0, pt_en 0 vs, [], M) (21, L, [pt_i x], M')) : pt_Does yX7_named YX7_named vs M (some (pt_i x)) M' := pt_does_go tX7_named_ok nX7_named hvs hX ⟨_, by with_unfolding_all rfl, rfl, _, rfl, hn⟩ h
theorem rX7_named_52 {vs : List pt_V} {M M' : pt_M} {x : Int32} {L : List (Nat × pt_V)} (hn : narrow .boolean (.int x) = .int x) (hvs : (vs.map pt_w).sum ≤ 3) (hX : M'.2.2.2.2 = M.2.2.2.2) (h : pt_Go YX7_named (0, pt_en 0 vs, [], M) (52, L, [pt_i x], M')) : pt_Does yX7_named YX7_named vs M (some (pt_i x)) M' := pt_does_go tX7_named_ok nX7_named hvs hX ⟨_, by with_unfolding_all rfl, rfl, _, rfl, hn⟩ h
set_option maxRecDepth 100000 in
theorem gX7_named_0_1 (x1 : Int32) (x2 : Int32) (M2 M3 M4 : pt_M) (M : pt_M) (h1 : sl_P x1) (h2 : pt_Does yX7_isLawful YX7_isLawful [pt_r 7 0, pt_i x2] (pt_wF M 7 0 0 0) (some (pt_i 1)) M2) (h3 : pt_in x2 6) (h4 : pt_Does yX7_codeOf YX7_codeOf [pt_r 7 0, pt_i (120 * x2), pt_i (pt_A M2 31 0 (pt_nt x2))] M2 none M3) (h5 : pt_Does yX7_fill YX7_fill [pt_r 7 0, pt_i x1, pt_i (pt_A M3 31 0 (pt_nt x2)), pt_r 38 0] M3 none M4) :
    pt_Go YX7_named (0, [(0, pt_r 7 0), (1, pt_i x1), (2, pt_i x2)], [], M)
      (52, [(0, pt_r 7 0), (1, pt_i x1), (2, pt_i x2)], [pt_i 1], M4) :=
  pt_run_ok tX7_named_ok 29 [.inr (1, some (pt_i 1), (pt_wF M 7 0 0 0)), .inl false, .inr (2, some (pt_i 1), M2), .inl true, .inr (3, none, M3), .inr (4, none, M4)] (P := pt_Cal YX7_named (.invokestatic 85) [pt_i x1] (pt_wF M 7 0 0 0) (some (pt_i 1)) (pt_wF M 7 0 0 0) ∧ (¬ (1 : Int32) = (0 : Int32)) ∧ pt_Cal YX7_named (.invokevirtual 141) [pt_r 7 0, pt_i x2] (pt_wF M 7 0 0 0) (some (pt_i 1)) M2 ∧ (¬ (1 : Int32) = (0 : Int32)) ∧ (pt_in x2 6) ∧ pt_Cal YX7_named (.invokevirtual 171) [pt_r 7 0, pt_i (120 * x2), pt_i (pt_A M2 31 0 (pt_nt x2))] M2 none M3 ∧ (pt_in x2 6) ∧ pt_Cal YX7_named (.invokevirtual 177) [pt_r 7 0, pt_i x1, pt_i (pt_A M3 31 0 (pt_nt x2)), pt_r 38 0] M3 none M4 ∧ True) (by with_unfolding_all rfl) ⟨(pt_callS kX7_named_85 mX7_isSlot rfl (dX7_isSlot_1 h1)), (by decide), (pt_callV (i := 0) kX7_named_141 mX7_isLawful rfl (by decide) rfl h2), (by decide), h3, (pt_callV (i := 0) kX7_named_171 mX7_codeOf rfl (by decide) rfl h4), h3, (pt_callV (i := 0) kX7_named_177 mX7_fill rfl (by decide) rfl h5), trivial⟩
set_option maxRecDepth 100000 in
theorem gX7_named_0_2 (x1 : Int32) (x2 : Int32) (M2 M3 M4 : pt_M) (M : pt_M) (h1 : sl_P x1) (h2 : pt_Does yX7_isLawful YX7_isLawful [pt_r 7 0, pt_i x2] (pt_wF M 7 0 0 0) (some (pt_i 0)) M2) :
    pt_Go YX7_named (0, [(0, pt_r 7 0), (1, pt_i x1), (2, pt_i x2)], [], M)
      (21, [(0, pt_r 7 0), (1, pt_i x1), (2, pt_i x2)], [pt_i 0], M2) :=
  pt_run_ok tX7_named_ok 11 [.inr (1, some (pt_i 1), (pt_wF M 7 0 0 0)), .inl false, .inr (2, some (pt_i 0), M2), .inl false] (P := pt_Cal YX7_named (.invokestatic 85) [pt_i x1] (pt_wF M 7 0 0 0) (some (pt_i 1)) (pt_wF M 7 0 0 0) ∧ (¬ (1 : Int32) = (0 : Int32)) ∧ pt_Cal YX7_named (.invokevirtual 141) [pt_r 7 0, pt_i x2] (pt_wF M 7 0 0 0) (some (pt_i 0)) M2 ∧ ((0 : Int32) = (0 : Int32)) ∧ True) (by with_unfolding_all rfl) ⟨(pt_callS kX7_named_85 mX7_isSlot rfl (dX7_isSlot_1 h1)), (by decide), (pt_callV (i := 0) kX7_named_141 mX7_isLawful rfl (by decide) rfl h2), (by decide), trivial⟩
set_option maxRecDepth 100000 in
theorem gX7_named_0_3 (x1 : Int32) (x2 : Int32) (M2 M3 M4 : pt_M) (M : pt_M) (h1 : ¬ sl_P x1) :
    pt_Go YX7_named (0, [(0, pt_r 7 0), (1, pt_i x1), (2, pt_i x2)], [], M)
      (21, [(0, pt_r 7 0), (1, pt_i x1), (2, pt_i x2)], [pt_i 0], (pt_wF M 7 0 0 0)) :=
  pt_run_ok tX7_named_ok 7 [.inr (1, some (pt_i 0), (pt_wF M 7 0 0 0)), .inl true] (P := pt_Cal YX7_named (.invokestatic 85) [pt_i x1] (pt_wF M 7 0 0 0) (some (pt_i 0)) (pt_wF M 7 0 0 0) ∧ ((0 : Int32) = (0 : Int32)) ∧ True) (by with_unfolding_all rfl) ⟨(pt_callS kX7_named_85 mX7_isSlot rfl (dX7_isSlot_0 h1)), (by decide), trivial⟩
theorem dX7_named_y {s t n : Nat} {B : Nat → Nat → Nat → Bool} {M M2 : pt_M} (hs : s < 6) (ht : t < 6) (hl : pt_Does yX7_isLawful YX7_isLawful [pt_r 7 0, pt_i (nI t)] (pt_wF M 7 0 0 0) (some (pt_i 1)) M2) (hN : pt_A M2 31 0 t = nI n) (hml : ml_P M2 (120 * t) n B) (h : lw_P n B) (hd : dg_P n B) (h3 : 3 ≤ n) : ∃ M3, pt_Does yX7_named YX7_named [pt_r 7 0, pt_i (nI s), pt_i (nI t)] M (some (pt_i 1)) (sl_M (st_M M3 (120 * s) n fun i j k => decide (pt_A M3 38 0 (rk_F n i j k) = 1)) s n) ∧ ck_P M2 M3 ∧ ∀ p, p < rk_0 n n → pt_A M3 38 0 p = cd_F n B p := by
  have hn := h.1
  have es : pt_nt (nI t) = t := pt_nt_nI (by omega)
  obtain ⟨M3, d, k, a⟩ := dX7_codeOf hml h hd h3
  have e31 : pt_A M3 31 0 (pt_nt (nI t)) = nI n := by rw [es, k.2.1 31 0 (by decide) (by decide) (by decide) (by decide)]; exact hN
  have g0 := gX7_named_0_1 (nI s) (nI t) M2 M3 (sl_M (st_M M3 (120 * s) n fun i j k => decide (pt_A M3 38 0 (rk_F n i j k) = 1)) s n) M (sl_nI hs) hl (pt_in_nI ht (by decide)) (by rw [m120, es, hN]; exact d) (by rw [e31]; exact dX7_fill hs hn)
  have hX : M3.2.2.2.2 = M.2.2.2.2 := (congrArg (fun z => z.2.2) k.2.2).trans (dX_x5 hl)
  exact ⟨M3, rX7_named_52 rfl (Nat.le_of_ble_eq_true rfl) (show (sl_M (st_M M3 (120 * s) n fun i j k => decide (pt_A M3 38 0 (rk_F n i j k) = 1)) s n).2.2.2.2 = M.2.2.2.2 from hX) g0, k, a⟩
theorem op_named {M : pt_M} (h : IV_P M) (x y : Int32) : op_P yX6_named YX6_named yX7_named YX7_named [pt_i x, pt_i y] M := by
  obtain ⟨A, hC, hM⟩ := h
  have zB : Nat → Nat → Nat → Bool := fun _ _ _ => false
  have no : ∀ {M1 M2}, M2.2.2.2.2 = M1.2.2.2.2 → pt_Go YX7_named (0, [(0, pt_r 7 0), (1, pt_i x), (2, pt_i y)], [], M1) (21, [(0, pt_r 7 0), (1, pt_i x), (2, pt_i y)], [pt_i 0], M2) → pt_Does yX7_named YX7_named [pt_r 7 0, pt_i x, pt_i y] M1 (some (pt_i 0)) M2 := fun e g => rX7_named_21 rfl (Nat.le_of_ble_eq_true rfl) e g
  by_cases hx : sl_P x
  case neg =>
    rcases lw_case hC y with ⟨h1, h2⟩ | ⟨s, hs, rfl, hn⟩
    · exact op_of hC hM (A' := A) (M2 := t0_M M) (dX6_named_p7 x y 0 zB 0 0 zB M h1 hx) mo_P.rf hC fun hM => ⟨no rfl (gX7_named_0_3 x y M M M M hx), t0_ca, hM⟩
    · by_cases hz : wy_F (iv_N A s) (iv_B A s) = 0
      · exact op_of hC hM (A' := A) (M2 := t0_M (wl_M M (nI s) (iv_N A s) (iv_B A s))) (dX6_named_p3 x (nI s) 0 zB 0 (iv_N A s) (iv_B A s) M (CR_lA hC hs hn hz) hx) mo_wm (CR_wm hC hs hn) fun hM => ⟨no rfl (gX7_named_0_3 x (nI s) M M M _ hx), t0_ca, hM⟩
      · exact op_of hC hM (A' := A) (M2 := t0_M (wl_M M (nI s) (iv_N A s) (iv_B A s))) (dX6_named_p5 x (nI s) 0 zB 0 (iv_N A s) (iv_B A s) M (CR_lN hC hs hn hz) hx) mo_wm (CR_wm hC hs hn) fun hM => ⟨no rfl (gX7_named_0_3 x (nI s) M M M _ hx), t0_ca, hM⟩
  rcases lw_case hC y with ⟨h1, h2⟩ | ⟨t, ht, rfl, hn⟩
  · exact op_of hC hM (A' := A) (M2 := t0_M M) (dX6_named_p6 x y 0 zB 0 0 zB M h1 hx) mo_P.rf hC fun hM => ⟨no rfl (gX7_named_0_2 x y (t0_M M) M M M hx (il_0 (h2 M hM))), t0_ca, hM⟩
  obtain ⟨s, hs, rfl⟩ := sl_of hx
  have hM1 := MR_mo hM (mo_wm (x := nI t) (n := iv_N A t) (B := iv_B A t))
  by_cases hz : wy_F (iv_N A t) (iv_B A t) = 0
  case neg =>
    obtain ⟨g, hg⟩ := il_f hM1 ht hn hz
    exact op_of hC hM (A' := A) (M2 := pt_wA (t0_M (wl_M M (nI t) (iv_N A t) (iv_B A t))) 36 0 g) (dX6_named_p4 (nI s) (nI t) 0 zB 0 (iv_N A t) (iv_B A t) M (CR_lN hC ht hn hz) hx) mo_wm (CR_wm hC ht hn) fun hM => ⟨no rfl (gX7_named_0_2 (nI s) (nI t) _ M M _ hx hg), ca_t36, MR_36 hM⟩
  obtain ⟨q1, q2, q3, q4, q5, q6⟩ := CR_y hC ht hn
  have hl := CR_lA hC ht hn hz
  have es : pt_nt (nI t) = t := pt_nt_nI (by omega)
  obtain ⟨x1, x2, x3, x4, x5, x6, x7, x8⟩ := xr_ok hC ht hn hz
  have t7 : pt_R M (t + 1) < 7 := x3.1.1
  have z7 : pt_R M 0 < 7 := hC.2.1 0 (by decide)
  have mod : ∀ S, (∀ i j k, i < j → j < k → k < iv_N A t → S i j k = decide (cd_F (iv_N A t) (iv_B A t) (rk_F (iv_N A t) i j k) = 1)) → ∀ M1, MR_P M1 A → ∃ M2, pt_Does yX7_named YX7_named [pt_r 7 0, pt_i (nI s), pt_i (nI t)] M1 (some (pt_i 1)) M2 ∧ ca_P M1 M2 ∧ MR_P M2 (iv_set A s (iv_N A t) S) := fun S hS M1 hM => by
    obtain ⟨g, hg⟩ := il_t hM ht hn hz
    have y := MR_y (MR_36 (g := g) hM) ht hn
    obtain ⟨M3, d, k, e⟩ := dX7_named_y hs ht hg y.2.1 y.2.2 x2 iv_dg q1
    refine ⟨_, d, (ca_t36.tr (ca_ck k)).tr sl_ca, MR_S (MR_st (ck_MR (MR_36 hM) k) hs q1 q2) fun i j k a1 a2 a3 => ?_⟩
    rw [hS i j k a1 a2 a3, e _ (rk_lt _ q2 i (by omega) j (by omega) k a3 a1 a2).1]
  by_cases c : mc_F (fr_R (iv_N A t) (iv_B A t) true (iv_N A t)) (fr_R (iv_N A t) (iv_B A t) false (iv_N A t)) (rk_0 (iv_N A t) (iv_N A t)) < 0
  · have d1 := dX6_named_p2 (nI s) (nI t) (iv_N A t) (iv_B A t) (rk_0 (iv_N A t) (iv_N A t)) (iv_N A t) (iv_B A t) M hl hx
    rw [es] at d1
    have d1 := d1 t7 x3 (x5.mpr c) z7 ⟨z7, t7, x6, q2⟩ ⟨sl_nI hs, pt_in_nI hs (by decide), ?_⟩
    · have eC : cd_F (iv_N A t) (iv_B A t) = fr_R (iv_N A t) (iv_B A t) true (iv_N A t) := if_pos c
      have hK := CR_keep (S := fun i j k => decide (pt_A (xr_M M A t) 13 (pt_R M (t + 1)) (rk_F (iv_N A t) i j k) = 1)) x1 hs q1 q2
      rw [x8] at hK
      exact op_ex hC hM d1 (x7.tr kt_mo) hK fun hM => mod _ (fun i j k a1 a2 a3 => by rw [eC, (x4 _ (rk_lt _ q2 i (by omega) j (by omega) k a3 a1 a2).1).2]) _ hM
    · show pt_R (xr_M M A t) 0 < 7
      rw [x8]
      exact z7
  · have d1 := dX6_named_p1 (nI s) (nI t) (iv_N A t) (iv_B A t) (rk_0 (iv_N A t) (iv_N A t)) (iv_N A t) (iv_B A t) M hl hx
    rw [es] at d1
    have d1 := d1 t7 x3 (fun z => c (x5.mp z)) z7 ⟨z7, t7, x6, q2⟩ ⟨sl_nI hs, pt_in_nI hs (by decide), ?_⟩
    · have eC : cd_F (iv_N A t) (iv_B A t) = fr_R (iv_N A t) (iv_B A t) false (iv_N A t) := if_neg c
      have hK := CR_keep (S := fun i j k => decide (pt_A (xr_M M A t) 12 (pt_R M (t + 1)) (rk_F (iv_N A t) i j k) = 1)) x1 hs q1 q2
      rw [x8] at hK
      exact op_ex hC hM d1 (x7.tr kt_mo) hK fun hM => mod _ (fun i j k a1 a2 a3 => by rw [eC, (x4 _ (rk_lt _ q2 i (by omega) j (by omega) k a3 a1 a2).1).1]) _ hM
    · show pt_R (xr_M M A t) 0 < 7
      rw [x8]
      exact z7
