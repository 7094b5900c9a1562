/-! A NEW TABLE COMES TO A SLOT: mirror, without, table -/
theorem mt_F0 {M : pt_M} {t n k f i : Nat} {S : Nat → Nat → Nat → Bool} (h : ¬ (k = 3 ∧ i = t)) : pt_F (mt_F M t n S) k f i = pt_F M k f i := by
  show pt_F (fg_F (pt_wF M 3 0 t (nI n)) t) k f i = _
  unfold fg_F
  rw [pt_F_wF, if_neg (fun w => h ⟨w.1, w.2.2⟩), pt_F_wF, if_neg (fun w => h ⟨w.1, w.2.2⟩), pt_F_wF, if_neg (fun w => h ⟨w.1, w.2.2⟩)]
theorem mt_A0 {M : pt_M} {t n k i : Nat} {S : Nat → Nat → Nat → Bool} (h : ¬ (k = 11 ∧ i = t)) : pt_A (mt_F M t n S) k i = pt_A M k i := if_neg h
theorem mt_30 {M : pt_M} {t n : Nat} {S : Nat → Nat → Nat → Bool} : pt_F (mt_F M t n S) 3 0 t = nI n := by
  show pt_F (fg_F (pt_wF M 3 0 t (nI n)) t) 3 0 t = _
  unfold fg_F
  rw [pt_F_wF, if_neg (by omega), pt_F_wF, if_neg (by omega), pt_F_wF, if_pos ⟨rfl, rfl, rfl⟩]
theorem mt_32 {M : pt_M} {t n : Nat} {S : Nat → Nat → Nat → Bool} : pt_F (mt_F M t n S) 3 2 t = -2 := by
  show pt_F (fg_F (pt_wF M 3 0 t (nI n)) t) 3 2 t = _
  unfold fg_F
  rw [pt_F_wF, if_neg (by omega), pt_F_wF, if_pos ⟨rfl, rfl, rfl⟩]
theorem mt_33 {M : pt_M} {t n : Nat} {S : Nat → Nat → Nat → Bool} : pt_F (mt_F M t n S) 3 3 t = 0 := by
  show pt_F (fg_F (pt_wF M 3 0 t (nI n)) t) 3 3 t = _
  unfold fg_F
  rw [pt_F_wF, if_pos ⟨rfl, rfl, rfl⟩]
theorem mt_ct {M : pt_M} {t n : Nat} {S : Nat → Nat → Nat → Bool} : ct_B (mt_F M t n S) t (nB_F n S) := tw_ct
theorem mt_mo {M : pt_M} {t n : Nat} {S : Nat → Nat → Nat → Bool} : mo_P M (mt_F M t n S) := (((mo_wF (by decide)).tr (mo_wF (by decide))).tr (mo_wF (by decide))).tr (mo_wA (by decide))
theorem kp_mo {M : pt_M} {x : Int32} : mo_P M (kp_M M x) := mo_wR.tr mo_wR
theorem kp_R {M : pt_M} {s q : Nat} (hs : s < 6) : pt_R (kp_M M (nI s)) q = if q = 0 then pt_R M (s + 1) else if q = s + 1 then pt_R M 0 else pt_R M q := by
  unfold kp_M
  rw [pt_nt_nI (by omega), pt_R_wR, pt_R_wR]
theorem CR_keep {M : pt_M} {A : iv_A} {s n : Nat} {S : Nat → Nat → Nat → Bool} (h : CR_P M A) (hs : s < 6) (h3 : 3 ≤ n) (hn : n ≤ 10) : CR_P (kp_M (mt_F M (pt_R M 0) n S) (nI s)) (iv_set A s n S) := by
  obtain ⟨h1, h2, g3, h4, h5, h6, h7, h8, h9⟩ := h
  have t7 := h2 0 (by decide)
  have eR : ∀ q, pt_R (kp_M (mt_F M (pt_R M 0) n S) (nI s)) q = if q = 0 then pt_R M (s + 1) else if q = s + 1 then pt_R M 0 else pt_R M q := fun q => kp_R hs
  have eA : ∀ k i, ¬ (k = 11 ∧ i = pt_R M 0) → pt_A (kp_M (mt_F M (pt_R M 0) n S) (nI s)) k i = pt_A M k i := fun k i hk => mt_A0 (M := M) (t := pt_R M 0) (n := n) (S := S) hk
  refine ⟨⟨?_, h1.2.1, fun p hp => ?_⟩, fun p hp => ?_, fun p q hp hq he => ?_, fun q hq => ?_, fun i hi => ?_, ?_, ?_, h8, fun p hp => ?_⟩
  · exact (mt_F0 (M := M) (t := pt_R M 0) (n := n) (S := S) (by omega)).trans h1.1
  · rw [eA 14 0 (by omega)]
    exact h1.2.2 p hp
  · rw [eR]
    split
    · exact h2 _ (by omega)
    · split
      · exact t7
      · exact h2 _ hp
  · rw [eR, eR] at he
    by_cases p0 : p = 0
    · by_cases q0 : q = 0
      · omega
      · rw [if_pos p0, if_neg q0] at he
        by_cases q1 : q = s + 1
        · rw [if_pos q1] at he
          have := g3 _ _ (by omega) (by omega) he
          omega
        · rw [if_neg q1] at he
          have := g3 _ _ (by omega) hq he
          omega
    · rw [if_neg p0] at he
      by_cases p1 : p = s + 1
      · rw [if_pos p1] at he
        by_cases q0 : q = 0
        · rw [if_pos q0] at he
          have := g3 _ _ (by omega) (by omega) he
          omega
        · rw [if_neg q0] at he
          by_cases q1 : q = s + 1
          · omega
          · rw [if_neg q1] at he
            have := g3 _ _ (by omega) hq he
            omega
      · rw [if_neg p1] at he
        by_cases q0 : q = 0
        · rw [if_pos q0] at he
          have := g3 _ _ hp (by omega) he
          omega
        · rw [if_neg q0] at he
          by_cases q1 : q = s + 1
          · rw [if_pos q1] at he
            have := g3 _ _ hp (by omega) he
            omega
          · rw [if_neg q1] at he
            exact g3 _ _ hp hq he
  · rw [eR, if_neg (by omega)]
    by_cases e : q = s
    · subst e
      rw [if_pos rfl, iv_s1.1, iv_s1.2]
      exact Or.inr ⟨h3, ⟨t7, hn, mt_30 (S := S), mt_ct⟩, Or.inl (mt_32 (S := S)), Or.inl (mt_33 (S := S))⟩
    · rw [if_neg (by omega), (iv_s2 e).1, (iv_s2 e).2]
      have hne : ¬ pt_R M (q + 1) = pt_R M 0 := fun z => by
        have := g3 _ _ (by omega) (by omega) z
        omega
      exact cs_ca (h4 q hq) (fun f => mt_F0 (S := S) (fun w => hne w.2)) (eA 11 _ (fun w => hne w.2)) (eA 12 _ (by omega)) (eA 13 _ (by omega))
  · rw [eA 15 0 (by omega)]
    exact h5 i hi
  · exact (mt_F0 (M := M) (t := pt_R M 0) (n := n) (S := S) (by omega)).trans h6
  · exact (mt_F0 (M := M) (t := pt_R M 0) (n := n) (S := S) (by omega)).trans h7
  · rw [eA 20 0 (by omega)]
    exact h9 p hp
theorem kt_mo {M : pt_M} {x : Int32} {t n : Nat} {S : Nat → Nat → Nat → Bool} : mo_P M (kp_M (mt_F M t n S) x) := mt_mo.tr kp_mo
/-- rows that only serve a call -/
theorem CR_wA {M : pt_M} {A : iv_A} {k i : Nat} {g : Nat → Int32} (h : CR_P M A) (k1 : k ≠ 11) (k2 : k ≠ 12) (k3 : k ≠ 13) (k4 : k ≠ 14) (k5 : k ≠ 15) (k6 : k ≠ 20) : CR_P (pt_wA M k i g) A := by
  obtain ⟨h1, h2, g3, h4, h5, h6, h7, h8, h9⟩ := h
  have e : ∀ k' i', k' ≠ k → pt_A (pt_wA M k i g) k' i' = pt_A M k' i' := fun k' i' hk => if_neg fun z => hk z.1
  refine ⟨⟨h1.1, h1.2.1, fun p hp => ?_⟩, h2, g3, fun q hq => ?_, fun i hi => ?_, h6, h7, h8, fun p hp => ?_⟩
  · rw [e 14 0 (fun z => k4 z.symm)]
    exact h1.2.2 p hp
  · exact cs_ca (h4 q hq) (fun _ => rfl) (e 11 _ (fun z => k1 z.symm)) (e 12 _ (fun z => k2 z.symm)) (e 13 _ (fun z => k3 z.symm))
  · rw [e 15 0 (fun z => k5 z.symm)]
    exact h5 i hi
  · rw [e 20 0 (fun z => k6 z.symm)]
    exact h9 p hp
theorem CR_om {M : pt_M} {A : iv_A} {n : Nat} {g : Nat → Nat} (h : CR_P M A) : CR_P (om_M M n g) A := CR_wA h (by decide) (by decide) (by decide) (by decide) (by decide) (by decide)
theorem mo_om {M : pt_M} {n : Nat} {g : Nat → Nat} : mo_P M (om_M M n g) := mo_wA (by decide)
theorem CR_kp {M : pt_M} {A : iv_A} {s : Nat} (h : CR_P M A) (hs : s < 6) : kp_P M (nI s) := ⟨sl_nI hs, pt_in_nI hs (by decide), h.2.1 0 (by decide)⟩
theorem CR_ne {M : pt_M} {A : iv_A} {s : Nat} (h : CR_P M A) (hs : s < 6) : pt_R M (pt_nt (nI s) + 1) ≠ pt_R M 0 := fun z => by
  rw [pt_nt_nI (by omega)] at z
  have := h.2.2.1 _ _ (by omega) (by omega) z
  omega
/-- the model's table out of its cells -/
theorem ml_of {M : pt_M} {o n : Nat} {S : Nat → Nat → Nat → Bool} (ho : o + 120 ≤ 960) (hn : n ≤ 10) (h : ∀ i j k, i < j → j < k → k < n → pt_A M 32 0 (o + th_F i j k) = tv_F (S i j k)) : ml_P M o n (nB_F n S) := ⟨ho, hn, fun i j k h1 h2 h3 => by rw [nB_up h1 h2 h3]; exact h i j k h1 h2 h3, nB_sy⟩
theorem nB_cong {n : Nat} {S S' : Nat → Nat → Nat → Bool} (h : ∀ i j k, i < j → j < k → k < n → S i j k = S' i j k) : nB_F n S = nB_F n S' := nB_eq nB_sy (fun _ _ _ hg => nB_g hg) fun x y z h1 h2 h3 => by rw [nB_up h1 h2 h3, h x y z h1 h2 h3]
theorem op_ex {y : MethodName} {Y : pt_Y} {y' : MethodName} {Y' : pt_Y} {vs : List pt_V} {M M1 : pt_M} {r : Int32} {A A' : iv_A} (hC : CR_P M A) (hM : MR_P M A) (d1 : pt_Does y Y (pt_r 2 0 :: vs) M (some (pt_i r)) M1) (m1 : mo_P M M1) (c1 : CR_P M1 A') (d2 : MR_P M1 A → ∃ M2, pt_Does y' Y' (pt_r 7 0 :: vs) M1 (some (pt_i r)) M2 ∧ ca_P M1 M2 ∧ MR_P M2 A') : op_P y Y y' Y' vs M := by
  obtain ⟨M2, g1, g2, g3⟩ := d2 (MR_mo hM m1)
  exact ⟨M1, M2, r, d1, g1, A', CR_ca c1 g2, g3⟩
theorem rX7_mirror_21 {vs : List pt_V} {M M' : pt_M} {x : Int32} {L : List (Nat × pt_V)} (hn : narrow .boolean (.int x) = .int x) (hvs : (vs.map pt_w).sum ≤ 3) (hX : M'.2.2.2.2 = M.2.2.2.2) (h : pt_Go YX7_mirror (0, pt_en 0 vs, [], M) (21, L, [pt_i x], M')) : pt_Does yX7_mirror YX7_mirror vs M (some (pt_i x)) M' := pt_does_go tX7_mirror_ok nX7_mirror hvs hX ⟨_, by with_unfolding_all rfl, rfl, _, rfl, hn⟩ h
theorem rX7_mirror_55 {vs : List pt_V} {M M' : pt_M} {x : Int32} {L : List (Nat × pt_V)} (hn : narrow .boolean (.int x) = .int x) (hvs : (vs.map pt_w).sum ≤ 3) (hX : M'.2.2.2.2 = M.2.2.2.2) (h : pt_Go YX7_mirror (0, pt_en 0 vs, [], M) (55, L, [pt_i x], M')) : pt_Does yX7_mirror YX7_mirror vs M (some (pt_i x)) M' := pt_does_go tX7_mirror_ok nX7_mirror hvs hX ⟨_, by with_unfolding_all rfl, rfl, _, rfl, hn⟩ h
set_option maxRecDepth 100000 in
theorem gX7_mirror_0_1 (x1 : Int32) (x2 : Int32)  (M : pt_M) (h1 : sl_P x1) (h2 : mA_P (pt_wF M 7 0 0 0) x2) (h3 : cc_P (120 * x2) (120 * x1)) (h4 : ng_P (120 * x1)) (h5 : pt_in x2 6) (h6 : pt_in x1 6) :
    pt_Go YX7_mirror (0, [(0, pt_r 7 0), (1, pt_i x1), (2, pt_i x2)], [], M)
      (55, [(0, pt_r 7 0), (1, pt_i x1), (2, pt_i x2)], [pt_i 1], (pt_wA (ng_M (cc_M (pt_wF M 7 0 0 0) (120 * x2) (120 * x1)) (120 * x1)) 31 0 (upd (pt_A (ng_M (cc_M (pt_wF M 7 0 0 0) (120 * x2) (120 * x1)) (120 * x1)) 31 0) (pt_nt x1) (pt_A (ng_M (cc_M (pt_wF M 7 0 0 0) (120 * x2) (120 * x1)) (120 * x1)) 31 0 (pt_nt x2))))) :=
  pt_run_ok tX7_mirror_ok 32 [.inr (1, some (pt_i 1), (pt_wF M 7 0 0 0)), .inl false, .inr (2, some (pt_i 1), (pt_wF M 7 0 0 0)), .inl true, .inr (3, none, (cc_M (pt_wF M 7 0 0 0) (120 * x2) (120 * x1))), .inr (2, none, (ng_M (cc_M (pt_wF M 7 0 0 0) (120 * x2) (120 * x1)) (120 * x1)))] (P := pt_Cal YX7_mirror (.invokestatic 85) [pt_i x1] (pt_wF M 7 0 0 0) (some (pt_i 1)) (pt_wF M 7 0 0 0) ∧ (¬ (1 : Int32) = (0 : Int32)) ∧ pt_Cal YX7_mirror (.invokevirtual 89) [pt_r 7 0, pt_i x2] (pt_wF M 7 0 0 0) (some (pt_i 1)) (pt_wF M 7 0 0 0) ∧ (¬ (1 : Int32) = (0 : Int32)) ∧ pt_Cal YX7_mirror (.invokevirtual 103) [pt_r 7 0, pt_i (120 * x2), pt_i (120 * x1)] (pt_wF M 7 0 0 0) none (cc_M (pt_wF M 7 0 0 0) (120 * x2) (120 * x1)) ∧ pt_Cal YX7_mirror (.invokevirtual 111) [pt_r 7 0, pt_i (120 * x1)] (cc_M (pt_wF M 7 0 0 0) (120 * x2) (120 * x1)) none (ng_M (cc_M (pt_wF M 7 0 0 0) (120 * x2) (120 * x1)) (120 * x1)) ∧ (pt_in x2 6) ∧ (pt_in x1 6) ∧ True) (by with_unfolding_all rfl) ⟨(pt_callS kX7_mirror_85 mX7_isSlot rfl (dX7_isSlot_1 h1)), (by decide), (pt_callV (i := 0) kX7_mirror_89 mX7_has rfl (by decide) rfl (dX7_has_1 h2)), (by decide), (pt_callV (i := 0) kX7_mirror_103 mX7_copy rfl (by decide) rfl (dX7_copy h3)), (pt_callV (i := 0) kX7_mirror_111 mX7_turnAll rfl (by decide) rfl (dX7_turnAll h4)), h5, h6, trivial⟩
set_option maxRecDepth 100000 in
theorem gX7_mirror_0_2 (x1 : Int32) (x2 : Int32)  (M : pt_M) (h1 : sl_P x1) (h2 : mN_P (pt_wF M 7 0 0 0) x2) :
    pt_Go YX7_mirror (0, [(0, pt_r 7 0), (1, pt_i x1), (2, pt_i x2)], [], M)
      (21, [(0, pt_r 7 0), (1, pt_i x1), (2, pt_i x2)], [pt_i 0], (pt_wF M 7 0 0 0)) :=
  pt_run_ok tX7_mirror_ok 11 [.inr (1, some (pt_i 1), (pt_wF M 7 0 0 0)), .inl false, .inr (2, some (pt_i 0), (pt_wF M 7 0 0 0)), .inl false] (P := pt_Cal YX7_mirror (.invokestatic 85) [pt_i x1] (pt_wF M 7 0 0 0) (some (pt_i 1)) (pt_wF M 7 0 0 0) ∧ (¬ (1 : Int32) = (0 : Int32)) ∧ pt_Cal YX7_mirror (.invokevirtual 89) [pt_r 7 0, pt_i x2] (pt_wF M 7 0 0 0) (some (pt_i 0)) (pt_wF M 7 0 0 0) ∧ ((0 : Int32) = (0 : Int32)) ∧ True) (by with_unfolding_all rfl) ⟨(pt_callS kX7_mirror_85 mX7_isSlot rfl (dX7_isSlot_1 h1)), (by decide), (pt_callV (i := 0) kX7_mirror_89 mX7_has rfl (by decide) rfl (dX7_has_0 h2)), (by decide), trivial⟩
set_option maxRecDepth 100000 in
theorem gX7_mirror_0_3 (x1 : Int32) (x2 : Int32)  (M : pt_M) (h1 : ¬ sl_P x1) :
    pt_Go YX7_mirror (0, [(0, pt_r 7 0), (1, pt_i x1), (2, pt_i x2)], [], M)
      (21, [(0, pt_r 7 0), (1, pt_i x1), (2, pt_i x2)], [pt_i 0], (pt_wF M 7 0 0 0)) :=
  pt_run_ok tX7_mirror_ok 7 [.inr (1, some (pt_i 0), (pt_wF M 7 0 0 0)), .inl true] (P := pt_Cal YX7_mirror (.invokestatic 85) [pt_i x1] (pt_wF M 7 0 0 0) (some (pt_i 0)) (pt_wF M 7 0 0 0) ∧ ((0 : Int32) = (0 : Int32)) ∧ True) (by with_unfolding_all rfl) ⟨(pt_callS kX7_mirror_85 mX7_isSlot rfl (dX7_isSlot_0 h1)), (by decide), trivial⟩
theorem dX7_mirror_p1 (x1 : Int32) (x2 : Int32)  (M : pt_M) (h1 : sl_P x1) (h2 : mA_P (pt_wF M 7 0 0 0) x2) (h3 : cc_P (120 * x2) (120 * x1)) (h4 : ng_P (120 * x1)) (h5 : pt_in x2 6) (h6 : pt_in x1 6) : pt_Does yX7_mirror YX7_mirror [pt_r 7 0, pt_i x1, pt_i x2] M (some (pt_i 1)) (pt_wA (ng_M (cc_M (pt_wF M 7 0 0 0) (120 * x2) (120 * x1)) (120 * x1)) 31 0 (upd (pt_A (ng_M (cc_M (pt_wF M 7 0 0 0) (120 * x2) (120 * x1)) (120 * x1)) 31 0) (pt_nt x1) (pt_A (ng_M (cc_M (pt_wF M 7 0 0 0) (120 * x2) (120 * x1)) (120 * x1)) 31 0 (pt_nt x2)))) :=
  rX7_mirror_55 pt_nar1 (Nat.le_of_ble_eq_true rfl) rfl (gX7_mirror_0_1 x1 x2 M h1 h2 h3 h4 h5 h6)
theorem dX7_mirror_p2 (x1 : Int32) (x2 : Int32)  (M : pt_M) (h1 : sl_P x1) (h2 : mN_P (pt_wF M 7 0 0 0) x2) : pt_Does yX7_mirror YX7_mirror [pt_r 7 0, pt_i x1, pt_i x2] M (some (pt_i 0)) (pt_wF M 7 0 0 0) :=
  rX7_mirror_21 pt_nar0 (Nat.le_of_ble_eq_true rfl) rfl (gX7_mirror_0_2 x1 x2 M h1 h2)
theorem dX7_mirror_p3 (x1 : Int32) (x2 : Int32)  (M : pt_M) (h1 : ¬ sl_P x1) : pt_Does yX7_mirror YX7_mirror [pt_r 7 0, pt_i x1, pt_i x2] M (some (pt_i 0)) (pt_wF M 7 0 0 0) :=
  rX7_mirror_21 pt_nar0 (Nat.le_of_ble_eq_true rfl) rfl (gX7_mirror_0_3 x1 x2 M h1)
theorem op_mirror {M : pt_M} (h : IV_P M) (x y : Int32) : op_P yX6_mirror YX6_mirror yX7_mirror YX7_mirror [pt_i x, pt_i y] M := by
  obtain ⟨A, hC, hM⟩ := h
  have zB : Nat → Nat → Nat → Bool := fun _ _ _ => false
  by_cases hx : sl_P x
  case neg =>
    have d7 : ∀ M, pt_Does yX7_mirror YX7_mirror [pt_r 7 0, pt_i x, pt_i y] M (some (pt_i 0)) (t0_M M) := fun M => dX7_mirror_p3 x y M hx
    rcases lw_case hC y with ⟨h1, h2⟩ | ⟨t, ht, rfl, hn⟩
    · exact op_of hC hM (A' := A) (dX6_mirror_p4 x y 0 zB id M h1 hx) mo_P.rf hC fun hM => ⟨d7 M, t0_ca, hM⟩
    · exact op_of hC hM (A' := A) (dX6_mirror_p2 x (nI t) 0 zB id M (CR_l1 hC ht hn).1 hx) mo_P.rf hC fun hM => ⟨d7 M, t0_ca, hM⟩
  obtain ⟨s, hs, rfl⟩ := sl_of hx
  rcases lw_case hC y with ⟨h1, h2⟩ | ⟨t, ht, rfl, hn⟩
  · exact op_of hC hM (A' := A) (dX6_mirror_p3 (nI s) y 0 zB id M h1 hx) mo_P.rf hC fun hM => ⟨dX7_mirror_p2 (nI s) y M hx (h2 M hM), t0_ca, hM⟩
  obtain ⟨q1, q2, q3, q4, q5, q6⟩ := CR_y hC ht hn
  have hl := CR_l1 hC ht hn
  have es : pt_nt (nI s) = s := pt_nt_nI (by omega)
  have et : pt_nt (nI t) = t := pt_nt_nI (by omega)
  have d1 := dX6_mirror (x1 := nI s) hl.1 (CR_kp hC hs) hl.2.1 (CR_ne hC ht)
  have hc : cc_P (120 * nI t) (120 * nI s) := ⟨120 * t, 120 * s, m120 t, m120 s, by omega, by omega, by omega⟩
  have hg : ng_P (120 * nI s) := ⟨120 * s, m120 s, by omega⟩
  refine op_ex hC hM (A' := iv_set A s (iv_N A t) fun i j k => iv_B A t i j k != true) d1 (mo_om.tr kt_mo) (CR_keep (CR_om hC) hs q1 q2) fun hM => ?_
  obtain ⟨p1, p2, p3⟩ := MR_y hM ht hn
  refine ⟨_, dX7_mirror_p1 (nI s) (nI t) _ hx p1 hc hg (pt_in_nI ht (by decide)) (pt_in_nI hs (by decide)), ((t0_ca.tr (ca_wA (by decide))).tr (ca_wA (by decide))).tr (ca_wA (by decide)), ?_⟩
  generalize kp_M (mt_F (om_M M (iv_N A t) fun i => i) (pt_R M 0) (iv_N A t) fun i j k => iv_B A t i j k != true) (nI s) = M1 at *
  have e32 : pt_A (pt_wA (ng_M (cc_M (pt_wF M1 7 0 0 0) (120 * nI t) (120 * nI s)) (120 * nI s)) 31 0 (upd (pt_A (ng_M (cc_M (pt_wF M1 7 0 0 0) (120 * nI t) (120 * nI s)) (120 * nI s)) 31 0) (pt_nt (nI s)) (pt_A (ng_M (cc_M (pt_wF M1 7 0 0 0) (120 * nI t) (120 * nI s)) (120 * nI s)) 31 0 (pt_nt (nI t))))) 32 0 = nf_F (cb_F (pt_A M1 32 0) (120 * t) (120 * s) 120) (120 * s) 120 := by
    show nf_F (cb_F (pt_A M1 32 0) (pt_nt (120 * nI t)) (pt_nt (120 * nI s)) 120) (pt_nt (120 * nI s)) 120 = _
    rw [m120, m120, pt_nt_nI (by omega), pt_nt_nI (by omega)]
  refine MR_slot hM hs rfl rfl rfl rfl rfl rfl rfl (fun q hq => ?_) (fun p g1 g2 => ?_) ⟨?_, Or.inr ⟨q1, ml_of (by omega) q2 fun i j k a1 a2 a3 => ?_⟩⟩
  · rw [pt_A_wA]
    unfold upd
    rw [es, if_neg hq]
    rfl
  · rw [e32]
    unfold nf_F
    rw [if_neg (by omega)]
    unfold cb_F
    rw [if_neg (by omega)]
  · rw [pt_A_wA]
    unfold upd
    rw [es, if_pos rfl, et]
    exact p2
  · obtain ⟨-, t2⟩ := th_nI a1 a2 (show k < 10 by omega)
    rw [e32]
    unfold nf_F
    rw [if_pos (by omega)]
    unfold cb_F
    rw [if_pos (by omega), show 120 * s + th_F i j k - 120 * s + 120 * t = 120 * t + th_F i j k by omega, p3.2.2.1 i j k a1 a2 a3, tv_neg]
    cases iv_B A t i j k <;> rfl
/-! table -/
theorem tp_0 {M : pt_M} {b : Nat → Nat} : tp_P (pt_wF M 4 1 0 0) 0 b := ⟨rfl, by decide, fun p hp => absurd hp (Nat.not_lt_zero p)⟩
theorem mp_0 {M : pt_M} {b : Nat → Nat} : mp_P M 0 b := ⟨by decide, fun p hp => absurd hp (Nat.not_lt_zero p)⟩
theorem CR_t0 {M : pt_M} {A : iv_A} (h : CR_P M A) : CR_P (pt_wF M 4 1 0 0) (0, iv_b A, A.2.2) := CR_tp h tp_0 (fun k hk => funext fun f => funext fun i => if_neg fun z => hk z.1) (fun _ _ => rfl) rfl
theorem MR_tk {M : pt_M} {A : iv_A} (h : MR_P M A) : MR_P (tk_M (t0_M M)) (0, iv_b A, A.2.2) := MR_tp h rfl mp_0 rfl rfl (fun _ _ => rfl)
theorem ca_tk {M : pt_M} : ca_P M (tk_M (t0_M M)) := (t0_ca.tr ca_wF).tr ca_wF
theorem sz_of {x : Int32} (h : sz_P x) : ∃ n, 3 ≤ n ∧ n ≤ 10 ∧ x = nI n := by
  have h0 : ¬ x < 0 := fun z => h.1 (by
    have z1 := Int32.lt_iff_toInt_lt.mp z
    exact Int32.lt_iff_toInt_lt.mpr (by
      have e0 : (0 : Int32).toInt = 0 := rfl
      have e3 : (3 : Int32).toInt = 3 := rfl
      omega))
  obtain ⟨n, hn, rfl⟩ := nI_of h0
  have a := h.1
  have b := h.2
  rw [show (3 : Int32) = nI 3 from rfl, nI_ltI hn (by decide)] at a
  rw [show (10 : Int32) = nI 10 from rfl, nI_ltI (by decide) hn] at b
  exact ⟨n, by omega, by omega, rfl⟩
theorem sl_ca {M : pt_M} {o s n : Nat} {S : Nat → Nat → Nat → Bool} : ca_P M (sl_M (st_M M o n S) s n) := (ca_wA (by decide)).tr (ca_wA (by decide))
theorem MR_st {M : pt_M} {A : iv_A} {s n : Nat} {S : Nat → Nat → Nat → Bool} (h : MR_P M A) (hs : s < 6) (h3 : 3 ≤ n) (hn : n ≤ 10) : MR_P (sl_M (st_M M (120 * s) n S) s n) (iv_set A s n S) := by
  refine MR_slot h hs rfl rfl rfl rfl rfl rfl rfl (fun q hq => ?_) (fun p g1 g2 => ?_) ⟨?_, Or.inr ⟨h3, ml_A (st_ml (M := M) (s := S) (by omega) hn) rfl⟩⟩
  · unfold sl_M
    rw [pt_A_wA]
    unfold upd
    rw [if_neg hq]
    rfl
  · show pt_A (st_M M (120 * s) n S) 32 0 p = _
    unfold st_M
    rw [pt_A_wA]
    exact sm_out g2
  · unfold sl_M
    rw [pt_A_wA]
    unfold upd
    rw [if_pos rfl]
theorem op_table {M : pt_M} (h : IV_P M) (x y : Int32) : op_P yX6_table YX6_table yX7_table YX7_table [pt_i x, pt_i y] M := by
  obtain ⟨A, hC, hM⟩ := h
  have fail : pt_Does yX6_tableByTape YX6_tableByTape [pt_r 2 0, pt_i x, pt_i y] M (some (pt_i 0)) M → (∀ M', MR_P M' A → pt_Does yX7_table YX7_table [pt_r 7 0, pt_i x, pt_i y] M' (some (pt_i 0)) (tk_M (t0_M M'))) → op_P yX6_table YX6_table yX7_table YX7_table [pt_i x, pt_i y] M := fun d1 d2 => op_of hC hM (dX6_table_p1 x y 0 M M d1 pt_nar0) (mo_wF (by decide)) (CR_t0 hC) fun hM => ⟨d2 _ hM, ca_tk, MR_tk hM⟩
  have no : ∀ {M'}, pt_Go YX7_table (0, [(0, pt_r 7 0), (1, pt_i x), (2, pt_i y)], [], M') (50, [(0, pt_r 7 0), (1, pt_i x), (2, pt_i y)], [pt_i 0], tk_M (pt_wF M' 7 0 0 0)) → pt_Does yX7_table YX7_table [pt_r 7 0, pt_i x, pt_i y] M' (some (pt_i 0)) (tk_M (t0_M M')) := fun g => rX7_table_50 rfl (Nat.le_of_ble_eq_true rfl) rfl g
  by_cases hx : sl_P x
  case neg => exact fail (dX6_tableByTape_p4 x y 0 M hx) fun M' _ => no (gX7_table_0_5 x y M' hx)
  by_cases hy : sz_P y
  case neg =>
    refine fail (dX6_tableByTape_p3 x y 0 M hx hy) fun M' _ => no ?_
    by_cases c1 : y < 3
    · exact gX7_table_0_4 x y M' hx c1
    · by_cases c2 : 10 < y
      · exact gX7_table_0_3 x y M' hx c1 c2
      · exact absurd ⟨c1, c2⟩ hy
  obtain ⟨s, hs, rfl⟩ := sl_of hx
  obtain ⟨n, h3, hn, rfl⟩ := sz_of hy
  have hL := hC.1.2.1
  have hto := (to_nI hn).1
  have h120 := (to_nI hn).2
  have e8 : pt_F M 4 1 0 * 8 = nI (iv_L A * 8) := by rw [hC.1.1]; exact pk_mul (iv_L A) 8
  by_cases hc : rk_0 n n ≤ iv_L A * 8
  · have d1 := dX6_tableByTape (x1 := nI s) (CR_kp hC hs) h3 hn hC.1 hc
    have hS : ∀ i j k, i < j → j < k → k < n → (!(iv_b A (rk_F n i j k / 8)).testBit (7 - rk_F n i j k % 8)) = decide (pt_A (tw_M M (rk_0 n n) (iv_b A)) 24 0 (rk_F n i j k) = 1) := fun i j k a1 a2 a3 => by
      obtain ⟨r1, r2⟩ := rk_lt n hn i (by omega) j (by omega) k a3 a1 a2
      unfold tw_M
      rw [pt_A_wA]
      unfold co_F tb_W
      rw [if_pos r1]
      cases (iv_b A (rk_F n i j k / 8)).testBit (7 - rk_F n i j k % 8) <;> decide
    have hCt : CR_P (tw_M M (rk_0 n n) (iv_b A)) A := CR_wA hC (by decide) (by decide) (by decide) (by decide) (by decide) (by decide)
    refine op_of hC hM (dX6_table_p1 (nI s) (nI n) 1 _ M d1 pt_nar1) (((mo_wA (by decide)).tr kt_mo).tr (mo_wF (by decide))) (CR_t0 (CR_keep hCt hs h3 hn)) fun hM => ⟨dX7_table hs h3 hn hM.1 hM.2.1 (by omega), ca_tk.tr sl_ca, ?_⟩
    have r := MR_st (S := fun i j k => !(iv_b A (rk_F n i j k / 8)).testBit (7 - rk_F n i j k % 8)) (MR_tk hM) hs h3 hn
    generalize sl_M (st_M (tk_M (t0_M (pt_wF (kp_M (mt_F (tw_M M (rk_0 n n) (iv_b A)) (pt_R M 0) n fun i j k => decide (pt_A (tw_M M (rk_0 n n) (iv_b A)) 24 0 (rk_F n i j k) = 1)) (nI s)) 4 1 0 0))) (120 * s) n fun i j k => !(iv_b A (rk_F n i j k / 8)).testBit (7 - rk_F n i j k % 8)) s n = M2 at *
    obtain ⟨r1, r2, r3, r4, r5, r6, r7⟩ := r
    refine ⟨r1, r2, fun q hq => ?_, r4, r5, r6, r7⟩
    have r3 := r3 q hq
    by_cases e : q = s
    · subst e
      rw [iv_s1.1, iv_s1.2, nB_cong hS] at r3
      show ms_P M2 q (iv_N (iv_set A q n _) q) (iv_B (iv_set A q n _) q)
      rw [iv_s1.1, iv_s1.2]
      exact r3
    · rw [(iv_s2 e).1, (iv_s2 e).2] at r3
      show ms_P M2 q (iv_N (iv_set A s n _) q) (iv_B (iv_set A s n _) q)
      rw [(iv_s2 e).1, (iv_s2 e).2]
      exact r3
  · refine fail (dX6_tableByTape_p1 (nI s) (nI n) 0 M hx hy (by rw [hto, e8]; exact nI_ge (by omega) (by omega))) fun M' hM' => no (gX7_table_0_1 (nI s) (nI n) M' hx hy.1 hy.2 ?_)
    have hz : pt_F (tk_M (pt_wF M' 7 0 0 0)) 7 3 0 = nI (iv_L A) := hM'.1
    have e9 : (8 : Int32) * nI (iv_L A) = nI (8 * iv_L A) := pk_mul 8 _
    have hto' : ((nI n * (nI n - 1)) * (nI n - 2)) / 6 = nI (rk_0 n n) := hto
    rw [hz, hto', e9]
    exact nI_ge (by omega) (by omega)
