/-! code -/
theorem cq_1 {f w : Nat → Int32} {N : Nat} : (∃ v, v < N ∧ ¬ f v = w v ∧ (∀ q, q < v → f q = w q) ∧ cq_F f w N = cp_F (f v) (w v)) ∨ ((∀ q, q < N → f q = w q) ∧ cq_F f w N = 0) := by
  have e : (fun p => if f p = w p then none else some p) = fun p => if (!decide (f p = w p)) = true then some p else none := by
    funext p
    by_cases c : f p = w p
    · simp [c]
    · simp [c]
  unfold cq_F
  cases hf : fs_F (N - 0) 0 (fun p => if f p = w p then none else some p) with
  | none =>
    refine .inr ⟨fun q hq => ?_, rfl⟩
    have := fs_none.mp hf q (by omega) (by omega)
    by_cases c : f q = w q
    · exact c
    · rw [if_neg c] at this
      cases this
  | some v =>
    rw [e] at hf
    obtain ⟨a1, a2, a3, a4⟩ := fs_fst (P := fun p => !decide (f p = w p)) hf
    refine .inl ⟨v, by omega, ?_, fun q hq => ?_, rfl⟩
    · simpa using a4
    · simpa using a1 q (by omega) hq
theorem cq_cg {f f' w w' : Nat → Int32} {N : Nat} (h : ∀ p, p < N → f p = f' p) (h' : ∀ p, p < N → w p = w' p) : cq_F f w N = cq_F f' w' N := by
  rcases cq_1 (f := f) (w := w) (N := N) with ⟨v, v1, v2, v3, v4⟩ | ⟨v3, v4⟩ <;> rcases cq_1 (f := f') (w := w') (N := N) with ⟨u, u1, u2, u3, u4⟩ | ⟨u3, u4⟩
  · have : u = v := by
      rcases Nat.lt_trichotomy u v with c | c | c
      · exact absurd ((h u u1).symm.trans ((v3 u c).trans (h' u u1))) u2
      · exact c
      · exact absurd ((h v v1).trans ((u3 v c).trans (h' v v1).symm)) v2
    rw [v4, u4, this, h v v1, h' v v1]
  · exact absurd ((h v v1).trans ((u3 v v1).trans (h' v v1).symm)) v2
  · exact absurd ((h u u1).symm.trans ((v3 u u1).trans (h' u u1))) u2
  · rw [v4, u4]
theorem cq_mc {f w : Nat → Int32} {N : Nat} (hf : ∀ p, p < N → f p = 1 ∨ f p = 2) (hw : ∀ p, p < N → w p = 1 ∨ w p = 2) : 0 < cq_F f w N ↔ mc_F w f N < 0 := by
  rcases cq_1 (f := f) (w := w) (N := N) with ⟨v, v1, v2, v3, v4⟩ | ⟨v3, v4⟩ <;> rcases mc_1 (f := w) (w := f) (N := N) with ⟨u, u1, u2, u3, u4⟩ | ⟨u3, u4⟩
  · have : u = v := by
      rcases Nat.lt_trichotomy u v with c | c | c
      · exact absurd (v3 u c).symm u2
      · exact c
      · exact absurd (u3 v c).symm v2
    rw [v4, u4, this]
    rcases hf v v1 with a | a <;> rcases hw v v1 with b | b <;> rw [a, b] <;> decide
  · exact absurd (u3 v v1).symm v2
  · exact absurd (v3 u u1).symm u2
  · rw [v4, u4]
theorem cq_0 {f w : Nat → Int32} {N : Nat} : cq_F f w N = 0 ↔ ∀ p, p < N → f p = w p := by
  rcases cq_1 (f := f) (w := w) (N := N) with ⟨v, v1, v2, v3, v4⟩ | ⟨v3, v4⟩
  · constructor
    · intro z
      rw [v4] at z
      unfold cp_F at z
      rw [if_neg v2] at z
      split at z
      · exact absurd z (by decide)
      · exact absurd z (by decide)
    · exact fun z => absurd (z v v1) v2
  · exact ⟨fun _ => v3, fun _ => v4⟩
theorem mc_0 {f w : Nat → Int32} {N : Nat} (hf : ∀ p, p < N → f p = 1 ∨ f p = 2) (hw : ∀ p, p < N → w p = 1 ∨ w p = 2) : mc_F f w N = 0 ↔ ∀ p, p < N → f p = w p := by
  rcases mc_1 (f := f) (w := w) (N := N) with ⟨v, v1, v2, v3, v4⟩ | ⟨v3, v4⟩
  · constructor
    · intro z
      rw [v4] at z
      rcases hf v v1 with a | a <;> rcases hw v v1 with b | b
      · exact absurd (a.trans b.symm) v2
      · rw [a, b] at z
        exact absurd z (by decide)
      · rw [a, b] at z
        exact absurd z (by decide)
      · exact absurd (a.trans b.symm) v2
    · exact fun z => absurd (z v v1) v2
  · exact ⟨fun _ => v3, fun _ => v4⟩
theorem MR_ck {M M' : pt_M} {A : iv_A} (h : MR_P M A) (hF : pt_F M' 7 = pt_F M 7) (e : ∀ k, k = 30 ∨ k = 31 ∨ k = 32 ∨ k = 41 ∨ k = 44 ∨ k = 45 → pt_A M' k 0 = pt_A M k 0) : MR_P M' A := by
  obtain ⟨q1, q2, q3, q4, q5, q6, q7⟩ := h
  refine ⟨by rw [hF]; exact q1, mp_A q2 (e 30 (by decide)), fun s hs => ⟨?_, ?_⟩, by rw [hF]; exact q4, by rw [hF]; exact q5, fun p hp => ?_, fun n a b => ?_⟩
  · rw [e 31 (by decide)]
    exact (q3 s hs).1
  · exact (q3 s hs).2.imp id fun z => ⟨z.1, ml_A z.2 (e 32 (by decide))⟩
  · rw [e 41 (by decide)]
    exact q6 p hp
  · rw [e 44 (by decide), e 45 (by decide)]
    exact q7 n a b
theorem ck_MR {M M' : pt_M} {A : iv_A} (h : MR_P M A) (k : ck_P M M') : MR_P M' A := MR_ck h (by rw [k.1]) fun x hx => k.2.1 x 0 (by omega) (by omega) (by omega) (by omega)
theorem ca_ck {M M' : pt_M} (k : ck_P M M') : ca_P M M' := ⟨fun x _ => by rw [k.1], fun x hx => funext fun i => k.2.1 x i (by omega) (by omega) (by omega) (by omega), congrArg (fun z => z.2.1) k.2.2⟩
theorem cd_12 {n : Nat} {B : Nat → Nat → Nat → Bool} (h : lw_P n B) (h3 : 3 ≤ n) : ∀ p, p < rk_0 n n → cd_F n B p = 1 ∨ cd_F n B p = 2 := by
  unfold cd_F
  split
  · exact fr_n h h3
  · exact fr_n h h3
theorem rX7_code_14 {vs : List pt_V} {M M' : pt_M} {x : Int32} {L : List (Nat × pt_V)} (hvs : (vs.map pt_w).sum ≤ 3) (hX : M'.2.2.2.2 = M.2.2.2.2) (h : pt_Go YX7_code (0, pt_en 0 vs, [], M) (14, L, [pt_i x], M')) : pt_Does yX7_code YX7_code vs M (some (pt_i x)) M' := pt_does_go tX7_code_ok nX7_code hvs hX ⟨_, by with_unfolding_all rfl, rfl, _, rfl, rfl⟩ h
theorem rX7_code_75 {vs : List pt_V} {M M' : pt_M} {x : Int32} {L : List (Nat × pt_V)} (hvs : (vs.map pt_w).sum ≤ 3) (hX : M'.2.2.2.2 = M.2.2.2.2) (h : pt_Go YX7_code (0, pt_en 0 vs, [], M) (75, L, [pt_i x], M')) : pt_Does yX7_code YX7_code vs M (some (pt_i x)) M' := pt_does_go tX7_code_ok nX7_code hvs hX ⟨_, by with_unfolding_all rfl, rfl, _, rfl, rfl⟩ h
set_option maxRecDepth 100000 in
theorem gX7_code_0_1 (x1 : Int32) (M2 M3 : pt_M) (M : pt_M) (h1 : pt_Does yX7_isLawful YX7_isLawful [pt_r 7 0, pt_i x1] (pt_wF M 7 0 0 0) (some (pt_i 1)) M2) (h2 : pt_in x1 6) (h3 : pt_Does yX7_codeOf YX7_codeOf [pt_r 7 0, pt_i (120 * x1), pt_i (pt_A M2 31 0 (pt_nt x1))] M2 none M3) :
    pt_Go YX7_code (0, [(0, pt_r 7 0), (1, pt_i x1)], [], M)
      (44, [(0, pt_r 7 0), (2, pt_i 0)], [], (pt_wF M3 7 16 0 (to_F (pt_A M3 31 0 (pt_nt x1))))) :=
  (pt_run_ok tX7_code_ok 25 [.inr (2, some (pt_i 1), M2), .inl true, .inr (3, none, M3), .inr (1, some (pt_i (to_F (pt_A M3 31 0 (pt_nt x1)))), M3)] (P := pt_Cal YX7_code (.invokevirtual 141) [pt_r 7 0, pt_i x1] (pt_wF M 7 0 0 0) (some (pt_i 1)) M2 ∧ (¬ (1 : Int32) = (0 : Int32)) ∧ (pt_in x1 6) ∧ pt_Cal YX7_code (.invokevirtual 171) [pt_r 7 0, pt_i (120 * x1), pt_i (pt_A M2 31 0 (pt_nt x1))] M2 none M3 ∧ (pt_in x1 6) ∧ pt_Cal YX7_code (.invokestatic 161) [pt_i (pt_A M3 31 0 (pt_nt x1))] M3 (some (pt_i (to_F (pt_A M3 31 0 (pt_nt x1))))) M3 ∧ True) (by with_unfolding_all rfl) ⟨(pt_callV (i := 0) kX7_code_141 mX7_isLawful rfl (by decide) rfl h1), (by decide), h2, (pt_callV (i := 0) kX7_code_171 mX7_codeOf rfl (by decide) rfl h3), h2, (pt_callS kX7_code_161 mX7_threesOf rfl (dX7_threesOf (pt_A M3 31 0 (pt_nt x1)) M3)), trivial⟩ : pt_Go YX7_code _ (44, [(0, pt_r 7 0), (1, pt_i x1), (2, pt_i 0)], [], (pt_wF M3 7 16 0 (to_F (pt_A M3 31 0 (pt_nt x1)))))).tr (pt_pick [0, 2] (by with_unfolding_all rfl))
set_option maxRecDepth 100000 in
theorem gX7_code_0_2 (x1 : Int32) (M2 M3 : pt_M) (M : pt_M) (h1 : pt_Does yX7_isLawful YX7_isLawful [pt_r 7 0, pt_i x1] (pt_wF M 7 0 0 0) (some (pt_i 0)) M2) :
    pt_Go YX7_code (0, [(0, pt_r 7 0), (1, pt_i x1)], [], M)
      (14, [(0, pt_r 7 0), (1, pt_i x1)], [pt_i (-1)], M2) :=
  pt_run_ok tX7_code_ok 8 [.inr (2, some (pt_i 0), M2), .inl false] (P := pt_Cal YX7_code (.invokevirtual 141) [pt_r 7 0, pt_i x1] (pt_wF M 7 0 0 0) (some (pt_i 0)) M2 ∧ ((0 : Int32) = (0 : Int32)) ∧ True) (by with_unfolding_all rfl) ⟨(pt_callV (i := 0) kX7_code_141 mX7_isLawful rfl (by decide) rfl h1), (by decide), trivial⟩
set_option maxRecDepth 100000 in
theorem gX7_code_44_1 (l2 : Int32) (M2 M3 : pt_M) (M : pt_M) (h1 : ¬ (pt_F M 7 16 0) ≤ l2) (h2 : pt_in l2 120) :
    pt_Go YX7_code (44, [(0, pt_r 7 0), (2, pt_i l2)], [], M)
      (44, [(0, pt_r 7 0), (2, pt_i (l2 + 1))], [], (pt_wA M 41 0 (upd (pt_A M 41 0) (pt_nt l2) (((pt_A M 38 0 (pt_nt l2)).toInt8.toInt32).toInt8.toInt32)))) :=
  pt_run_ok tX7_code_ok 15 [.inl false] (P := (¬ (pt_F M 7 16 0) ≤ l2) ∧ (pt_in l2 120) ∧ (pt_in l2 120) ∧ True) (by with_unfolding_all rfl) ⟨h1, h2, h2, trivial⟩
set_option maxRecDepth 100000 in
theorem gX7_code_44_2 (l2 : Int32) (M2 M3 : pt_M) (M : pt_M) (h1 : (pt_F M 7 16 0) ≤ l2) :
    pt_Go YX7_code (44, [(0, pt_r 7 0), (2, pt_i l2)], [], M)
      (75, [(0, pt_r 7 0), (2, pt_i l2)], [pt_i (pt_F M 7 16 0)], M) :=
  pt_run_ok tX7_code_ok 6 [.inl true] (P := ((pt_F M 7 16 0) ≤ l2) ∧ True) (by with_unfolding_all rfl) ⟨h1, trivial⟩
theorem dX7_code_y {s n : Nat} {B : Nat → Nat → Nat → Bool} {M M2 : pt_M} (hs : s < 6) (hl : pt_Does yX7_isLawful YX7_isLawful [pt_r 7 0, pt_i (nI s)] (pt_wF M 7 0 0 0) (some (pt_i 1)) M2) (hN : pt_A M2 31 0 s = nI n) (hml : ml_P M2 (120 * s) n B) (h : lw_P n B) (hd : dg_P n B) (h3 : 3 ≤ n) : ∃ M3 g, pt_Does yX7_code YX7_code [pt_r 7 0, pt_i (nI s)] M (some (pt_i (nI (rk_0 n n)))) (pt_wF (pt_wA M3 41 0 g) 7 16 0 (nI (rk_0 n n))) ∧ ck_P M2 M3 ∧ ∀ p, p < rk_0 n n → g p = cd_F n B p := by
  have hn := h.1
  have hcn := to_nI hn
  have es : pt_nt (nI s) = s := pt_nt_nI (by omega)
  obtain ⟨M3, d, k, a⟩ := dX7_codeOf hml h hd h3
  have g0 := gX7_code_0_1 (nI s) M2 M3 M hl (pt_in_nI hs (by decide)) (by rw [m120, es, hN]; exact d)
  have e31 : pt_A M3 31 0 (pt_nt (nI s)) = nI n := by rw [es, k.2.1 31 0 (by decide) (by decide) (by decide) (by decide)]; exact hN
  rw [e31, hcn.1] at g0
  have hX : M3.2.2.2.2 = M.2.2.2.2 := (congrArg (fun z => z.2.2) k.2.2).trans (dX_x5 hl)
  have hfN : pt_F (pt_wF M3 7 16 0 (nI (rk_0 n n))) 7 16 0 = nI (rk_0 n n) := by rw [pt_F_wF, if_pos ⟨rfl, rfl, rfl⟩]
  generalize hw : (fun p => ((pt_A M3 38 0 p).toInt8.toInt32).toInt8.toInt32) = w
  have hwv : ∀ p, p < rk_0 n n → w p = cd_F n B p := fun p hp => by
    rw [← hw]
    show ((pt_A M3 38 0 p).toInt8.toInt32).toInt8.toInt32 = _
    rw [a p hp]
    rcases cd_12 h h3 p hp with e | e <;> rw [e] <;> decide
  have K := pt_for0 (Y := YX7_code) (fun q => (44, [(0, pt_r 7 0), (2, pt_i (nI q))], [], pt_wA (pt_wF M3 7 16 0 (nI (rk_0 n n))) 41 0 (co_F (pt_A M3 41 0) w q))) (n := rk_0 n n) fun q hq => by
    have h120 := hcn.2
    refine (gX7_code_44_1 (nI q) M3 M3 _ (by rw [pt_F_wA, hfN]; exact nI_ge hq (by omega)) (pt_in_nI (by omega) (by decide))).to ?_
    have e : pt_A (pt_wA (pt_wF M3 7 16 0 (nI (rk_0 n n))) 41 0 (co_F (pt_A M3 41 0) w q)) 38 0 = pt_A M3 38 0 := rfl
    have e2 : ((pt_A M3 38 0 q).toInt8.toInt32).toInt8.toInt32 = w q := by rw [← hw]
    rw [wA_2 _ _ _ _ (by omega), e, pt_nt_nI (by omega), e2, co_step, nI_1]
  have e0 : pt_wA (pt_wF M3 7 16 0 (nI (rk_0 n n))) 41 0 (co_F (pt_A M3 41 0) w 0) = pt_wF M3 7 16 0 (nI (rk_0 n n)) := by
    rw [co_zero]
    exact pt_wA_self (pt_wF M3 7 16 0 (nI (rk_0 n n))) 41 0
  rw [e0] at K
  have g2 := gX7_code_44_2 (nI (rk_0 n n)) M3 M3 (pt_wA (pt_wF M3 7 16 0 (nI (rk_0 n n))) 41 0 (co_F (pt_A M3 41 0) w (rk_0 n n))) (by rw [pt_F_wA, hfN]; exact Int32.le_refl _)
  rw [pt_F_wA, hfN] at g2
  exact ⟨M3, co_F (pt_A M3 41 0) w (rk_0 n n), rX7_code_75 (Nat.le_of_ble_eq_true rfl) (show (pt_wA (pt_wF M3 7 16 0 (nI (rk_0 n n))) 41 0 (co_F (pt_A M3 41 0) w (rk_0 n n))).2.2.2.2 = M.2.2.2.2 from hX) (g0.tr (K.tr g2)), k, fun p hp => (if_pos hp).trans (hwv p hp)⟩
theorem op_code {M : pt_M} (h : IV_P M) (x : Int32) : op_P yX6_code YX6_code yX7_code YX7_code [pt_i x] M := by
  obtain ⟨A, hC, hM⟩ := h
  have zB : Nat → Nat → Nat → Bool := fun _ _ _ => false
  rcases lw_case hC x with ⟨h1, h2⟩ | ⟨s, hs, rfl, hn⟩
  · exact op_of hC hM (A' := A) (M2 := t0_M M) (dX6_code_p4 x 0 zB 0 M h1) mo_P.rf hC fun hM => ⟨rX7_code_14 (Nat.le_of_ble_eq_true rfl) rfl (gX7_code_0_2 x (t0_M M) M M (il_0 (h2 M hM))), t0_ca, hM⟩
  obtain ⟨q1, q2, q3, q4, q5, q6⟩ := CR_y hC hs hn
  have hM1 := MR_mo hM (mo_wm (x := nI s) (n := iv_N A s) (B := iv_B A s))
  have hC1 := CR_wm hC hs hn
  have es : pt_nt (nI s) = s := pt_nt_nI (by omega)
  by_cases hz : wy_F (iv_N A s) (iv_B A s) = 0
  · have hl := CR_lA hC hs hn hz
    have hlw : lw_P (iv_N A s) (iv_B A s) := lw_of q2 nB_sy hz
    have htb : tb_P (wl_M M (nI s) (iv_N A s) (iv_B A s)) (pt_R M (s + 1)) (iv_N A s) (iv_B A s) := by
      have := hl.2.1
      rw [es] at this
      exact this
    have hC2 : CR_P (fw_M (wl_M M (nI s) (iv_N A s) (iv_B A s)) (pt_R M (s + 1)) (iv_N A s) (iv_B A s)) A := CR_fw hC1 hs hn hlw
    have hfr : fr_H (wl_M M (nI s) (iv_N A s) (iv_B A s)) (pt_R M (s + 1)) (iv_N A s) (iv_B A s) := ⟨htb, lq_of hlw iv_dg, hC1.2.2.2.2.1⟩
    have hA := fw_A hlw iv_dg q1 (CR_y hC1 hs hn).2.2.2.2.2
    have hA : ∀ p, p < rk_0 (iv_N A s) (iv_N A s) → pt_A (fw_M (wl_M M (nI s) (iv_N A s) (iv_B A s)) (pt_R M (s + 1)) (iv_N A s) (iv_B A s)) 12 (pt_R M (s + 1)) p = fr_R (iv_N A s) (iv_B A s) false (iv_N A s) p ∧ pt_A (fw_M (wl_M M (nI s) (iv_N A s) (iv_B A s)) (pt_R M (s + 1)) (iv_N A s) (iv_B A s)) 13 (pt_R M (s + 1)) p = fr_R (iv_N A s) (iv_B A s) true (iv_N A s) p := hA
    have hcn := to_nI q2
    have hsz : to_F (pt_F (fw_M (wl_M M (nI s) (iv_N A s) (iv_B A s)) (pt_R M (s + 1)) (iv_N A s) (iv_B A s)) 3 0 (pt_R M (s + 1))) = nI (rk_0 (iv_N A s) (iv_N A s)) := by
      rw [fw_f q2 (by omega), htb.2.2.1]
      exact hcn.1
    have hmw : mo_P M (fw_M (wl_M M (nI s) (iv_N A s) (iv_B A s)) (pt_R M (s + 1)) (iv_N A s) (iv_B A s)) := mo_wm.tr (mo_fw q2)
    have hcmp : 0 < cq_F (pt_A (fw_M (wl_M M (nI s) (iv_N A s) (iv_B A s)) (pt_R M (s + 1)) (iv_N A s) (iv_B A s)) 12 (pt_R M (s + 1))) (pt_A (fw_M (wl_M M (nI s) (iv_N A s) (iv_B A s)) (pt_R M (s + 1)) (iv_N A s) (iv_B A s)) 13 (pt_R M (s + 1))) (rk_0 (iv_N A s) (iv_N A s)) ↔ mc_F (fr_R (iv_N A s) (iv_B A s) true (iv_N A s)) (fr_R (iv_N A s) (iv_B A s) false (iv_N A s)) (rk_0 (iv_N A s) (iv_N A s)) < 0 := by
      rw [cq_cg (fun p hp => (hA p hp).1) fun p hp => (hA p hp).2]
      exact cq_mc (fr_n hlw q1) (fr_n hlw q1)
    have mod : ∀ M1, MR_P M1 A → ∃ M2, pt_Does yX7_code YX7_code [pt_r 7 0, pt_i (nI s)] M1 (some (pt_i (nI (rk_0 (iv_N A s) (iv_N A s))))) M2 ∧ ca_P M1 M2 ∧ MR_P M2 (iw_A A (rk_0 (iv_N A s) (iv_N A s)) (cd_F (iv_N A s) (iv_B A s))) := fun M1 hM => by
      obtain ⟨g, hg⟩ := il_t hM hs hn hz
      have y := MR_y (MR_36 (g := g) hM) hs hn
      obtain ⟨M3, f, d, k, e⟩ := dX7_code_y hs hg y.2.1 y.2.2 hlw iv_dg q1
      exact ⟨_, d, (ca_t36.tr (ca_ck k)).tr ((ca_wA (by decide)).tr ca_wF), MR_out (ck_MR (MR_36 hM) k) e⟩
    have t7 := htb.1
    by_cases c : mc_F (fr_R (iv_N A s) (iv_B A s) true (iv_N A s)) (fr_R (iv_N A s) (iv_B A s) false (iv_N A s)) (rk_0 (iv_N A s) (iv_N A s)) < 0
    · have d1 := dX6_code_p2 (nI s) (iv_N A s) (iv_B A s) (rk_0 (iv_N A s) (iv_N A s)) M hl
      rw [es] at d1
      have d1 := d1 hfr (hcmp.mpr c) t7 ⟨hsz, hcn.2⟩
      have eC : cd_F (iv_N A s) (iv_B A s) = fr_R (iv_N A s) (iv_B A s) true (iv_N A s) := if_pos c
      exact op_ex hC hM (A' := iw_A A (rk_0 (iv_N A s) (iv_N A s)) (cd_F (iv_N A s) (iv_B A s))) (r := nI (rk_0 (iv_N A s) (iv_N A s))) d1 (hmw.tr mo_out) (CR_out hC2 hcn.2 fun p hp => by rw [eC]; exact (hA p hp).2) fun hM => mod _ hM
    · have d1 := dX6_code_p1 (nI s) (iv_N A s) (iv_B A s) (rk_0 (iv_N A s) (iv_N A s)) M hl
      rw [es] at d1
      have d1 := d1 hfr (fun z => c (hcmp.mp z)) t7 ⟨hsz, hcn.2⟩
      have eC : cd_F (iv_N A s) (iv_B A s) = fr_R (iv_N A s) (iv_B A s) false (iv_N A s) := if_neg c
      exact op_ex hC hM (A' := iw_A A (rk_0 (iv_N A s) (iv_N A s)) (cd_F (iv_N A s) (iv_B A s))) (r := nI (rk_0 (iv_N A s) (iv_N A s))) d1 (hmw.tr mo_out) (CR_out hC2 hcn.2 fun p hp => by rw [eC]; exact (hA p hp).1) fun hM => mod _ hM
  · obtain ⟨g, hg⟩ := il_f hM1 hs hn hz
    exact op_of hC hM (A' := A) (M2 := pt_wA (t0_M (wl_M M (nI s) (iv_N A s) (iv_B A s))) 36 0 g) (dX6_code_p3 (nI s) (iv_N A s) (iv_B A s) 0 M (CR_lN hC hs hn hz)) mo_wm hC1 fun hM => ⟨rX7_code_14 (Nat.le_of_ble_eq_true rfl) rfl (gX7_code_0_2 (nI s) _ M _ hg), ca_t36, MR_36 hM⟩
