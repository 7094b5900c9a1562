/-! CALLS ON BOTH SIDES: swept, to the end -/
theorem MR_S {M : pt_M} {A : iv_A} {s n : Nat} {S S' : Nat → Nat → Nat → Bool} (h : MR_P M (iv_set A s n S)) (hS : ∀ i j k, i < j → j < k → k < n → S i j k = S' i j k) : MR_P M (iv_set A s n S') := by
  obtain ⟨r1, r2, r3, r4, r5, r6, r7⟩ := h
  refine ⟨r1, r2, fun q hq => ?_, r4, r5, r6, r7⟩
  have r3 := r3 q hq
  by_cases e : q = s
  · subst e
    rw [iv_s1.1, iv_s1.2, nB_cong hS] at r3
    rw [iv_s1.1, iv_s1.2]
    exact r3
  · rw [(iv_s2 e).1, (iv_s2 e).2] at r3
    rw [(iv_s2 e).1, (iv_s2 e).2]
    exact r3
theorem fs_same {n : Nat} {b : Nat → Nat} {f g : Nat → Int32} (hn : n ≤ 10) (hr : rk_P n b (sN_F n)) {i j k : Nat} (a1 : i < j) (a2 : j < k) (a3 : k < n) : fs_S (sf_F f b (sN_F n)) i j k = fs_S (sf_F g b (sN_F n)) i j k := by
  unfold fs_S
  rw [sf_same (f := f) (g := g) hn (sN_F n) hr j k (by omega) a3 (ww_all hn hr a2 a3), sf_same (f := f) (g := g) hn (sN_F n) hr i j (by omega) (by omega) (ww_all hn hr a1 (by omega))]
theorem op_swept {M : pt_M} (h : IV_P M) (x y : Int32) : op_P yX6_swept YX6_swept yX7_swept YX7_swept [pt_i x, pt_i y] M := by
  obtain ⟨A, hC, hM⟩ := h
  have fail : pt_Does yX6_sweptByTape YX6_sweptByTape [pt_r 2 0, pt_i x, pt_i y] M (some (pt_i 0)) M → (∀ M', MR_P M' A → pt_Does yX7_swept YX7_swept [pt_r 7 0, pt_i x, pt_i y] M' (some (pt_i 0)) (tk_M (t0_M M'))) → op_P yX6_swept YX6_swept yX7_swept YX7_swept [pt_i x, pt_i y] M := fun d1 d2 => op_of hC hM (dX6_swept_p1 x y 0 M M d1 pt_nar0) (mo_wF (by decide)) (CR_t0 hC) fun hM => ⟨d2 _ hM, ca_tk, MR_tk hM⟩
  have no : ∀ {M'}, pt_Go YX7_swept (0, [(0, pt_r 7 0), (1, pt_i x), (2, pt_i y)], [], M') (42, [(0, pt_r 7 0), (1, pt_i x), (2, pt_i y)], [pt_i 0], tk_M (pt_wF M' 7 0 0 0)) → pt_Does yX7_swept YX7_swept [pt_r 7 0, pt_i x, pt_i y] M' (some (pt_i 0)) (tk_M (t0_M M')) := fun g => rX7_swept_42 rfl (Nat.le_of_ble_eq_true rfl) rfl g
  by_cases hx : sl_P x
  case neg => exact fail (dX6_sweptByTape_p4 x y M M M hx) fun M' _ => no (gX7_swept_0_5 x y M' hx)
  by_cases hy : sz_P y
  case neg =>
    refine fail (dX6_sweptByTape_p3 x y M M M hx hy) fun M' _ => no ?_
    by_cases c1 : y < 3
    · exact gX7_swept_0_4 x y M' hx c1
    · by_cases c2 : 10 < y
      · exact gX7_swept_0_3 x y M' hx c1 c2
      · exact absurd ⟨c1, c2⟩ hy
  obtain ⟨s, hs, rfl⟩ := sl_of hx
  obtain ⟨n, h3, hn, rfl⟩ := sz_of hy
  have hL := hC.1.2.1
  have hso := (so_nI hn).1
  have hN := (so_nI hn).2
  have ez : ∀ M', MR_P M' A → pt_F (tk_M (pt_wF M' 7 0 0 0)) 7 3 0 = nI (iv_L A) := fun M' h => h.1
  have hso' : (nI n * (nI n - 1)) / 2 = nI (sN_F n) := hso
  by_cases hc : iv_L A = sN_F n
  case neg => exact fail (dX6_sweptByTape_p2 (nI s) (nI n) M M M hx hy (dX3_read_no hn hC.1 hc)) fun M' h => no (gX7_swept_0_1 (nI s) (nI n) M' hx hy.1 hy.2 (by rw [ez M' h, hso']; exact nI_nE hc (by omega) (by omega)))
  have htp : tp_P M (sN_F n) (iv_b A) := hc ▸ hC.1
  obtain ⟨r1, r2⟩ := dX3_read hn h3 htp
  have hrk := rr_rk (M := sb_M M n) (L := sN_F n) (b := iv_b A) hn (fun p hp => sb_og hn hp)
  have ks : ∀ k, ks_P M (rm_M n (iv_b A) (sb_M M n) k) := fun k => ks_sb.tr (rm_ok hn (sb_so hn) k).2
  have g0 : ∀ M', MR_P M' A → pt_Go YX7_swept (0, [(0, pt_r 7 0), (1, pt_i (nI s)), (2, pt_i (nI n))], [], M') (65, [(0, pt_r 7 0), (1, pt_i (nI s)), (2, pt_i (nI n)), (3, pt_i 0)], [], ow_M (tk_M (t0_M M')) n (pt_A (tk_M (t0_M M')) 42 0) (fun p => p) (pt_A (tk_M (t0_M M')) 43 0)) := fun M' h => (gX7_swept_0_2 (nI s) (nI n) M' hx hy.1 hy.2 (by rw [ez M' h, hso', hc])).tr (sw_init hn)
  have hrd : ∀ M', MR_P M' A → _ := fun M' h => sw_read (s := s) (n := n) (b := iv_b A) (f := pt_A (tk_M (t0_M M')) 42 0) (w := pt_A (tk_M (t0_M M')) 43 0) (M := tk_M (t0_M M')) hn h3 (by rw [← hc]; exact h.1) (hc ▸ mp_A h.2.1 rfl)
  by_cases hr : rk_P n (iv_b A) (sN_F n)
  case neg =>
    cases hf : rr_F n (sN_F n) (iv_b A) (sb_M M n) with
    | none => exact absurd (hrk.mp hf) hr
    | some k =>
      refine op_ex hC hM (dX6_swept_p1 (nI s) (nI n) 0 _ M (dX6_sweptByTape_p2 (nI s) (nI n) _ M M hx hy (r2 k hf)) pt_nar0) ((mo_ks (ks k)).tr (mo_wF (by decide))) (CR_t0 (CR_ks hC (ks k))) fun hM => ?_
      obtain ⟨k', g⟩ := (hrd _ hM).2 hr
      refine ⟨_, rX7_swept_114 pt_nar0 (Nat.le_of_ble_eq_true rfl) ?_ ((g0 _ hM).tr g), ca_tk.tr ow_ca, MR_ow (MR_tk hM)⟩
      rfl
  have hk := ks (sN_F n)
  have d1 := r1 (hrk.mpr hr)
  have e19 := (rm_oo (M := sb_M M n) hn (fun p hp => sb_og hn hp) (sN_F n) hr).2
  generalize hM2 : rm_M n (iv_b A) (sb_M M n) (sN_F n) = M2 at *
  have hC2 : CR_P M2 A := CR_ks hC hk
  have d2 := dX3_fill (t := pt_R M2 0) (n := n) (M := M2) (hC2.2.1 0 (by decide)) hn
  have d3 := dX6_sweptByTape_p1 (nI s) (nI n) M2 (mt_F M2 (pt_R M2 0) n (fl_S M2)) M hx hy d1 d2 ⟨sl_nI hs, pt_in_nI hs (by decide), hC2.2.1 0 (by decide)⟩
  refine op_ex hC hM (dX6_swept_p1 (nI s) (nI n) 1 _ M d3 pt_nar1) (((mo_ks hk).tr kt_mo).tr (mo_wF (by decide))) (CR_t0 (CR_keep hC2 hs h3 hn)) fun hM => ?_
  have g := (g0 _ hM).tr (((hrd _ hM).1 hr).tr (sw_fill hs hn))
  refine ⟨_, rX7_swept_230 pt_nar1 (Nat.le_of_ble_eq_true rfl) ?_ g, (ca_tk.tr ow_ca).tr sl_ca, ?_⟩
  · rfl
  · refine MR_S (A := (0, iv_b A, A.2.2)) (MR_st (MR_ow (MR_tk hM)) hs h3 hn) fun i j k a1 a2 a3 => ?_
    rw [ow_43]
    show fs_S _ i j k = fs_S (pt_A M2 19 0) i j k
    rw [e19]
    exact fs_same hn hr a1 a2 a3
