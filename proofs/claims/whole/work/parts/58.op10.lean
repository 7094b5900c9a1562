/-! CALLS ON BOTH SIDES: place, to the end -/
theorem CR_sp {M M' : pt_M} {A : iv_A} (h : CR_P M A) (c0 : ∀ k f i, ¬ (k = 3 ∧ i = pt_R M 0) → pt_F M' k f i = pt_F M k f i) (c1 : ∀ k i, ¬ (k = 11 ∧ i = pt_R M 0) → pt_A M' k i = pt_A M k i) (c2 : pt_R M' = pt_R M) : CR_P M' A := by
  obtain ⟨h1, h2, h3, h4, h5, h6, h7, h8, h9⟩ := h
  refine ⟨⟨?_, h1.2.1, fun p hp => ?_⟩, ?_, ?_, fun q hq => ?_, fun i hi => ?_, ?_, ?_, h8, fun p hp => ?_⟩
  · rw [c0 4 1 0 (by omega)]
    exact h1.1
  · rw [c1 14 0 (by omega)]
    exact h1.2.2 p hp
  · rw [c2]
    exact h2
  · rw [c2]
    exact h3
  · rw [c2]
    have hne : ¬ pt_R M (q + 1) = pt_R M 0 := fun z => by
      have := h3 _ _ (by omega) (by omega) z
      omega
    exact cs_ca (h4 q hq) (fun f => c0 3 f _ (fun z => hne z.2)) (c1 11 _ (fun z => hne z.2)) (c1 12 _ (by omega)) (c1 13 _ (by omega))
  · rw [c1 15 0 (by omega)]
    exact h5 i hi
  · rw [c0 2 7 0 (by omega)]
    exact h6
  · rw [c0 2 6 0 (by omega)]
    exact h7
  · rw [c1 20 0 (by omega)]
    exact h9 p hp
def il_A (A : iv_A) (v : Int32) : iv_A := (A.1, A.2.1, A.2.2.1, A.2.2.2.1, v, A.2.2.2.2.2)
theorem CR_ol {M : pt_M} {A : iv_A} {v : Int32} (h : CR_P M A) : CR_P (pt_wF M 2 7 0 v) (il_A A v) := by
  obtain ⟨h1, h2, h3, h4, h5, h6, h7, h8, h9⟩ := h
  exact ⟨⟨h1.1, h1.2.1, h1.2.2⟩, h2, h3, fun q hq => cs_ca (h4 q hq) (fun f => by rw [pt_F_wF, if_neg (by omega)]) rfl rfl rfl, h5, rfl, h7, h8, h9⟩
theorem MR_ol {M : pt_M} {A : iv_A} {v : Int32} (h : MR_P M A) : MR_P (pt_wF M 7 8 0 v) (il_A A v) := by
  obtain ⟨h1, h2, h3, h4, h5, h6, h7⟩ := h
  exact ⟨h1, h2, h3, rfl, h5, h6, h7⟩
theorem MR_sp7 {M : pt_M} {A : iv_A} {n i j k : Nat} {S : Nat → Nat → Nat → Bool} (h : MR_P M A) : MR_P (sp_M M 720 n S i j k) A := by
  obtain ⟨h1, h2, h3, h4, h5, h6, h7⟩ := h
  exact ⟨h1, h2, fun s hs => ⟨(h3 s hs).1, (h3 s hs).2.imp id fun z => ⟨z.1, ml_sp z.2 (by omega)⟩⟩, h4, h5, h6, h7⟩
theorem CR_rp {M : pt_M} {A : iv_A} {b : Nat → Nat} {k : Nat} (h : CR_P M A) : CR_P (rp_M M b k) A := CR_wA (CR_wA h (by decide) (by decide) (by decide) (by decide) (by decide) (by decide)) (by decide) (by decide) (by decide) (by decide) (by decide) (by decide)
theorem mo_rp {M : pt_M} {b : Nat → Nat} {k : Nat} : mo_P M (rp_M M b k) := (mo_wA (by decide)).tr (mo_wA (by decide))
theorem mo_ps {M : pt_M} {n i j k : Nat} {X Y : Nat → Int32} : mo_P M (ps_M M n X Y i j k) := (((mo_wF (by decide)).tr (mo_wF (by decide))).tr (mo_wF (by decide))).tr (mo_wA (by decide))
theorem CR_ps {M : pt_M} {A : iv_A} {n i j k : Nat} {X Y : Nat → Int32} (h : CR_P M A) : CR_P (ps_M M n X Y i j k) A := by
  refine CR_sp h (fun k f i z => ?_) (fun k i z => ?_) rfl
  · show pt_F (fg_F (pt_wF M 3 0 (pt_R M 0) (nI n)) (pt_R M 0)) k f i = _
    unfold fg_F
    rw [pt_F_wF, if_neg (fun w => z ⟨w.1, w.2.2⟩), pt_F_wF, if_neg (fun w => z ⟨w.1, w.2.2⟩), pt_F_wF, if_neg (fun w => z ⟨w.1, w.2.2⟩)]
  · exact if_neg z
theorem ps_lt {n : Nat} {X Y : Nat → Int32} {q : Nat × Nat × Nat} (h : ps_F n X Y = some q) : q.1 < n ∧ q.2.1 < n ∧ q.2.2 < n := by
  refine fs_lt (P := fun q : Nat × Nat × Nat => q.1 < n ∧ q.2.1 < n ∧ q.2.2 < n) (fun i v h1 h2 h3 => ?_) h
  refine fs_lt (P := fun q : Nat × Nat × Nat => q.1 < n ∧ q.2.1 < n ∧ q.2.2 < n) (fun j v h4 h5 h6 => ?_) h3
  refine fs_lt (P := fun q : Nat × Nat × Nat => q.1 < n ∧ q.2.1 < n ∧ q.2.2 < n) (fun k v h7 h8 h9 => ?_) h6
  split at h9
  · cases h9
    exact ⟨(by omega : i < n), (by omega : j < n), (by omega : k < n)⟩
  · cases h9
theorem op_place {M : pt_M} (h : IV_P M) (x : Int32) : op_P yX6_place YX6_place yX7_place YX7_place [pt_i x] M := by
  obtain ⟨A, hC, hM⟩ := h
  have hL := hC.1.2.1
  have eF := hC.1.1
  have ed : nI (iv_L A) / 4 = nI (iv_L A / 4) := pk_div (d := 4) (by omega) (by decide) (by decide)
  have er : nI (iv_L A) - nI (iv_L A) / 4 * 4 = nI (iv_L A % 4) := pk_rem (d := 4) (by omega) (by decide) (by decide)
  have ez : ∀ M', MR_P M' A → pt_F (tk_M (pt_wF M' 7 0 0 0)) 7 3 0 = nI (iv_L A) := fun M' h => h.1
  have fail : pt_Does yX6_placeByTape YX6_placeByTape [pt_r 2 0, pt_i x] M (some (pt_i 1)) M → (∀ M', MR_P M' A → ∃ L, pt_Go YX7_place (0, [(0, pt_r 7 0), (1, pt_i x)], [], M') (44, L, [pt_i 1], tk_M (t0_M M'))) → op_P yX6_place YX6_place yX7_place YX7_place [pt_i x] M := fun d1 d2 => op_ex hC hM (dX6_place_p1 x 1 M M d1) (mo_wF (by decide)) (CR_t0 hC) fun hM => by
    obtain ⟨L, g⟩ := d2 _ hM
    refine ⟨_, rX7_place_44 (Nat.le_of_ble_eq_true rfl) ?_ g, ca_tk, MR_tk hM⟩
    rfl
  by_cases hx : sl_P x
  case neg => exact fail (dX6_placeByTape_p6 x 0 M M M hx) fun M' _ => ⟨_, gX7_place_0_5 x M' hx⟩
  by_cases h4 : iv_L A % 4 = 0
  case neg =>
    have hne : ¬ nI (iv_L A % 4) = 0 := fun z => h4 ((nI_0' (by omega)).mp z)
    exact fail (dX6_placeByTape_p5 x 0 M M M hx (by rw [eF, er]; exact hne)) fun M' h => ⟨_, gX7_place_0_4 x M' hx (by rw [ez M' h, er]; exact hne)⟩
  have h0 : nI (iv_L A % 4) = 0 := by rw [h4]; rfl
  by_cases hz : sz_P (nI (iv_L A / 4))
  case neg =>
    refine fail (dX6_placeByTape_p4 x 0 M M M hx (by rw [eF, er]; exact h0) (by rw [eF, ed]; exact hz)) fun M' h => ?_
    by_cases c1 : nI (iv_L A / 4) < 3
    · exact ⟨_, gX7_place_0_3 x M' hx (by rw [ez M' h, er]; exact h0) (by rw [ez M' h, ed]; exact c1)⟩
    · by_cases c2 : nI (iv_L A / 4) ≤ 10
      · exact absurd ⟨c1, fun z => Int32.not_lt.mpr c2 z⟩ hz
      · exact ⟨_, gX7_place_0_1 x M' hx (by rw [ez M' h, er]; exact h0) (by rw [ez M' h, ed]; exact c1) (by rw [ez M' h, ed]; exact c2)⟩
  obtain ⟨s, hs, rfl⟩ := sl_of hx
  obtain ⟨n, h3, hn, en⟩ := sz_of hz
  have en' : iv_L A / 4 = n := (nI_eq (by omega) (by omega)).mp en
  have hLn : 4 * n ≤ iv_L A := by omega
  have g0 : ∀ M', MR_P M' A → pt_Go YX7_place (0, [(0, pt_r 7 0), (1, pt_i (nI s))], [], M') (47, [(0, pt_r 7 0), (1, pt_i (nI s)), (2, pt_i (nI n)), (3, pt_i 0)], [], tk_M (t0_M M')) := fun M' h => by
    have g := gX7_place_0_2 (nI s) M' hx
    rw [ez M' h, er, ed, en] at g
    exact g h0 (en ▸ hz.1) (by rw [← en]; exact Int32.not_lt.mp hz.2)
  have hMb : ∀ M', MR_P M' A → mp_P (tk_M (t0_M M')) (iv_L A) (iv_b A) := fun M' h => mp_A h.2.1 rfl
  obtain ⟨r1, r2⟩ := dX6_readPlaces hn hC.1 hLn
  cases hr : rp_F n (iv_b A) with
  | some k =>
    refine op_ex hC hM (dX6_place_p1 (nI s) 1 _ M (dX6_placeByTape_p3 (nI s) 0 _ M M hx (by rw [eF, er]; exact h0) (by rw [eF, ed]; exact hz) (by rw [eF, ed, en]; exact r2 k hr))) (mo_rp.tr (mo_wF (by decide))) (CR_t0 (CR_rp hC)) fun hM => ⟨_, rX7_place_173 (Nat.le_of_ble_eq_true rfl) ?_ ((g0 _ hM).tr ((pl_read hn hLn (hMb _ hM)).1 k hr)), ca_tk.tr rg_ca, MR_rg (MR_tk hM)⟩
    rfl
  | none =>
    have hpn : ∀ i, i < n → pn_P (pX_F (iv_b A) i) ∧ pn_P (pY_F (iv_b A) i) := fun i hi => by
      have := fs_none.mp hr i (by omega) (by omega)
      refine rp_pn.mp ?_
      cases c : rp_W (iv_b A) i
      · rfl
      · rw [c] at this
        cases this
    obtain ⟨s1, s2⟩ := dX6_placeSpare (n := n) (X := pX_F (iv_b A)) (Y := pY_F (iv_b A)) (M := rp_M M (iv_b A) n) (hC.2.1 0 (by decide)) hn (fun i hi => by rw [rp_21]; exact if_pos hi) (fun i hi => by rw [rp_22]; exact if_pos hi)
    have hmod : ∀ M', MR_P M' A → _ := fun M' h => pl_area (s := s) (n := n) (X := pX_F (iv_b A)) (Y := pY_F (iv_b A)) (M := rg_M (tk_M (t0_M M')) (pX_F (iv_b A)) (pY_F (iv_b A)) n) hs hn (fun i hi => by rw [rg_33]; exact if_pos hi) (fun i hi => by rw [rg_34]; exact if_pos hi) hpn
    cases hps : ps_F n (pX_F (iv_b A)) (pY_F (iv_b A)) with
    | some q =>
      have hq := ps_lt hps
      have ev : (nI q.1 * 100) + (nI q.2.1 * 10) + nI q.2.2 = nI (q.1 * 100 + q.2.1 * 10 + q.2.2) := by
        rw [show (100 : Int32) = nI 100 from rfl, show (10 : Int32) = nI 10 from rfl, pk_mul, pk_mul, nI_add, nI_add]
      have ev' : ((100 * nI q.1) + (10 * nI q.2.1)) + nI q.2.2 = nI (q.1 * 100 + q.2.1 * 10 + q.2.2) := by
        rw [show (100 : Int32) = nI 100 from rfl, show (10 : Int32) = nI 10 from rfl, pk_mul, pk_mul, nI_add, nI_add, Nat.mul_comm 100, Nat.mul_comm 10]
      have d2 := s2 q hps
      rw [ev] at d2
      have d1 := dX6_placeByTape_p1 (nI s) (nI (q.1 * 100 + q.2.1 * 10 + q.2.2)) (rp_M M (iv_b A) n) (ps_M (rp_M M (iv_b A) n) n (pX_F (iv_b A)) (pY_F (iv_b A)) q.1 q.2.1 q.2.2) M hx (by rw [eF, er]; exact h0) (by rw [eF, ed]; exact hz) (by rw [eF, ed, en]; exact r1 hr) (by rw [eF, ed, en]; exact d2) (nI_m1 (by omega))
      refine op_ex hC hM (A' := (0, iv_b (il_A A (nI (q.1 * 100 + q.2.1 * 10 + q.2.2))), (il_A A (nI (q.1 * 100 + q.2.1 * 10 + q.2.2))).2.2)) (dX6_place_p1 (nI s) 2 _ M d1) (((mo_rp.tr mo_ps).tr (mo_wF (by decide))).tr (mo_wF (by decide))) (CR_t0 (CR_ol (CR_ps (CR_rp hC)))) fun hM => ?_
      have g := (g0 _ hM).tr (((pl_read hn hLn (hMb _ hM)).2 hr).tr ((hmod _ hM).1 q hps))
      rw [ev'] at g
      refine ⟨_, rX7_place_296 (Nat.le_of_ble_eq_true rfl) ?_ g, ((ca_tk.tr rg_ca).tr (ca_wA (by decide))).tr ca_wF, MR_ol (MR_sp7 (MR_rg (MR_tk hM)))⟩
      rfl
    | none =>
      have d1 := dX6_placeByTape_p2 (nI s) (-1) (rp_M M (iv_b A) n) (mt_F (rp_M M (iv_b A) n) (pt_R (rp_M M (iv_b A) n) 0) n (as_F (pX_F (iv_b A)) (pY_F (iv_b A)))) M hx (by rw [eF, er]; exact h0) (by rw [eF, ed]; exact hz) (by rw [eF, ed, en]; exact r1 hr) (by rw [eF, ed, en]; exact s1 hps) rfl ⟨sl_nI hs, pt_in_nI hs (by decide), hC.2.1 0 (by decide)⟩
      refine op_ex hC hM (dX6_place_p1 (nI s) 0 _ M d1) ((mo_rp.tr kt_mo).tr (mo_wF (by decide))) (CR_t0 (CR_keep (CR_rp hC) hs h3 hn)) fun hM => ?_
      have g := (g0 _ hM).tr (((pl_read hn hLn (hMb _ hM)).2 hr).tr ((hmod _ hM).2 hps))
      refine ⟨_, rX7_place_358 (Nat.le_of_ble_eq_true rfl) ?_ g, (ca_tk.tr rg_ca).tr hk_ca, MR_hk (MR_rg (MR_tk hM)) hs h3 hn⟩
      rfl
