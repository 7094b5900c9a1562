/-! CALLS ON BOTH SIDES: feed -/
theorem by_8 {x s : Int32} {k : Nat} (h1 : ((s &&& 31).toBitVec.smod 32).toNat = k) (h2 : ((s.toUInt32 &&& Int32.toUInt32 31).toBitVec % 32).toNat = k) (hk : k ≤ 24) : (x >>> (s &&& 31)).toInt8 = (by_F x s).toInt8 := by
  apply Int8.toBitVec_inj.mp
  have e1 : (x >>> (s &&& 31)).toBitVec = x.toBitVec.sshiftRight k := by
    rw [← h1]
    rfl
  have e2 : (by_F x s).toBitVec = (x.toBitVec >>> k) &&& 255#32 := by
    have e3 : ((x.toUInt32 >>> (s.toUInt32 &&& Int32.toUInt32 31)).toInt32).toBitVec = x.toBitVec >>> k := by
      rw [← h2]
      exact UInt32.toBitVec_shiftRight _ _
    unfold by_F
    rw [Int32.toBitVec_and, e3]
    rfl
  have h255 : ∀ i, i < 8 → (255#32).getLsbD i = true := by decide
  rw [Int32.toBitVec_toInt8, Int32.toBitVec_toInt8, e1, e2]
  apply BitVec.eq_of_getLsbD_eq
  intro i hi
  rw [BitVec.getLsbD_signExtend, BitVec.getLsbD_signExtend, BitVec.getLsbD_sshiftRight, BitVec.getLsbD_and, BitVec.getLsbD_ushiftRight, if_pos (show i < 32 by omega), if_pos (show i < 32 by omega), if_pos (show k + i < 32 by omega), h255 i hi, decide_eq_false (show ¬ 32 ≤ i by omega)]
  simp
def wb_F (x s : Int32) : Nat := pt_nt (by_F x s)
theorem wb_ok (x s : Int32) : by_F x s = nI (wb_F x s) ∧ wb_F x s < 256 := by
  obtain ⟨j, hj, e⟩ := pk_andE ((x.toUInt32 >>> (s.toUInt32 &&& Int32.toUInt32 31)).toInt32) (m := 255) 8 (by decide)
  have e' : by_F x s = nI j := e
  have e2 : wb_F x s = j := by
    unfold wb_F
    rw [e', pt_nt_nI (by omega)]
  rw [e2]
  exact ⟨e', by omega⟩
theorem wb_sb {x s : Int32} {k : Nat} (h1 : ((s &&& 31).toBitVec.smod 32).toNat = k) (h2 : ((s.toUInt32 &&& Int32.toUInt32 31).toBitVec % 32).toNat = k) (hk : k ≤ 24) : ((x >>> (s &&& 31)).toInt8.toInt32).toInt8.toInt32 = sb_F (wb_F x s) := by
  rw [Int8.toInt8_toInt32, by_8 h1 h2 hk, (wb_ok x s).1]
  rfl
def bp_F (b : Nat → Nat) (L w : Nat) : Nat → Nat := fun p => if p = L then w else b p
def as_A (A : iv_A) (w : Nat) : iv_A := (iv_L A + 1, bp_F (iv_b A) (iv_L A) w, A.2.2)
theorem CR_ab {M : pt_M} {A : iv_A} {v : Int32} {w : Nat} (h : CR_P M A) (hv : v = nI w) (hL : iv_L A < 140) (hw : w < 256) : CR_P (ab_M M v) (as_A A w) := by
  subst hv
  refine CR_tp h ⟨?_, by omega, fun p hp => ?_⟩ (fun k hk => funext fun f => funext fun i => if_neg fun z => hk z.1) (fun k hk => funext fun i => if_neg fun z => hk z.1) rfl
  · show pt_F M 4 1 0 + 1 = _
    rw [h.1.1, nI_1]
  · have e : pt_A (ab_M M (nI w)) 14 0 = upd (pt_A M 14 0) (iv_L A) (nI w) := by
      show upd (pt_A M 14 0) (pt_nt (pt_F M 4 1 0)) (nI w) = _
      rw [h.1.1, pt_nt_nI (by omega)]
    rw [e]
    unfold upd bp_F
    by_cases c : p = iv_L A
    · rw [if_pos c, if_pos c]
      exact ⟨rfl, hw⟩
    · rw [if_neg c, if_neg c]
      exact h.1.2.2 p (by omega)
theorem mo_ab {M : pt_M} {v : Int32} : mo_P M (ab_M M v) := (mo_wA (by decide)).tr (mo_wF (by decide))
def a4_A (A : iv_A) (x : Int32) : iv_A := as_A (as_A (as_A (as_A A (wb_F x 24)) (wb_F x 16)) (wb_F x 8)) (wb_F x 0)
theorem a4_L (A : iv_A) (x : Int32) : iv_L (a4_A A x) = iv_L A + 4 := rfl
theorem CR_ad {M : pt_M} {A : iv_A} {x : Int32} (h : CR_P M A) (hL : iv_L A + 4 ≤ 140) : CR_P (ad_M M x) (a4_A A x) := by
  have h1 := CR_ab (v := by_F x 24) h (wb_ok x 24).1 (by omega) (wb_ok x 24).2
  have h2 := CR_ab (v := by_F x 16) h1 (wb_ok x 16).1 (show iv_L A + 1 < 140 by omega) (wb_ok x 16).2
  have h3 := CR_ab (v := by_F x 8) h2 (wb_ok x 8).1 (show iv_L A + 1 + 1 < 140 by omega) (wb_ok x 8).2
  exact CR_ab (v := by_F x 0) h3 (wb_ok x 0).1 (show iv_L A + 1 + 1 + 1 < 140 by omega) (wb_ok x 0).2
theorem mo_ad {M : pt_M} {x : Int32} : mo_P M (ad_M M x) := ((mo_ab.tr mo_ab).tr mo_ab).tr mo_ab
theorem CR_aH {M : pt_M} {A : iv_A} (h : CR_P M A) (hL : iv_L A + 4 ≤ 140) : ad_H M := ⟨iv_L A, h.1.1, hL⟩
/-- the model's -/
def fb_M (M : pt_M) (x s : Int32) : pt_M := pt_wF (pt_wA M 30 0 (upd (pt_A M 30 0) (pt_nt (pt_F M 7 2 0)) (((x >>> (s &&& 31)).toInt8.toInt32).toInt8.toInt32))) 7 2 0 (pt_F M 7 2 0 + 1)
def fo_M (M : pt_M) (x : Int32) : pt_M := fb_M (fb_M (fb_M (fb_M M x 24) x 16) x 8) x 0
def fo_H (M : pt_M) : Prop := ∃ L, pt_F M 7 2 0 = nI L ∧ L + 4 ≤ 140
theorem MR_fb {M : pt_M} {A : iv_A} {x s : Int32} {k : Nat} (h : MR_P M A) (h1 : ((s &&& 31).toBitVec.smod 32).toNat = k) (h2 : ((s.toUInt32 &&& Int32.toUInt32 31).toBitVec % 32).toNat = k) (hk : k ≤ 24) (hL : iv_L A < 140) : MR_P (fb_M M x s) (as_A A (wb_F x s)) := by
  refine MR_tp h ?_ ⟨by omega, fun p hp => ?_⟩ rfl rfl (fun k hk => funext fun i => if_neg fun z => hk z.1)
  · show pt_F M 7 2 0 + 1 = _
    rw [h.1, nI_1]
  · have e : pt_A (fb_M M x s) 30 0 = upd (pt_A M 30 0) (iv_L A) (sb_F (wb_F x s)) := by
      show upd (pt_A M 30 0) (pt_nt (pt_F M 7 2 0)) _ = _
      rw [h.1, pt_nt_nI (by omega), wb_sb h1 h2 hk]
    rw [e]
    unfold upd bp_F
    by_cases c : p = iv_L A
    · rw [if_pos c, if_pos c]
      exact ⟨rfl, (wb_ok x s).2⟩
    · rw [if_neg c, if_neg c]
      exact h.2.1.2 p (by omega)
theorem ca_fb {M : pt_M} {x s : Int32} : ca_P M (fb_M M x s) := (ca_wA (by decide)).tr ca_wF
theorem MR_fo {M : pt_M} {A : iv_A} {x : Int32} (h : MR_P M A) (hL : iv_L A + 4 ≤ 140) : MR_P (fo_M M x) (a4_A A x) := by
  have h1 := MR_fb (x := x) (s := 24) (k := 24) h (by decide) (by decide) (by decide) (by omega)
  have h2 := MR_fb (x := x) (s := 16) (k := 16) h1 (by decide) (by decide) (by decide) (show iv_L A + 1 < 140 by omega)
  have h3 := MR_fb (x := x) (s := 8) (k := 8) h2 (by decide) (by decide) (by decide) (show iv_L A + 1 + 1 < 140 by omega)
  exact MR_fb (x := x) (s := 0) (k := 0) h3 (by decide) (by decide) (by decide) (show iv_L A + 1 + 1 + 1 < 140 by omega)
theorem ca_fo {M : pt_M} {x : Int32} : ca_P M (fo_M M x) := ((ca_fb.tr ca_fb).tr ca_fb).tr ca_fb
theorem MR_fH {M : pt_M} {A : iv_A} (h : MR_P M A) (hL : iv_L A + 4 ≤ 140) : fo_H M := ⟨iv_L A, h.1, hL⟩
theorem rX7_four_36 {vs : List pt_V} {M M' : pt_M} {L : List (Nat × pt_V)} (hvs : (vs.map pt_w).sum ≤ 3) (hX : M'.2.2.2.2 = M.2.2.2.2) (h : pt_Go YX7_four (0, pt_en 0 vs, [], M) (36, L, [], M')) : pt_Does yX7_four YX7_four vs M none M' := pt_does_go tX7_four_ok nX7_four hvs hX ⟨_, by with_unfolding_all rfl, rfl, rfl⟩ h
set_option maxRecDepth 100000 in
theorem gX7_four_0_1 (x1 : Int32)  (M : pt_M) :
    pt_Go YX7_four (0, [(0, pt_r 7 0), (1, pt_i x1)], [], M)
      (3, [(0, pt_r 7 0), (1, pt_i x1), (2, pt_i 24)], [], M) :=
  pt_run_ok tX7_four_ok 2 [] (P := True) (by with_unfolding_all rfl) trivial
set_option maxRecDepth 100000 in
theorem gX7_four_3_1 (l1 : Int32) (l2 : Int32)  (M : pt_M) (h1 : ¬ l2 < 0) (h2 : pt_in (pt_F M 7 2 0) 140) :
    pt_Go YX7_four (3, [(0, pt_r 7 0), (1, pt_i l1), (2, pt_i l2)], [], M)
      (3, [(0, pt_r 7 0), (1, pt_i l1), (2, pt_i (l2 + (-8)))], [], (pt_wF (pt_wA M 30 0 (upd (pt_A M 30 0) (pt_nt (pt_F M 7 2 0)) (((l1 >>> (l2 &&& 31)).toInt8.toInt32).toInt8.toInt32))) 7 2 0 ((pt_F (pt_wA M 30 0 (upd (pt_A M 30 0) (pt_nt (pt_F M 7 2 0)) (((l1 >>> (l2 &&& 31)).toInt8.toInt32).toInt8.toInt32))) 7 2 0) + 1))) :=
  pt_run_ok tX7_four_ok 19 [.inl false] (P := (¬ l2 < 0) ∧ (pt_in (pt_F M 7 2 0) 140) ∧ True) (by with_unfolding_all rfl) ⟨h1, h2, trivial⟩
set_option maxRecDepth 100000 in
theorem gX7_four_3_2 (l1 : Int32) (l2 : Int32)  (M : pt_M) (h1 : l2 < 0) :
    pt_Go YX7_four (3, [(0, pt_r 7 0), (1, pt_i l1), (2, pt_i l2)], [], M)
      (36, [(0, pt_r 7 0), (1, pt_i l1), (2, pt_i l2)], [], M) :=
  pt_run_ok tX7_four_ok 2 [.inl true] (P := (l2 < 0) ∧ True) (by with_unfolding_all rfl) ⟨h1, trivial⟩
theorem fo_step {M : pt_M} {x s s' : Int32} {L : Nat} (h : pt_F M 7 2 0 = nI L) (hL : L < 140) (hs : ¬ s < 0) (hs' : s + (-8) = s') : pt_Go YX7_four (3, [(0, pt_r 7 0), (1, pt_i x), (2, pt_i s)], [], M) (3, [(0, pt_r 7 0), (1, pt_i x), (2, pt_i s')], [], fb_M M x s) := by
  subst hs'
  exact gX7_four_3_1 x s M hs (by rw [h]; exact pt_in_nI hL (by decide))
theorem fb_len {M : pt_M} {x s : Int32} {L : Nat} (h : pt_F M 7 2 0 = nI L) : pt_F (fb_M M x s) 7 2 0 = nI (L + 1) := by
  show pt_F M 7 2 0 + 1 = _
  rw [h, nI_1]
theorem dX7_four {x : Int32} {M : pt_M} (h : fo_H M) : pt_Does yX7_four YX7_four [pt_r 7 0, pt_i x] M none (fo_M M x) := by
  obtain ⟨L, h, hL⟩ := h
  have h1 := fb_len (x := x) (s := 24) h
  have h2 := fb_len (x := x) (s := 16) h1
  have h3 := fb_len (x := x) (s := 8) h2
  exact rX7_four_36 (Nat.le_of_ble_eq_true rfl) rfl ((gX7_four_0_1 x M).tr ((fo_step h (by omega) (by decide) (s' := 16) (by decide)).tr ((fo_step h1 (by omega) (by decide) (s' := 8) (by decide)).tr ((fo_step h2 (by omega) (by decide) (s' := 0) (by decide)).tr ((fo_step h3 (by omega) (by decide) (s' := -8) (by decide)).tr (gX7_four_3_2 x (-8) _ (by decide)))))))
theorem rX7_feed_19 {vs : List pt_V} {M M' : pt_M} {x : Int32} {L : List (Nat × pt_V)} (hvs : (vs.map pt_w).sum ≤ 6) (hX : M'.2.2.2.2 = M.2.2.2.2) (h : pt_Go YX7_feed (0, pt_en 0 vs, [], M) (19, L, [pt_i x], M')) : pt_Does yX7_feed YX7_feed vs M (some (pt_i x)) M' := pt_does_go tX7_feed_ok nX7_feed hvs hX ⟨_, by with_unfolding_all rfl, rfl, _, rfl, rfl⟩ h
theorem rX7_feed_51 {vs : List pt_V} {M M' : pt_M} {x : Int32} {L : List (Nat × pt_V)} (hvs : (vs.map pt_w).sum ≤ 6) (hX : M'.2.2.2.2 = M.2.2.2.2) (h : pt_Go YX7_feed (0, pt_en 0 vs, [], M) (51, L, [pt_i x], M')) : pt_Does yX7_feed YX7_feed vs M (some (pt_i x)) M' := pt_does_go tX7_feed_ok nX7_feed hvs hX ⟨_, by with_unfolding_all rfl, rfl, _, rfl, rfl⟩ h
set_option maxRecDepth 100000 in
theorem gX7_feed_0_1 (x1 : Int32) (x2 : Int32) (x3 : Int32) (x4 : Int32) (x5 : Int32)  (M : pt_M) (h1 : ¬ ((pt_F (pt_wF M 7 0 0 0) 7 2 0) + 20) ≤ 140) :
    pt_Go YX7_feed (0, [(0, pt_r 7 0), (1, pt_i x1), (2, pt_i x2), (3, pt_i x3), (4, pt_i x4), (5, pt_i x5)], [], M)
      (19, [(0, pt_r 7 0), (1, pt_i x1), (2, pt_i x2), (3, pt_i x3), (4, pt_i x4), (5, pt_i x5)], [pt_i (-1)], (pt_wF M 7 0 0 0)) :=
  pt_run_ok tX7_feed_ok 10 [.inl false] (P := (¬ ((pt_F (pt_wF M 7 0 0 0) 7 2 0) + 20) ≤ 140) ∧ True) (by with_unfolding_all rfl) ⟨h1, trivial⟩
set_option maxRecDepth 100000 in
theorem gX7_feed_0_2 (x1 : Int32) (x2 : Int32) (x3 : Int32) (x4 : Int32) (x5 : Int32)  (M : pt_M) (h1 : ((pt_F (pt_wF M 7 0 0 0) 7 2 0) + 20) ≤ 140) (h2 : fo_H (pt_wF M 7 0 0 0)) (h3 : fo_H (fo_M (pt_wF M 7 0 0 0) x1)) (h4 : fo_H (fo_M (fo_M (pt_wF M 7 0 0 0) x1) x2)) (h5 : fo_H (fo_M (fo_M (fo_M (pt_wF M 7 0 0 0) x1) x2) x3)) (h6 : fo_H (fo_M (fo_M (fo_M (fo_M (pt_wF M 7 0 0 0) x1) x2) x3) x4)) :
    pt_Go YX7_feed (0, [(0, pt_r 7 0), (1, pt_i x1), (2, pt_i x2), (3, pt_i x3), (4, pt_i x4), (5, pt_i x5)], [], M)
      (51, [(0, pt_r 7 0), (1, pt_i x1), (2, pt_i x2), (3, pt_i x3), (4, pt_i x4), (5, pt_i x5)], [pt_i (pt_F (fo_M (fo_M (fo_M (fo_M (fo_M (pt_wF M 7 0 0 0) x1) x2) x3) x4) x5) 7 2 0)], (fo_M (fo_M (fo_M (fo_M (fo_M (pt_wF M 7 0 0 0) x1) x2) x3) x4) x5)) :=
  pt_run_ok tX7_feed_ok 26 [.inl true, .inr (2, none, (fo_M (pt_wF M 7 0 0 0) x1)), .inr (2, none, (fo_M (fo_M (pt_wF M 7 0 0 0) x1) x2)), .inr (2, none, (fo_M (fo_M (fo_M (pt_wF M 7 0 0 0) x1) x2) x3)), .inr (2, none, (fo_M (fo_M (fo_M (fo_M (pt_wF M 7 0 0 0) x1) x2) x3) x4)), .inr (2, none, (fo_M (fo_M (fo_M (fo_M (fo_M (pt_wF M 7 0 0 0) x1) x2) x3) x4) x5))] (P := (((pt_F (pt_wF M 7 0 0 0) 7 2 0) + 20) ≤ 140) ∧ pt_Cal YX7_feed (.invokevirtual 70) [pt_r 7 0, pt_i x1] (pt_wF M 7 0 0 0) none (fo_M (pt_wF M 7 0 0 0) x1) ∧ pt_Cal YX7_feed (.invokevirtual 70) [pt_r 7 0, pt_i x2] (fo_M (pt_wF M 7 0 0 0) x1) none (fo_M (fo_M (pt_wF M 7 0 0 0) x1) x2) ∧ pt_Cal YX7_feed (.invokevirtual 70) [pt_r 7 0, pt_i x3] (fo_M (fo_M (pt_wF M 7 0 0 0) x1) x2) none (fo_M (fo_M (fo_M (pt_wF M 7 0 0 0) x1) x2) x3) ∧ pt_Cal YX7_feed (.invokevirtual 70) [pt_r 7 0, pt_i x4] (fo_M (fo_M (fo_M (pt_wF M 7 0 0 0) x1) x2) x3) none (fo_M (fo_M (fo_M (fo_M (pt_wF M 7 0 0 0) x1) x2) x3) x4) ∧ pt_Cal YX7_feed (.invokevirtual 70) [pt_r 7 0, pt_i x5] (fo_M (fo_M (fo_M (fo_M (pt_wF M 7 0 0 0) x1) x2) x3) x4) none (fo_M (fo_M (fo_M (fo_M (fo_M (pt_wF M 7 0 0 0) x1) x2) x3) x4) x5) ∧ True) (by with_unfolding_all rfl) ⟨h1, (pt_callV (i := 0) kX7_feed_70 mX7_four rfl (by decide) rfl (dX7_four h2)), (pt_callV (i := 0) kX7_feed_70 mX7_four rfl (by decide) rfl (dX7_four h3)), (pt_callV (i := 0) kX7_feed_70 mX7_four rfl (by decide) rfl (dX7_four h4)), (pt_callV (i := 0) kX7_feed_70 mX7_four rfl (by decide) rfl (dX7_four h5)), (pt_callV (i := 0) kX7_feed_70 mX7_four rfl (by decide) rfl (dX7_four h6)), trivial⟩
theorem dX7_feed_p1 (x1 : Int32) (x2 : Int32) (x3 : Int32) (x4 : Int32) (x5 : Int32)  (M : pt_M) (h1 : ¬ ((pt_F (pt_wF M 7 0 0 0) 7 2 0) + 20) ≤ 140) : pt_Does yX7_feed YX7_feed [pt_r 7 0, pt_i x1, pt_i x2, pt_i x3, pt_i x4, pt_i x5] M (some (pt_i (-1))) (pt_wF M 7 0 0 0) :=
  rX7_feed_19 (Nat.le_of_ble_eq_true rfl) rfl (gX7_feed_0_1 x1 x2 x3 x4 x5 M h1)
theorem dX7_feed_p2 (x1 : Int32) (x2 : Int32) (x3 : Int32) (x4 : Int32) (x5 : Int32)  (M : pt_M) (h1 : ((pt_F (pt_wF M 7 0 0 0) 7 2 0) + 20) ≤ 140) (h2 : fo_H (pt_wF M 7 0 0 0)) (h3 : fo_H (fo_M (pt_wF M 7 0 0 0) x1)) (h4 : fo_H (fo_M (fo_M (pt_wF M 7 0 0 0) x1) x2)) (h5 : fo_H (fo_M (fo_M (fo_M (pt_wF M 7 0 0 0) x1) x2) x3)) (h6 : fo_H (fo_M (fo_M (fo_M (fo_M (pt_wF M 7 0 0 0) x1) x2) x3) x4)) : pt_Does yX7_feed YX7_feed [pt_r 7 0, pt_i x1, pt_i x2, pt_i x3, pt_i x4, pt_i x5] M (some (pt_i (pt_F (fo_M (fo_M (fo_M (fo_M (fo_M (pt_wF M 7 0 0 0) x1) x2) x3) x4) x5) 7 2 0))) (fo_M (fo_M (fo_M (fo_M (fo_M (pt_wF M 7 0 0 0) x1) x2) x3) x4) x5) :=
  rX7_feed_51 (Nat.le_of_ble_eq_true rfl) rfl (gX7_feed_0_2 x1 x2 x3 x4 x5 M h1 h2 h3 h4 h5 h6)
theorem op_feed {M : pt_M} (h : IV_P M) (a b c d e : Int32) : op_P yX6_feed YX6_feed yX7_feed YX7_feed [pt_i a, pt_i b, pt_i c, pt_i d, pt_i e] M := by
  obtain ⟨A, hC, hM⟩ := h
  have hL := hC.1.2.1
  have e20 : pt_F M 4 1 0 + 20 = nI (iv_L A + 20) := by rw [hC.1.1]; exact nI_add _ 20
  have e20' : ∀ M', MR_P M' A → pt_F (pt_wF M' 7 0 0 0) 7 2 0 + 20 = nI (iv_L A + 20) := fun M' hM' => by
    rw [show pt_F (pt_wF M' 7 0 0 0) 7 2 0 = nI (iv_L A) from hM'.1]
    exact nI_add _ 20
  by_cases hc : iv_L A + 20 ≤ 140
  · have c1 := CR_ad (x := a) hC (by omega)
    have c2 := CR_ad (x := b) c1 (show iv_L A + 4 + 4 ≤ 140 by omega)
    have c3 := CR_ad (x := c) c2 (show iv_L A + 4 + 4 + 4 ≤ 140 by omega)
    have c4 := CR_ad (x := d) c3 (show iv_L A + 4 + 4 + 4 + 4 ≤ 140 by omega)
    have c5 := CR_ad (x := e) c4 (show iv_L A + 4 + 4 + 4 + 4 + 4 ≤ 140 by omega)
    have d1 := dX6_feed_p2 a b c d e M (by rw [e20]; exact nI_le (b := 140) hc (by decide)) (CR_aH hC (by omega)) (CR_aH c1 (show iv_L A + 4 + 4 ≤ 140 by omega)) (CR_aH c2 (show iv_L A + 4 + 4 + 4 ≤ 140 by omega)) (CR_aH c3 (show iv_L A + 4 + 4 + 4 + 4 ≤ 140 by omega)) (CR_aH c4 (show iv_L A + 4 + 4 + 4 + 4 + 4 ≤ 140 by omega))
    rw [c5.1.1] at d1
    refine op_ex hC hM d1 ((((mo_ad.tr mo_ad).tr mo_ad).tr mo_ad).tr mo_ad) c5 fun hM => ?_
    have m0 := MR_t0 hM
    have m1 := MR_fo (x := a) m0 (by omega)
    have m2 := MR_fo (x := b) m1 (show iv_L A + 4 + 4 ≤ 140 by omega)
    have m3 := MR_fo (x := c) m2 (show iv_L A + 4 + 4 + 4 ≤ 140 by omega)
    have m4 := MR_fo (x := d) m3 (show iv_L A + 4 + 4 + 4 + 4 ≤ 140 by omega)
    have m5 := MR_fo (x := e) m4 (show iv_L A + 4 + 4 + 4 + 4 + 4 ≤ 140 by omega)
    have d2 := dX7_feed_p2 a b c d e _ (by rw [e20' _ hM]; exact nI_le (b := 140) hc (by decide)) (MR_fH m0 (by omega)) (MR_fH m1 (show iv_L A + 4 + 4 ≤ 140 by omega)) (MR_fH m2 (show iv_L A + 4 + 4 + 4 ≤ 140 by omega)) (MR_fH m3 (show iv_L A + 4 + 4 + 4 + 4 ≤ 140 by omega)) (MR_fH m4 (show iv_L A + 4 + 4 + 4 + 4 + 4 ≤ 140 by omega))
    have e5 := m5.1
    unfold t0_M at e5
    rw [e5] at d2
    exact ⟨_, d2, ((((t0_ca.tr ca_fo).tr ca_fo).tr ca_fo).tr ca_fo).tr ca_fo, m5⟩
  · refine op_of hC hM (A' := A) (dX6_feed_p1 a b c d e M (by rw [e20]; exact nI_ge (b := iv_L A + 20) (a := 140) (by omega) (by omega))) mo_P.rf hC fun hM => ⟨dX7_feed_p1 a b c d e M ?_, t0_ca, hM⟩
    rw [e20' M hM]
    exact nI_ge (b := iv_L A + 20) (a := 140) (by omega) (by omega)
