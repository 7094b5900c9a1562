/-! CALLS ON BOTH SIDES: place -/
def cL_F (f w : Nat → Int64) (p : Nat) : Nat → Int64 := fun q => if q < p then w q else f q
theorem cL_step (f w : Nat → Int64) (p : Nat) : vp_updL (cL_F f w p) p (w p) = cL_F f w (p + 1) := by
  funext q
  unfold vp_updL cL_F
  by_cases h : q = p
  · rw [if_pos h, if_pos (by omega), h]
  · rw [if_neg h]
    by_cases h2 : q < p
    · rw [if_pos h2, if_pos (by omega)]
    · rw [if_neg h2, if_neg (by omega)]
theorem cL_zero (f w : Nat → Int64) : cL_F f w 0 = f := by
  funext q
  exact if_neg (Nat.not_lt_zero q)
theorem pt_wG_wG (M : pt_M) (k : Nat) (g g' : Nat → Int64) : pt_wG (pt_wG M k g) k g' = pt_wG M k g' := by
  unfold pt_wG
  congr 3
  funext k'
  dsimp only
  split <;> rfl
theorem pt_wG_self (M : pt_M) (k : Nat) : pt_wG M k (pt_G M k) = M := by
  obtain ⟨F, A, G, R, X⟩ := M
  unfold pt_wG pt_G
  congr 3
  funext k'
  dsimp only
  split
  · rename_i h
    rw [h]
  · rfl
theorem pt_wG_sw (M : pt_M) {k k' : Nat} (g g' : Nat → Int64) (h : k ≠ k') : pt_wG (pt_wG M k g) k' g' = pt_wG (pt_wG M k' g') k g := by
  unfold pt_wG
  congr 3
  funext k2
  dsimp only
  by_cases h1 : k2 = k'
  · rw [if_pos h1, if_pos h1]
    rw [if_neg (fun z => h (z.symm.trans h1))]
  · rw [if_neg h1, if_neg h1]
def rg_M (M : pt_M) (X Y : Nat → Int32) (k : Nat) : pt_M := pt_wG (pt_wG M 33 (cL_F (pt_G M 33) (fun i => (X i).toInt64) k)) 34 (cL_F (pt_G M 34) (fun i => (Y i).toInt64) k)
theorem rg_33 {M : pt_M} {X Y : Nat → Int32} {k : Nat} : pt_G (rg_M M X Y k) 33 = cL_F (pt_G M 33) (fun i => (X i).toInt64) k := rfl
theorem rg_34 {M : pt_M} {X Y : Nat → Int32} {k : Nat} : pt_G (rg_M M X Y k) 34 = cL_F (pt_G M 34) (fun i => (Y i).toInt64) k := rfl
theorem rg_zero (M : pt_M) (X Y : Nat → Int32) : rg_M M X Y 0 = M := by
  unfold rg_M
  rw [cL_zero, cL_zero, pt_wG_self]
  exact pt_wG_self M 34
theorem rg_step (M : pt_M) (X Y : Nat → Int32) (k : Nat) : pt_wG (pt_wG (rg_M M X Y k) 33 (vp_updL (pt_G (rg_M M X Y k) 33) k (X k).toInt64)) 34 (vp_updL (pt_G (pt_wG (rg_M M X Y k) 33 (vp_updL (pt_G (rg_M M X Y k) 33) k (X k).toInt64)) 34) k (Y k).toInt64) = rg_M M X Y (k + 1) := by
  have e1 : pt_G (pt_wG (rg_M M X Y k) 33 (vp_updL (pt_G (rg_M M X Y k) 33) k (X k).toInt64)) 34 = cL_F (pt_G M 34) (fun i => (Y i).toInt64) k := rfl
  rw [e1, rg_33, cL_step (pt_G M 33) (fun i => (X i).toInt64) k, cL_step (pt_G M 34) (fun i => (Y i).toInt64) k]
  unfold rg_M
  rw [pt_wG_sw _ _ _ (by decide : (34 : Nat) ≠ 33), pt_wG_wG, pt_wG_wG]
theorem rg_ca {M : pt_M} {X Y : Nat → Int32} {k : Nat} : ca_P M (rg_M M X Y k) := ca_wG.tr ca_wG
theorem MR_rg {M : pt_M} {A : iv_A} {X Y : Nat → Int32} {k : Nat} (h : MR_P M A) : MR_P (rg_M M X Y k) A := h
theorem rX7_place_44 {vs : List pt_V} {M M' : pt_M} {x : Int32} {L : List (Nat × pt_V)} (hvs : (vs.map pt_w).sum ≤ 8) (hX : M'.2.2.2.2 = M.2.2.2.2) (h : pt_Go YX7_place (0, pt_en 0 vs, [], M) (44, L, [pt_i x], M')) : pt_Does yX7_place YX7_place vs M (some (pt_i x)) M' := pt_does_go tX7_place_ok nX7_place hvs hX ⟨_, by with_unfolding_all rfl, rfl, _, rfl, rfl⟩ h
theorem rX7_place_173 {vs : List pt_V} {M M' : pt_M} {x : Int32} {L : List (Nat × pt_V)} (hvs : (vs.map pt_w).sum ≤ 8) (hX : M'.2.2.2.2 = M.2.2.2.2) (h : pt_Go YX7_place (0, pt_en 0 vs, [], M) (173, L, [pt_i x], M')) : pt_Does yX7_place YX7_place vs M (some (pt_i x)) M' := pt_does_go tX7_place_ok nX7_place hvs hX ⟨_, by with_unfolding_all rfl, rfl, _, rfl, rfl⟩ h
theorem rX7_place_296 {vs : List pt_V} {M M' : pt_M} {x : Int32} {L : List (Nat × pt_V)} (hvs : (vs.map pt_w).sum ≤ 8) (hX : M'.2.2.2.2 = M.2.2.2.2) (h : pt_Go YX7_place (0, pt_en 0 vs, [], M) (296, L, [pt_i x], M')) : pt_Does yX7_place YX7_place vs M (some (pt_i x)) M' := pt_does_go tX7_place_ok nX7_place hvs hX ⟨_, by with_unfolding_all rfl, rfl, _, rfl, rfl⟩ h
theorem rX7_place_358 {vs : List pt_V} {M M' : pt_M} {x : Int32} {L : List (Nat × pt_V)} (hvs : (vs.map pt_w).sum ≤ 8) (hX : M'.2.2.2.2 = M.2.2.2.2) (h : pt_Go YX7_place (0, pt_en 0 vs, [], M) (358, L, [pt_i x], M')) : pt_Does yX7_place YX7_place vs M (some (pt_i x)) M' := pt_does_go tX7_place_ok nX7_place hvs hX ⟨_, by with_unfolding_all rfl, rfl, _, rfl, rfl⟩ h
set_option maxRecDepth 100000 in
theorem gX7_place_0_1 (x1 : Int32)  (M : pt_M) (h1 : sl_P x1) (h2 : ((pt_F (tk_M (pt_wF M 7 0 0 0)) 7 3 0) - (pt_F (tk_M (pt_wF M 7 0 0 0)) 7 3 0) / 4 * 4) = 0) (h3 : ¬ ((pt_F (tk_M (pt_wF M 7 0 0 0)) 7 3 0) / 4) < 3) (h4 : ¬ ((pt_F (tk_M (pt_wF M 7 0 0 0)) 7 3 0) / 4) ≤ 10) :
    pt_Go YX7_place (0, [(0, pt_r 7 0), (1, pt_i x1)], [], M)
      (44, [(0, pt_r 7 0), (1, pt_i x1), (2, pt_i ((pt_F (tk_M (pt_wF M 7 0 0 0)) 7 3 0) / 4))], [pt_i 1], (tk_M (pt_wF M 7 0 0 0))) :=
  pt_run_ok tX7_place_ok 25 [.inr (1, none, (tk_M (pt_wF M 7 0 0 0))), .inr (1, some (pt_i 1), (tk_M (pt_wF M 7 0 0 0))), .inl false, .inl false, .inl false, .inl false] (P := pt_Cal YX7_place (.invokevirtual 92) [pt_r 7 0] (pt_wF M 7 0 0 0) none (tk_M (pt_wF M 7 0 0 0)) ∧ (¬ (4 : Int32) = 0) ∧ pt_Cal YX7_place (.invokestatic 85) [pt_i x1] (tk_M (pt_wF M 7 0 0 0)) (some (pt_i 1)) (tk_M (pt_wF M 7 0 0 0)) ∧ (¬ (1 : Int32) = (0 : Int32)) ∧ (¬ (4 : Int32) = 0) ∧ (((pt_F (tk_M (pt_wF M 7 0 0 0)) 7 3 0) - (pt_F (tk_M (pt_wF M 7 0 0 0)) 7 3 0) / 4 * 4) = 0) ∧ (¬ ((pt_F (tk_M (pt_wF M 7 0 0 0)) 7 3 0) / 4) < 3) ∧ (¬ ((pt_F (tk_M (pt_wF M 7 0 0 0)) 7 3 0) / 4) ≤ 10) ∧ True) (by with_unfolding_all rfl) ⟨(pt_callV (i := 0) kX7_place_92 mX7_taken rfl (by decide) rfl (dX7_taken (pt_wF M 7 0 0 0))), (by decide), (pt_callS kX7_place_85 mX7_isSlot rfl (dX7_isSlot_1 h1)), (by decide), (by decide), h2, h3, h4, trivial⟩
set_option maxRecDepth 100000 in
theorem gX7_place_0_2 (x1 : Int32)  (M : pt_M) (h1 : sl_P x1) (h2 : ((pt_F (tk_M (pt_wF M 7 0 0 0)) 7 3 0) - (pt_F (tk_M (pt_wF M 7 0 0 0)) 7 3 0) / 4 * 4) = 0) (h3 : ¬ ((pt_F (tk_M (pt_wF M 7 0 0 0)) 7 3 0) / 4) < 3) (h4 : ((pt_F (tk_M (pt_wF M 7 0 0 0)) 7 3 0) / 4) ≤ 10) :
    pt_Go YX7_place (0, [(0, pt_r 7 0), (1, pt_i x1)], [], M)
      (47, [(0, pt_r 7 0), (1, pt_i x1), (2, pt_i ((pt_F (tk_M (pt_wF M 7 0 0 0)) 7 3 0) / 4)), (3, pt_i 0)], [], (tk_M (pt_wF M 7 0 0 0))) :=
  pt_run_ok tX7_place_ok 26 [.inr (1, none, (tk_M (pt_wF M 7 0 0 0))), .inr (1, some (pt_i 1), (tk_M (pt_wF M 7 0 0 0))), .inl false, .inl false, .inl false, .inl true] (P := pt_Cal YX7_place (.invokevirtual 92) [pt_r 7 0] (pt_wF M 7 0 0 0) none (tk_M (pt_wF M 7 0 0 0)) ∧ (¬ (4 : Int32) = 0) ∧ pt_Cal YX7_place (.invokestatic 85) [pt_i x1] (tk_M (pt_wF M 7 0 0 0)) (some (pt_i 1)) (tk_M (pt_wF M 7 0 0 0)) ∧ (¬ (1 : Int32) = (0 : Int32)) ∧ (¬ (4 : Int32) = 0) ∧ (((pt_F (tk_M (pt_wF M 7 0 0 0)) 7 3 0) - (pt_F (tk_M (pt_wF M 7 0 0 0)) 7 3 0) / 4 * 4) = 0) ∧ (¬ ((pt_F (tk_M (pt_wF M 7 0 0 0)) 7 3 0) / 4) < 3) ∧ (((pt_F (tk_M (pt_wF M 7 0 0 0)) 7 3 0) / 4) ≤ 10) ∧ True) (by with_unfolding_all rfl) ⟨(pt_callV (i := 0) kX7_place_92 mX7_taken rfl (by decide) rfl (dX7_taken (pt_wF M 7 0 0 0))), (by decide), (pt_callS kX7_place_85 mX7_isSlot rfl (dX7_isSlot_1 h1)), (by decide), (by decide), h2, h3, h4, trivial⟩
set_option maxRecDepth 100000 in
theorem gX7_place_0_3 (x1 : Int32)  (M : pt_M) (h1 : sl_P x1) (h2 : ((pt_F (tk_M (pt_wF M 7 0 0 0)) 7 3 0) - (pt_F (tk_M (pt_wF M 7 0 0 0)) 7 3 0) / 4 * 4) = 0) (h3 : ((pt_F (tk_M (pt_wF M 7 0 0 0)) 7 3 0) / 4) < 3) :
    pt_Go YX7_place (0, [(0, pt_r 7 0), (1, pt_i x1)], [], M)
      (44, [(0, pt_r 7 0), (1, pt_i x1), (2, pt_i ((pt_F (tk_M (pt_wF M 7 0 0 0)) 7 3 0) / 4))], [pt_i 1], (tk_M (pt_wF M 7 0 0 0))) :=
  pt_run_ok tX7_place_ok 22 [.inr (1, none, (tk_M (pt_wF M 7 0 0 0))), .inr (1, some (pt_i 1), (tk_M (pt_wF M 7 0 0 0))), .inl false, .inl false, .inl true] (P := pt_Cal YX7_place (.invokevirtual 92) [pt_r 7 0] (pt_wF M 7 0 0 0) none (tk_M (pt_wF M 7 0 0 0)) ∧ (¬ (4 : Int32) = 0) ∧ pt_Cal YX7_place (.invokestatic 85) [pt_i x1] (tk_M (pt_wF M 7 0 0 0)) (some (pt_i 1)) (tk_M (pt_wF M 7 0 0 0)) ∧ (¬ (1 : Int32) = (0 : Int32)) ∧ (¬ (4 : Int32) = 0) ∧ (((pt_F (tk_M (pt_wF M 7 0 0 0)) 7 3 0) - (pt_F (tk_M (pt_wF M 7 0 0 0)) 7 3 0) / 4 * 4) = 0) ∧ (((pt_F (tk_M (pt_wF M 7 0 0 0)) 7 3 0) / 4) < 3) ∧ True) (by with_unfolding_all rfl) ⟨(pt_callV (i := 0) kX7_place_92 mX7_taken rfl (by decide) rfl (dX7_taken (pt_wF M 7 0 0 0))), (by decide), (pt_callS kX7_place_85 mX7_isSlot rfl (dX7_isSlot_1 h1)), (by decide), (by decide), h2, h3, trivial⟩
set_option maxRecDepth 100000 in
theorem gX7_place_0_4 (x1 : Int32)  (M : pt_M) (h1 : sl_P x1) (h2 : ¬ ((pt_F (tk_M (pt_wF M 7 0 0 0)) 7 3 0) - (pt_F (tk_M (pt_wF M 7 0 0 0)) 7 3 0) / 4 * 4) = 0) :
    pt_Go YX7_place (0, [(0, pt_r 7 0), (1, pt_i x1)], [], M)
      (44, [(0, pt_r 7 0), (1, pt_i x1), (2, pt_i ((pt_F (tk_M (pt_wF M 7 0 0 0)) 7 3 0) / 4))], [pt_i 1], (tk_M (pt_wF M 7 0 0 0))) :=
  pt_run_ok tX7_place_ok 19 [.inr (1, none, (tk_M (pt_wF M 7 0 0 0))), .inr (1, some (pt_i 1), (tk_M (pt_wF M 7 0 0 0))), .inl false, .inl true] (P := pt_Cal YX7_place (.invokevirtual 92) [pt_r 7 0] (pt_wF M 7 0 0 0) none (tk_M (pt_wF M 7 0 0 0)) ∧ (¬ (4 : Int32) = 0) ∧ pt_Cal YX7_place (.invokestatic 85) [pt_i x1] (tk_M (pt_wF M 7 0 0 0)) (some (pt_i 1)) (tk_M (pt_wF M 7 0 0 0)) ∧ (¬ (1 : Int32) = (0 : Int32)) ∧ (¬ (4 : Int32) = 0) ∧ (¬ ((pt_F (tk_M (pt_wF M 7 0 0 0)) 7 3 0) - (pt_F (tk_M (pt_wF M 7 0 0 0)) 7 3 0) / 4 * 4) = 0) ∧ True) (by with_unfolding_all rfl) ⟨(pt_callV (i := 0) kX7_place_92 mX7_taken rfl (by decide) rfl (dX7_taken (pt_wF M 7 0 0 0))), (by decide), (pt_callS kX7_place_85 mX7_isSlot rfl (dX7_isSlot_1 h1)), (by decide), (by decide), h2, trivial⟩
set_option maxRecDepth 100000 in
theorem gX7_place_0_5 (x1 : Int32)  (M : pt_M) (h1 : ¬ sl_P x1) :
    pt_Go YX7_place (0, [(0, pt_r 7 0), (1, pt_i x1)], [], M)
      (44, [(0, pt_r 7 0), (1, pt_i x1), (2, pt_i ((pt_F (tk_M (pt_wF M 7 0 0 0)) 7 3 0) / 4))], [pt_i 1], (tk_M (pt_wF M 7 0 0 0))) :=
  pt_run_ok tX7_place_ok 14 [.inr (1, none, (tk_M (pt_wF M 7 0 0 0))), .inr (1, some (pt_i 0), (tk_M (pt_wF M 7 0 0 0))), .inl true] (P := pt_Cal YX7_place (.invokevirtual 92) [pt_r 7 0] (pt_wF M 7 0 0 0) none (tk_M (pt_wF M 7 0 0 0)) ∧ (¬ (4 : Int32) = 0) ∧ pt_Cal YX7_place (.invokestatic 85) [pt_i x1] (tk_M (pt_wF M 7 0 0 0)) (some (pt_i 0)) (tk_M (pt_wF M 7 0 0 0)) ∧ ((0 : Int32) = (0 : Int32)) ∧ True) (by with_unfolding_all rfl) ⟨(pt_callV (i := 0) kX7_place_92 mX7_taken rfl (by decide) rfl (dX7_taken (pt_wF M 7 0 0 0))), (by decide), (pt_callS kX7_place_85 mX7_isSlot rfl (dX7_isSlot_0 h1)), (by decide), trivial⟩
set_option maxRecDepth 100000 in
theorem gX7_place_47_1 (l1 : Int32) (l2 : Int32) (l3 : Int32)  (M : pt_M) (h1 : ¬ l2 ≤ l3) (h2 : pt_in (4 * l3) 140) (h3 : pt_in ((4 * l3) + 1) 140) (h4 : pt_in l3 10) :
    pt_Go YX7_place (47, [(0, pt_r 7 0), (1, pt_i l1), (2, pt_i l2), (3, pt_i l3)], [], M)
      (85, [(0, pt_r 7 0), (1, pt_i l1), (2, pt_i l2), (3, pt_i l3)], [], (pt_wG M 33 (vp_updL (pt_G M 33) (pt_nt l3) ((((pt_A M 30 0 (pt_nt (4 * l3))) <<< ((8 : Int32) &&& 31)) ||| ((pt_A M 30 0 (pt_nt ((4 * l3) + 1))) &&& 255)).toInt64)))) :=
  pt_run_ok tX7_place_ok 27 [.inl false] (P := (¬ l2 ≤ l3) ∧ (pt_in (4 * l3) 140) ∧ (pt_in ((4 * l3) + 1) 140) ∧ (pt_in l3 10) ∧ True) (by with_unfolding_all rfl) ⟨h1, h2, h3, h4, trivial⟩
set_option maxRecDepth 100000 in
theorem gX7_place_47_2 (l1 : Int32) (l2 : Int32) (l3 : Int32)  (M : pt_M) (h1 : l2 ≤ l3) :
    pt_Go YX7_place (47, [(0, pt_r 7 0), (1, pt_i l1), (2, pt_i l2), (3, pt_i l3)], [], M)
      (182, [(0, pt_r 7 0), (1, pt_i l1), (2, pt_i l2), (3, pt_i 0)], [], M) :=
  pt_run_ok tX7_place_ok 5 [.inl true] (P := (l2 ≤ l3) ∧ True) (by with_unfolding_all rfl) ⟨h1, trivial⟩
set_option maxRecDepth 100000 in
theorem gX7_place_85_1 (l1 : Int32) (l2 : Int32) (l3 : Int32)  (M : pt_M) (h1 : pt_in ((4 * l3) + 2) 140) (h2 : pt_in ((4 * l3) + 3) 140) (h3 : pt_in l3 10) :
    pt_Go YX7_place (85, [(0, pt_r 7 0), (1, pt_i l1), (2, pt_i l2), (3, pt_i l3)], [], M)
      (120, [(0, pt_r 7 0), (1, pt_i l1), (2, pt_i l2), (3, pt_i l3)], [], (pt_wG M 34 (vp_updL (pt_G M 34) (pt_nt l3) ((((pt_A M 30 0 (pt_nt ((4 * l3) + 2))) <<< ((8 : Int32) &&& 31)) ||| ((pt_A M 30 0 (pt_nt ((4 * l3) + 3))) &&& 255)).toInt64)))) :=
  pt_run_ok tX7_place_ok 26 [] (P := (pt_in ((4 * l3) + 2) 140) ∧ (pt_in ((4 * l3) + 3) 140) ∧ (pt_in l3 10) ∧ True) (by with_unfolding_all rfl) ⟨h1, h2, h3, trivial⟩
set_option maxRecDepth 100000 in
theorem gX7_place_182_1 (l1 : Int32) (l2 : Int32) (l3 : Int32)  (M : pt_M) (h1 : ¬ l2 ≤ l3) :
    pt_Go YX7_place (182, [(0, pt_r 7 0), (1, pt_i l1), (2, pt_i l2), (3, pt_i l3)], [], M)
      (192, [(0, pt_r 7 0), (1, pt_i l1), (2, pt_i l2), (3, pt_i l3), (4, pt_i (l3 + 1))], [], M) :=
  pt_run_ok tX7_place_ok 7 [.inl false] (P := (¬ l2 ≤ l3) ∧ True) (by with_unfolding_all rfl) ⟨h1, trivial⟩
set_option maxRecDepth 100000 in
theorem gX7_place_182_2 (l1 : Int32) (l2 : Int32) (l3 : Int32)  (M : pt_M) (h1 : l2 ≤ l3) (h2 : cc_P 720 (120 * l1)) (h3 : pt_in l1 6) :
    pt_Go YX7_place (182, [(0, pt_r 7 0), (1, pt_i l1), (2, pt_i l2), (3, pt_i l3)], [], M)
      (358, [(0, pt_r 7 0), (1, pt_i l1), (2, pt_i l2), (3, pt_i l3)], [pt_i 0], (pt_wA (cc_M M 720 (120 * l1)) 31 0 (upd (pt_A (cc_M M 720 (120 * l1)) 31 0) (pt_nt l1) l2))) :=
  pt_run_ok tX7_place_ok 15 [.inl true, .inr (3, none, (cc_M M 720 (120 * l1)))] (P := (l2 ≤ l3) ∧ pt_Cal YX7_place (.invokevirtual 103) [pt_r 7 0, pt_i 720, pt_i (120 * l1)] M none (cc_M M 720 (120 * l1)) ∧ (pt_in l1 6) ∧ True) (by with_unfolding_all rfl) ⟨h1, (pt_callV (i := 0) kX7_place_103 mX7_copy rfl (by decide) rfl (dX7_copy h2)), h3, trivial⟩
set_option maxRecDepth 100000 in
theorem gX7_place_120_1 (l1 : Int32) (l2 : Int32) (l3 : Int32)  (M : pt_M) (h1 : pt_in l3 10) (h2 : ¬ (lg_cmp (pt_G M 33 (pt_nt l3)) (-10000)) < 0) (h3 : ¬ 0 < (lg_cmp (pt_G M 33 (pt_nt l3)) 10000)) (h4 : ¬ (lg_cmp (pt_G M 34 (pt_nt l3)) (-10000)) < 0) (h5 : ¬ (lg_cmp (pt_G M 34 (pt_nt l3)) 10000) ≤ 0) :
    pt_Go YX7_place (120, [(0, pt_r 7 0), (1, pt_i l1), (2, pt_i l2), (3, pt_i l3)], [], M)
      (173, [(0, pt_r 7 0), (1, pt_i l1), (2, pt_i l2), (3, pt_i l3)], [pt_i 1], M) :=
  pt_run_ok tX7_place_ok 29 [.inl false, .inl false, .inl false, .inl false] (P := (pt_in l3 10) ∧ (¬ (lg_cmp (pt_G M 33 (pt_nt l3)) (-10000)) < 0) ∧ (pt_in l3 10) ∧ (¬ 0 < (lg_cmp (pt_G M 33 (pt_nt l3)) 10000)) ∧ (pt_in l3 10) ∧ (¬ (lg_cmp (pt_G M 34 (pt_nt l3)) (-10000)) < 0) ∧ (pt_in l3 10) ∧ (¬ (lg_cmp (pt_G M 34 (pt_nt l3)) 10000) ≤ 0) ∧ True) (by with_unfolding_all rfl) ⟨h1, h2, h1, h3, h1, h4, h1, h5, trivial⟩
set_option maxRecDepth 100000 in
theorem gX7_place_120_2 (l1 : Int32) (l2 : Int32) (l3 : Int32)  (M : pt_M) (h1 : pt_in l3 10) (h2 : ¬ (lg_cmp (pt_G M 33 (pt_nt l3)) (-10000)) < 0) (h3 : ¬ 0 < (lg_cmp (pt_G M 33 (pt_nt l3)) 10000)) (h4 : ¬ (lg_cmp (pt_G M 34 (pt_nt l3)) (-10000)) < 0) (h5 : (lg_cmp (pt_G M 34 (pt_nt l3)) 10000) ≤ 0) :
    pt_Go YX7_place (120, [(0, pt_r 7 0), (1, pt_i l1), (2, pt_i l2), (3, pt_i l3)], [], M)
      (47, [(0, pt_r 7 0), (1, pt_i l1), (2, pt_i l2), (3, pt_i (l3 + 1))], [], M) :=
  pt_run_ok tX7_place_ok 30 [.inl false, .inl false, .inl false, .inl true] (P := (pt_in l3 10) ∧ (¬ (lg_cmp (pt_G M 33 (pt_nt l3)) (-10000)) < 0) ∧ (pt_in l3 10) ∧ (¬ 0 < (lg_cmp (pt_G M 33 (pt_nt l3)) 10000)) ∧ (pt_in l3 10) ∧ (¬ (lg_cmp (pt_G M 34 (pt_nt l3)) (-10000)) < 0) ∧ (pt_in l3 10) ∧ ((lg_cmp (pt_G M 34 (pt_nt l3)) 10000) ≤ 0) ∧ True) (by with_unfolding_all rfl) ⟨h1, h2, h1, h3, h1, h4, h1, h5, trivial⟩
set_option maxRecDepth 100000 in
theorem gX7_place_120_3 (l1 : Int32) (l2 : Int32) (l3 : Int32)  (M : pt_M) (h1 : pt_in l3 10) (h2 : ¬ (lg_cmp (pt_G M 33 (pt_nt l3)) (-10000)) < 0) (h3 : ¬ 0 < (lg_cmp (pt_G M 33 (pt_nt l3)) 10000)) (h4 : (lg_cmp (pt_G M 34 (pt_nt l3)) (-10000)) < 0) :
    pt_Go YX7_place (120, [(0, pt_r 7 0), (1, pt_i l1), (2, pt_i l2), (3, pt_i l3)], [], M)
      (173, [(0, pt_r 7 0), (1, pt_i l1), (2, pt_i l2), (3, pt_i l3)], [pt_i 1], M) :=
  pt_run_ok tX7_place_ok 22 [.inl false, .inl false, .inl true] (P := (pt_in l3 10) ∧ (¬ (lg_cmp (pt_G M 33 (pt_nt l3)) (-10000)) < 0) ∧ (pt_in l3 10) ∧ (¬ 0 < (lg_cmp (pt_G M 33 (pt_nt l3)) 10000)) ∧ (pt_in l3 10) ∧ ((lg_cmp (pt_G M 34 (pt_nt l3)) (-10000)) < 0) ∧ True) (by with_unfolding_all rfl) ⟨h1, h2, h1, h3, h1, h4, trivial⟩
set_option maxRecDepth 100000 in
theorem gX7_place_120_4 (l1 : Int32) (l2 : Int32) (l3 : Int32)  (M : pt_M) (h1 : pt_in l3 10) (h2 : ¬ (lg_cmp (pt_G M 33 (pt_nt l3)) (-10000)) < 0) (h3 : 0 < (lg_cmp (pt_G M 33 (pt_nt l3)) 10000)) :
    pt_Go YX7_place (120, [(0, pt_r 7 0), (1, pt_i l1), (2, pt_i l2), (3, pt_i l3)], [], M)
      (173, [(0, pt_r 7 0), (1, pt_i l1), (2, pt_i l2), (3, pt_i l3)], [pt_i 1], M) :=
  pt_run_ok tX7_place_ok 15 [.inl false, .inl true] (P := (pt_in l3 10) ∧ (¬ (lg_cmp (pt_G M 33 (pt_nt l3)) (-10000)) < 0) ∧ (pt_in l3 10) ∧ (0 < (lg_cmp (pt_G M 33 (pt_nt l3)) 10000)) ∧ True) (by with_unfolding_all rfl) ⟨h1, h2, h1, h3, trivial⟩
set_option maxRecDepth 100000 in
theorem gX7_place_120_5 (l1 : Int32) (l2 : Int32) (l3 : Int32)  (M : pt_M) (h1 : pt_in l3 10) (h2 : (lg_cmp (pt_G M 33 (pt_nt l3)) (-10000)) < 0) :
    pt_Go YX7_place (120, [(0, pt_r 7 0), (1, pt_i l1), (2, pt_i l2), (3, pt_i l3)], [], M)
      (173, [(0, pt_r 7 0), (1, pt_i l1), (2, pt_i l2), (3, pt_i l3)], [pt_i 1], M) :=
  pt_run_ok tX7_place_ok 8 [.inl true] (P := (pt_in l3 10) ∧ ((lg_cmp (pt_G M 33 (pt_nt l3)) (-10000)) < 0) ∧ True) (by with_unfolding_all rfl) ⟨h1, h2, trivial⟩
set_option maxRecDepth 100000 in
theorem gX7_place_192_1 (l1 : Int32) (l2 : Int32) (l3 : Int32) (l4 : Int32)  (M : pt_M) (h1 : ¬ l2 ≤ l4) :
    pt_Go YX7_place (192, [(0, pt_r 7 0), (1, pt_i l1), (2, pt_i l2), (3, pt_i l3), (4, pt_i l4)], [], M)
      (204, [(0, pt_r 7 0), (1, pt_i l1), (2, pt_i l2), (3, pt_i l3), (4, pt_i l4), (5, pt_i (l4 + 1))], [], M) :=
  pt_run_ok tX7_place_ok 7 [.inl false] (P := (¬ l2 ≤ l4) ∧ True) (by with_unfolding_all rfl) ⟨h1, trivial⟩
set_option maxRecDepth 100000 in
theorem gX7_place_192_2 (l1 : Int32) (l2 : Int32) (l3 : Int32) (l4 : Int32)  (M : pt_M) (h1 : l2 ≤ l4) :
    pt_Go YX7_place (192, [(0, pt_r 7 0), (1, pt_i l1), (2, pt_i l2), (3, pt_i l3), (4, pt_i l4)], [], M)
      (182, [(0, pt_r 7 0), (1, pt_i l1), (2, pt_i l2), (3, pt_i (l3 + 1))], [], M) :=
  (pt_run_ok tX7_place_ok 5 [.inl true] (P := (l2 ≤ l4) ∧ True) (by with_unfolding_all rfl) ⟨h1, trivial⟩ : pt_Go YX7_place _ (182, [(0, pt_r 7 0), (1, pt_i l1), (2, pt_i l2), (3, pt_i (l3 + 1)), (4, pt_i l4)], [], M)).tr (pt_pick [0, 1, 2, 3] (by with_unfolding_all rfl))
set_option maxRecDepth 100000 in
theorem gX7_place_204_1 (l1 : Int32) (l2 : Int32) (l3 : Int32) (l4 : Int32) (l5 : Int32)  (M : pt_M) (h1 : ¬ l2 ≤ l5) (h2 : pt_in l4 10) (h3 : pt_in l3 10) (h4 : pt_in l5 10) :
    pt_Go YX7_place (204, [(0, pt_r 7 0), (1, pt_i l1), (2, pt_i l2), (3, pt_i l3), (4, pt_i l4), (5, pt_i l5)], [], M)
      (271, [(0, pt_r 7 0), (1, pt_i l1), (2, pt_i l2), (3, pt_i l3), (4, pt_i l4), (5, pt_i l5), (6, pt_l ((((pt_G M 33 (pt_nt l4)) - (pt_G M 33 (pt_nt l3))) * ((pt_G M 34 (pt_nt l5)) - (pt_G M 34 (pt_nt l3)))) - (((pt_G M 34 (pt_nt l4)) - (pt_G M 34 (pt_nt l3))) * ((pt_G M 33 (pt_nt l5)) - (pt_G M 33 (pt_nt l3))))))], [], M) :=
  pt_run_ok tX7_place_ok 43 [.inl false] (P := (¬ l2 ≤ l5) ∧ (pt_in l4 10) ∧ (pt_in l3 10) ∧ (pt_in l5 10) ∧ (pt_in l3 10) ∧ (pt_in l4 10) ∧ (pt_in l3 10) ∧ (pt_in l5 10) ∧ (pt_in l3 10) ∧ True) (by with_unfolding_all rfl) ⟨h1, h2, h3, h4, h3, h2, h3, h4, h3, trivial⟩
set_option maxRecDepth 100000 in
theorem gX7_place_204_2 (l1 : Int32) (l2 : Int32) (l3 : Int32) (l4 : Int32) (l5 : Int32)  (M : pt_M) (h1 : l2 ≤ l5) :
    pt_Go YX7_place (204, [(0, pt_r 7 0), (1, pt_i l1), (2, pt_i l2), (3, pt_i l3), (4, pt_i l4), (5, pt_i l5)], [], M)
      (192, [(0, pt_r 7 0), (1, pt_i l1), (2, pt_i l2), (3, pt_i l3), (4, pt_i (l4 + 1))], [], M) :=
  (pt_run_ok tX7_place_ok 5 [.inl true] (P := (l2 ≤ l5) ∧ True) (by with_unfolding_all rfl) ⟨h1, trivial⟩ : pt_Go YX7_place _ (192, [(0, pt_r 7 0), (1, pt_i l1), (2, pt_i l2), (3, pt_i l3), (4, pt_i (l4 + 1)), (5, pt_i l5)], [], M)).tr (pt_pick [0, 1, 2, 3, 4] (by with_unfolding_all rfl))
set_option maxRecDepth 100000 in
theorem gX7_place_271_1 (l1 : Int32) (l2 : Int32) (l3 : Int32) (l4 : Int32) (l5 : Int32) (l6 : Int64)  (M : pt_M) (h1 : (lg_cmp l6 0) = 0) :
    pt_Go YX7_place (271, [(0, pt_r 7 0), (1, pt_i l1), (2, pt_i l2), (3, pt_i l3), (4, pt_i l4), (5, pt_i l5), (6, pt_l l6)], [], M)
      (296, [(0, pt_r 7 0), (1, pt_i l1), (2, pt_i l2), (3, pt_i l3), (4, pt_i l4), (5, pt_i l5), (6, pt_l l6)], [pt_i 2], (pt_wF M 7 8 0 (((100 * l3) + (10 * l4)) + l5))) :=
  pt_run_ok tX7_place_ok 16 [.inl false] (P := ((lg_cmp l6 0) = 0) ∧ True) (by with_unfolding_all rfl) ⟨h1, trivial⟩
set_option maxRecDepth 100000 in
theorem gX7_place_271_2 (l1 : Int32) (l2 : Int32) (l3 : Int32) (l4 : Int32) (l5 : Int32) (l6 : Int64)  (M : pt_M) (h1 : ¬ (lg_cmp l6 0) = 0) (h2 : ¬ (lg_cmp l6 0) ≤ 0) (h3 : pt_in (720 + (th_I l3 l4 l5)) 960) :
    pt_Go YX7_place (271, [(0, pt_r 7 0), (1, pt_i l1), (2, pt_i l2), (3, pt_i l3), (4, pt_i l4), (5, pt_i l5), (6, pt_l l6)], [], M)
      (204, [(0, pt_r 7 0), (1, pt_i l1), (2, pt_i l2), (3, pt_i l3), (4, pt_i l4), (5, pt_i (l5 + 1))], [], (se_M M 720 l3 l4 l5 1)) :=
  (pt_run_ok tX7_place_ok 18 [.inl true, .inl false, .inr (6, none, (se_M M 720 l3 l4 l5 1))] (P := (¬ (lg_cmp l6 0) = 0) ∧ (¬ (lg_cmp l6 0) ≤ 0) ∧ pt_Cal YX7_place (.invokevirtual 99) [pt_r 7 0, pt_i 720, pt_i l3, pt_i l4, pt_i l5, pt_i 1] M none (se_M M 720 l3 l4 l5 1) ∧ True) (by with_unfolding_all rfl) ⟨h1, h2, (pt_callV (i := 0) kX7_place_99 mX7_set rfl (by decide) rfl (dX7_set h3)), trivial⟩ : pt_Go YX7_place _ (204, [(0, pt_r 7 0), (1, pt_i l1), (2, pt_i l2), (3, pt_i l3), (4, pt_i l4), (5, pt_i (l5 + 1)), (6, pt_l l6)], [], (se_M M 720 l3 l4 l5 1))).tr (pt_pick [0, 1, 2, 3, 4, 5] (by with_unfolding_all rfl))
set_option maxRecDepth 100000 in
theorem gX7_place_271_3 (l1 : Int32) (l2 : Int32) (l3 : Int32) (l4 : Int32) (l5 : Int32) (l6 : Int64)  (M : pt_M) (h1 : ¬ (lg_cmp l6 0) = 0) (h2 : (lg_cmp l6 0) ≤ 0) (h3 : pt_in (720 + (th_I l3 l4 l5)) 960) :
    pt_Go YX7_place (271, [(0, pt_r 7 0), (1, pt_i l1), (2, pt_i l2), (3, pt_i l3), (4, pt_i l4), (5, pt_i l5), (6, pt_l l6)], [], M)
      (204, [(0, pt_r 7 0), (1, pt_i l1), (2, pt_i l2), (3, pt_i l3), (4, pt_i l4), (5, pt_i (l5 + 1))], [], (se_M M 720 l3 l4 l5 (-1))) :=
  (pt_run_ok tX7_place_ok 17 [.inl true, .inl true, .inr (6, none, (se_M M 720 l3 l4 l5 (-1)))] (P := (¬ (lg_cmp l6 0) = 0) ∧ ((lg_cmp l6 0) ≤ 0) ∧ pt_Cal YX7_place (.invokevirtual 99) [pt_r 7 0, pt_i 720, pt_i l3, pt_i l4, pt_i l5, pt_i (-1)] M none (se_M M 720 l3 l4 l5 (-1)) ∧ True) (by with_unfolding_all rfl) ⟨h1, h2, (pt_callV (i := 0) kX7_place_99 mX7_set rfl (by decide) rfl (dX7_set h3)), trivial⟩ : pt_Go YX7_place _ (204, [(0, pt_r 7 0), (1, pt_i l1), (2, pt_i l2), (3, pt_i l3), (4, pt_i l4), (5, pt_i (l5 + 1)), (6, pt_l l6)], [], (se_M M 720 l3 l4 l5 (-1)))).tr (pt_pick [0, 1, 2, 3, 4, 5] (by with_unfolding_all rfl))
def pX_F (b : Nat → Nat) (i : Nat) : Int32 := sx_F b (4 * i)
def pY_F (b : Nat → Nat) (i : Nat) : Int32 := sx_F b (4 * i + 2)
theorem rp_pn {b : Nat → Nat} {k : Nat} : rp_W b k = false ↔ pn_P (pX_F b k) ∧ pn_P (pY_F b k) := by
  have a := sx_b b (4 * k)
  have c := sx_b b (4 * k + 2)
  unfold rp_W
  rw [Bool.or_eq_false_iff, decide_eq_false_iff_not, decide_eq_false_iff_not, ab_far a.1 a.2, ab_far c.1 c.2, Classical.not_not, Classical.not_not]
  exact Iff.rfl
theorem pl_read {s n L : Nat} {b : Nat → Nat} {M : pt_M} (hn : n ≤ 10) (hL : 4 * n ≤ L) (hb : mp_P M L b) : (∀ k, rp_F n b = some k → pt_Go YX7_place (47, [(0, pt_r 7 0), (1, pt_i (nI s)), (2, pt_i (nI n)), (3, pt_i 0)], [], M) (173, [], [pt_i 1], rg_M M (pX_F b) (pY_F b) (k + 1))) ∧ (rp_F n b = none → pt_Go YX7_place (47, [(0, pt_r 7 0), (1, pt_i (nI s)), (2, pt_i (nI n)), (3, pt_i 0)], [], M) (182, [(0, pt_r 7 0), (1, pt_i (nI s)), (2, pt_i (nI n)), (3, pt_i 0)], [], rg_M M (pX_F b) (pY_F b) n)) := by
  have hL2 := hb.1
  refine pt_nest (Y := YX7_place) (S := fun k => (47, [(0, pt_r 7 0), (1, pt_i (nI s)), (2, pt_i (nI n)), (3, pt_i (nI k))], [], rg_M M (pX_F b) (pY_F b) k)) (R := fun k => (173, [], [pt_i 1], rg_M M (pX_F b) (pY_F b) (k + 1))) (n := n) (i := 0) (f := fun k => if rp_W b k then some k else none) (Nat.zero_le n) (by rw [rg_zero]; exact pt_Go.rf) (gX7_place_47_2 (nI s) (nI n) (nI n) _ (Int32.le_refl _)) fun k _ hk => ?_
  have e4 : (4 : Int32) * nI k = nI (4 * k) := pk_mul 4 k
  have e41 : nI (4 * k) + 1 = nI (4 * k + 1) := nI_add _ 1
  have e42 : nI (4 * k) + 2 = nI (4 * k + 2) := nI_add _ 2
  have e43 : nI (4 * k) + 3 = nI (4 * k + 3) := nI_add _ 3
  have g1 := gX7_place_47_1 (nI s) (nI n) (nI k) (rg_M M (pX_F b) (pY_F b) k) (nI_ge hk (by omega))
  rw [e4, e41, pt_nt_nI (by omega), pt_nt_nI (by omega), pt_nt_nI (by omega)] at g1
  have hA : ∀ p, p < L → pt_A (rg_M M (pX_F b) (pY_F b) k) 30 0 p = sb_F (b p) := fun p hp => (hb.2 p hp).1
  rw [hA (4 * k) (by omega), hA (4 * k + 1) (by omega), s16_x (hb.2 _ (by omega)).2 (hb.2 _ (by omega)).2] at g1
  have g1 := g1 (pt_in_nI (by omega) (by decide)) (pt_in_nI (by omega) (by decide)) (pt_in_nI (by omega) (by decide))
  have g2 := gX7_place_85_1 (nI s) (nI n) (nI k) (pt_wG (rg_M M (pX_F b) (pY_F b) k) 33 (vp_updL (pt_G (rg_M M (pX_F b) (pY_F b) k) 33) k (pX_F b k).toInt64))
  have hA2 : ∀ p, p < L → pt_A (pt_wG (rg_M M (pX_F b) (pY_F b) k) 33 (vp_updL (pt_G (rg_M M (pX_F b) (pY_F b) k) 33) k (pX_F b k).toInt64)) 30 0 p = sb_F (b p) := fun p hp => (hb.2 p hp).1
  rw [e4, e42, e43, pt_nt_nI (by omega), pt_nt_nI (by omega), pt_nt_nI (by omega), hA2 (4 * k + 2) (by omega), hA2 (4 * k + 3) (by omega), s16_x (p := 4 * k + 2) (hb.2 _ (by omega)).2 (hb.2 _ (by omega)).2] at g2
  have g2 := g2 (pt_in_nI (by omega) (by decide)) (pt_in_nI (by omega) (by decide)) (pt_in_nI (by omega) (by decide))
  have g3 := (g1.tr g2).toM (rg_step M (pX_F b) (pY_F b) k)
  have h33 : pt_G (rg_M M (pX_F b) (pY_F b) (k + 1)) 33 (pt_nt (nI k)) = (pX_F b k).toInt64 := by
    rw [pt_nt_nI (by omega), rg_33]
    exact if_pos (by omega)
  have h34 : pt_G (rg_M M (pX_F b) (pY_F b) (k + 1)) 34 (pt_nt (nI k)) = (pY_F b k).toInt64 := by
    rw [pt_nt_nI (by omega), rg_34]
    exact if_pos (by omega)
  have h10 : pt_in (nI k) 10 := pt_in_nI (by omega) (by decide)
  have fX := lg_far (x := pX_F b k)
  have fY := lg_far (x := pY_F b k)
  have hr := rp_pn (b := b) (k := k)
  by_cases x1 : lg_cmp (pX_F b k).toInt64 (-10000) < 0
  · have hf : rp_W b k = true := by
      cases c : rp_W b k
      · exact absurd (hr.mp c).1 (fX.mp (Or.inl x1))
      · rfl
    rw [hf]
    refine ⟨fun v z => ?_, fun z => (by cases z)⟩
    cases z
    exact (g3.tr (gX7_place_120_5 (nI s) (nI n) (nI k) _ h10 (by rw [h33]; exact x1))).tr pt_dropA
  by_cases x2 : 0 < lg_cmp (pX_F b k).toInt64 10000
  · have hf : rp_W b k = true := by
      cases c : rp_W b k
      · exact absurd (hr.mp c).1 (fX.mp (Or.inr x2))
      · rfl
    rw [hf]
    refine ⟨fun v z => ?_, fun z => (by cases z)⟩
    cases z
    exact (g3.tr (gX7_place_120_4 (nI s) (nI n) (nI k) _ h10 (by rw [h33]; exact x1) (by rw [h33]; exact x2))).tr pt_dropA
  by_cases y1 : lg_cmp (pY_F b k).toInt64 (-10000) < 0
  · have hf : rp_W b k = true := by
      cases c : rp_W b k
      · exact absurd (hr.mp c).2 (fY.mp (Or.inl y1))
      · rfl
    rw [hf]
    refine ⟨fun v z => ?_, fun z => (by cases z)⟩
    cases z
    exact (g3.tr (gX7_place_120_3 (nI s) (nI n) (nI k) _ h10 (by rw [h33]; exact x1) (by rw [h33]; exact x2) (by rw [h34]; exact y1))).tr pt_dropA
  by_cases y2 : lg_cmp (pY_F b k).toInt64 10000 ≤ 0
  · have hf : rp_W b k = false := by
      refine hr.mpr ⟨?_, ?_⟩
      · by_cases c : pn_P (pX_F b k)
        · exact c
        · exact absurd (fX.mpr c) (fun z => z.elim x1 x2)
      · by_cases c : pn_P (pY_F b k)
        · exact c
        · exact absurd (fY.mpr c) (fun z => z.elim y1 (fun w => Int32.not_lt.mpr y2 w))
    rw [hf]
    exact ⟨fun v z => (by cases z), fun _ => (g3.tr (gX7_place_120_2 (nI s) (nI n) (nI k) _ h10 (by rw [h33]; exact x1) (by rw [h33]; exact x2) (by rw [h34]; exact y1) (by rw [h34]; exact y2))).to (by rw [nI_1])⟩
  · have hf : rp_W b k = true := by
      cases c : rp_W b k
      · exact absurd (hr.mp c).2 (fY.mp (Or.inr (Int32.not_le.mp y2)))
      · rfl
    rw [hf]
    refine ⟨fun v z => ?_, fun z => (by cases z)⟩
    cases z
    exact (g3.tr (gX7_place_120_1 (nI s) (nI n) (nI k) _ h10 (by rw [h33]; exact x1) (by rw [h33]; exact x2) (by rw [h34]; exact y1) (by rw [h34]; exact y2))).tr pt_dropA
def hk_M (M : pt_M) (s n : Nat) (S : Nat → Nat → Nat → Bool) : pt_M := sl_M (cc_M (st_M M 720 n S) 720 (nI (120 * s))) s n
theorem hk_ca {M : pt_M} {s n : Nat} {S : Nat → Nat → Nat → Bool} : ca_P M (hk_M M s n S) := ((ca_wA (by decide)).tr (ca_wA (by decide))).tr (ca_wA (by decide))
theorem hk_32 {M : pt_M} {s n : Nat} {S : Nat → Nat → Nat → Bool} (hs : s < 6) : pt_A (hk_M M s n S) 32 0 = cb_F (pt_A (st_M M 720 n S) 32 0) 720 (120 * s) 120 := by
  show pt_A (cc_M (st_M M 720 n S) 720 (nI (120 * s))) 32 0 = _
  unfold cc_M
  rw [pt_A_wA, pt_nt_nI (by omega), show (720 : Int32) = nI 720 from rfl, pt_nt_nI (by decide)]
theorem MR_hk {M : pt_M} {A : iv_A} {s n : Nat} {S : Nat → Nat → Nat → Bool} (h : MR_P M A) (hs : s < 6) (h3 : 3 ≤ n) (hn : n ≤ 10) : MR_P (hk_M M s n S) (iv_set A s n S) := by
  refine MR_slot h hs rfl rfl rfl rfl rfl rfl rfl (fun q hq => ?_) (fun p g1 g2 => ?_) ⟨?_, Or.inr ⟨h3, ml_of (by omega) hn fun i j k a1 a2 a3 => ?_⟩⟩
  · unfold hk_M sl_M
    rw [pt_A_wA]
    unfold upd
    rw [if_neg hq]
    rfl
  · rw [hk_32 hs]
    unfold cb_F
    rw [if_neg (by omega)]
    unfold st_M
    rw [pt_A_wA]
    exact sm_out (by omega)
  · unfold hk_M sl_M
    rw [pt_A_wA]
    unfold upd
    rw [if_pos rfl]
  · obtain ⟨-, t2⟩ := th_nI a1 a2 (show k < 10 by omega)
    rw [hk_32 hs]
    unfold cb_F
    rw [if_pos (by omega), show 120 * s + th_F i j k - 120 * s + 720 = 720 + th_F i j k by omega]
    exact st_at hn a1 a2 a3
theorem pl_area {s n : Nat} {X Y : Nat → Int32} {M : pt_M} (hs : s < 6) (hn : n ≤ 10) (hX : ∀ i, i < n → pt_G M 33 i = (X i).toInt64) (hY : ∀ i, i < n → pt_G M 34 i = (Y i).toInt64) (hp : ∀ i, i < n → pn_P (X i) ∧ pn_P (Y i)) : (∀ q, ps_F n X Y = some q → pt_Go YX7_place (182, [(0, pt_r 7 0), (1, pt_i (nI s)), (2, pt_i (nI n)), (3, pt_i 0)], [], M) (296, [], [pt_i 2], pt_wF (sp_M M 720 n (as_F X Y) q.1 q.2.1 q.2.2) 7 8 0 (((100 * nI q.1) + (10 * nI q.2.1)) + nI q.2.2))) ∧ (ps_F n X Y = none → pt_Go YX7_place (182, [(0, pt_r 7 0), (1, pt_i (nI s)), (2, pt_i (nI n)), (3, pt_i 0)], [], M) (358, [], [pt_i 0], hk_M M s n (as_F X Y))) := by
  refine pt_nest (Y := YX7_place) (R := fun q : Nat × Nat × Nat => (296, [], [pt_i 2], pt_wF (sp_M M 720 n (as_F X Y) q.1 q.2.1 q.2.2) 7 8 0 (((100 * nI q.1) + (10 * nI q.2.1)) + nI q.2.2))) (n := n) (i := 0)
    (S := fun i => (182, [(0, pt_r 7 0), (1, pt_i (nI s)), (2, pt_i (nI n)), (3, pt_i (nI i))], [], sp_M M 720 n (as_F X Y) i (i + 1) (i + 2)))
    (Nat.zero_le n) (by
      show pt_Go YX7_place _ (182, _, _, sp_M M 720 n (as_F X Y) 0 1 2)
      rw [sp_0]
      exact pt_Go.rf) (((gX7_place_182_2 (nI s) (nI n) (nI n) _ (Int32.le_refl _) ⟨720, 120 * s, rfl, m120 s, by decide, by omega, by omega⟩ (pt_in_nI hs (by decide))).tr pt_dropA).toM (by
        rw [pt_nt_nI (by omega), m120, sp_n]
        rfl)) fun i _ hi =>
    pt_nest (S := fun j => (192, [(0, pt_r 7 0), (1, pt_i (nI s)), (2, pt_i (nI n)), (3, pt_i (nI i)), (4, pt_i (nI j))], [], sp_M M 720 n (as_F X Y) i j (j + 1)))
      (by omega) ((gX7_place_182_1 (nI s) (nI n) (nI i) _ (nI_ge hi (by omega))).to (by rw [nI_1])) ((gX7_place_192_2 (nI s) (nI n) (nI i) (nI n) _ (Int32.le_refl _)).to (by rw [nI_1, sp_i (Nat.le_refl n)])) fun j hj0 hj =>
    pt_nest (S := fun k => (204, [(0, pt_r 7 0), (1, pt_i (nI s)), (2, pt_i (nI n)), (3, pt_i (nI i)), (4, pt_i (nI j)), (5, pt_i (nI k))], [], sp_M M 720 n (as_F X Y) i j k))
      (by omega) ((gX7_place_192_1 (nI s) (nI n) (nI i) (nI j) _ (nI_ge hj (by omega))).to (by rw [nI_1])) ((gX7_place_204_2 (nI s) (nI n) (nI i) (nI j) (nI n) _ (Int32.le_refl _)).to (by rw [nI_1, sp_j])) fun k hk0 hk => by
      have gX : ∀ q, q < n → pt_G (sp_M M 720 n (as_F X Y) i j k) 33 (pt_nt (nI q)) = (X q).toInt64 := fun q hq => by
        rw [pt_nt_nI (by omega)]
        exact hX q hq
      have gY : ∀ q, q < n → pt_G (sp_M M 720 n (as_F X Y) i j k) 34 (pt_nt (nI q)) = (Y q).toInt64 := fun q hq => by
        rw [pt_nt_nI (by omega)]
        exact hY q hq
      have hpp : ∀ q, q = i ∨ q = j ∨ q = k → pn_P (X q) ∧ pn_P (Y q) := fun q hq => hp q (by omega)
      have g1 := gX7_place_204_1 (nI s) (nI n) (nI i) (nI j) (nI k) (sp_M M 720 n (as_F X Y) i j k) (nI_ge hk (by omega)) (pt_in_nI (by omega) (by decide)) (pt_in_nI (by omega) (by decide)) (pt_in_nI (by omega) (by decide))
      rw [gX i hi, gX j hj, gX k hk, gY i hi, gY j hj, gY k hk] at g1
      have g1 : pt_Go YX7_place _ (271, [(0, pt_r 7 0), (1, pt_i (nI s)), (2, pt_i (nI n)), (3, pt_i (nI i)), (4, pt_i (nI j)), (5, pt_i (nI k)), (6, pt_l (al_64 X Y i j k))], [], sp_M M 720 n (as_F X Y) i j k) := g1
      have a0 := ar_0 hpp
      have al := ar_l hpp
      have hin := si_in (o := 720) (by decide) (show i < j by omega) (show j < k by omega) (show k < 10 by omega)
      by_cases c1 : ar_F X Y i j k = 0
      · rw [if_pos c1]
        refine ⟨fun v z => ?_, fun z => (by cases z)⟩
        cases z
        exact (g1.tr (gX7_place_271_1 (nI s) (nI n) (nI i) (nI j) (nI k) _ _ (a0.mpr c1))).tr pt_dropA
      · rw [if_neg c1]
        refine ⟨fun v z => (by cases z), fun _ => ?_⟩
        by_cases c2 : ar_F X Y i j k ≤ 0
        · refine (g1.tr (gX7_place_271_3 (nI s) (nI n) (nI i) (nI j) (nI k) _ _ (fun z => c1 (a0.mp z)) (al.mpr c2) hin)).to ?_
          rw [nI_1, show (720 : Int32) = nI 720 from rfl, sp_k (by decide) hn (by omega) (by omega) hk (by unfold as_F; rw [decide_eq_false (fun z => z c2)]; rfl)]
        · refine (g1.tr (gX7_place_271_2 (nI s) (nI n) (nI i) (nI j) (nI k) _ _ (fun z => c1 (a0.mp z)) (fun z => c2 (al.mp z)) hin)).to ?_
          rw [nI_1, show (720 : Int32) = nI 720 from rfl, sp_k (by decide) hn (by omega) (by omega) hk (by unfold as_F; rw [decide_eq_true c2]; rfl)]
