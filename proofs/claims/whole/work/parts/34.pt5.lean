/-! PointTables: lines, kinds, onRim -/
theorem rX6_lines_11 {vs : List pt_V} {M M' : pt_M} {x : Int32} {L : List (Nat × pt_V)} (hvs : (vs.map pt_w).sum ≤ 7) (hX : M'.2.2.2.2 = M.2.2.2.2) (h : pt_Go YX6_lines (0, pt_en 0 vs, [], M) (11, L, [pt_i x], M')) : pt_Does yX6_lines YX6_lines vs M (some (pt_i x)) M' := pt_does_go tX6_lines_ok nX6_lines hvs hX ⟨_, by with_unfolding_all rfl, rfl, _, rfl, rfl⟩ h
theorem rX6_lines_74 {vs : List pt_V} {M M' : pt_M} {x : Int32} {L : List (Nat × pt_V)} (hvs : (vs.map pt_w).sum ≤ 7) (hX : M'.2.2.2.2 = M.2.2.2.2) (h : pt_Go YX6_lines (0, pt_en 0 vs, [], M) (74, L, [pt_i x], M')) : pt_Does yX6_lines YX6_lines vs M (some (pt_i x)) M' := pt_does_go tX6_lines_ok nX6_lines hvs hX ⟨_, by with_unfolding_all rfl, rfl, _, rfl, rfl⟩ h
set_option maxRecDepth 100000 in
theorem gX6_lines_0_1 (x1 : Int32) (x2 : Int32)  (M : pt_M) (h1 : tA_P M x1) :
    pt_Go YX6_lines (0, [(0, pt_r 2 0), (1, pt_i x1), (2, pt_i x2)], [], M)
      (18, [(2, pt_i x2), (3, pt_r 3 (pt_R M (pt_nt x1 + 1))), (4, pt_i 0), (5, pt_i 0)], [], M) :=
  (pt_run_ok tX6_lines_ok 10 [.inr (2, some (pt_r 3 (pt_R M (pt_nt x1 + 1))), M)] (P := pt_Cal YX6_lines (.invokevirtual 120) [pt_r 2 0, pt_i x1] M (some (pt_r 3 (pt_R M (pt_nt x1 + 1)))) M ∧ True) (by with_unfolding_all rfl) ⟨(pt_callV (i := 0) kX6_lines_120 mX6_tableAt rfl (by decide) rfl (dX6_tableAt_1 h1)), trivial⟩ : pt_Go YX6_lines _ (18, [(0, pt_r 2 0), (1, pt_i x1), (2, pt_i x2), (3, pt_r 3 (pt_R M (pt_nt x1 + 1))), (4, pt_i 0), (5, pt_i 0)], [], M)).tr (pt_pick [2, 3, 4, 5] (by with_unfolding_all rfl))
set_option maxRecDepth 100000 in
theorem gX6_lines_0_2 (x1 : Int32) (x2 : Int32)  (M : pt_M) (h1 : tN_P M x1) :
    pt_Go YX6_lines (0, [(0, pt_r 2 0), (1, pt_i x1), (2, pt_i x2)], [], M)
      (11, [(0, pt_r 2 0), (1, pt_i x1), (2, pt_i x2), (3, pt_r 0 0)], [pt_i (-1)], M) :=
  pt_run_ok tX6_lines_ok 7 [.inr (2, some (pt_r 0 0), M)] (P := pt_Cal YX6_lines (.invokevirtual 120) [pt_r 2 0, pt_i x1] M (some (pt_r 0 0)) M ∧ True) (by with_unfolding_all rfl) ⟨(pt_callV (i := 0) kX6_lines_120 mX6_tableAt rfl (by decide) rfl (dX6_tableAt_0 h1)), trivial⟩
set_option maxRecDepth 100000 in
theorem gX6_lines_18_1 (l2 : Int32) (l3 : Nat) (l4 : Int32) (l5 : Int32)  (M : pt_M) (h1 : l3 < 7) (h2 : ¬ (pt_F M 3 0 l3) ≤ l5) :
    pt_Go YX6_lines (18, [(2, pt_i l2), (3, pt_r 3 l3), (4, pt_i l4), (5, pt_i l5)], [], M)
      (33, [(2, pt_i l2), (3, pt_r 3 l3), (4, pt_i l4), (5, pt_i l5), (6, pt_i (l5 + 1))], [], M) :=
  pt_run_ok tX6_lines_ok 8 [.inl false] (P := (l3 < 7) ∧ (¬ (pt_F M 3 0 l3) ≤ l5) ∧ True) (by with_unfolding_all rfl) ⟨h1, h2, trivial⟩
set_option maxRecDepth 100000 in
theorem gX6_lines_18_2 (l2 : Int32) (l3 : Nat) (l4 : Int32) (l5 : Int32)  (M : pt_M) (h1 : l3 < 7) (h2 : (pt_F M 3 0 l3) ≤ l5) :
    pt_Go YX6_lines (18, [(2, pt_i l2), (3, pt_r 3 l3), (4, pt_i l4), (5, pt_i l5)], [], M)
      (74, [(2, pt_i l2), (3, pt_r 3 l3), (4, pt_i l4), (5, pt_i l5)], [pt_i l4], M) :=
  pt_run_ok tX6_lines_ok 5 [.inl true] (P := (l3 < 7) ∧ ((pt_F M 3 0 l3) ≤ l5) ∧ True) (by with_unfolding_all rfl) ⟨h1, h2, trivial⟩
set_option maxRecDepth 100000 in
theorem gX6_lines_33_1 (l2 : Int32) (l3 : Nat) (l4 : Int32) (l5 : Int32) (l6 : Int32)  (M : pt_M) (h1 : l3 < 7) (h2 : ¬ (pt_F M 3 0 l3) ≤ l6) (h3 : pt_in l5 10) (h4 : pt_in l6 10) (h5 : (bc_F (lo_F M l3 l5 l6)) = l2) :
    pt_Go YX6_lines (33, [(2, pt_i l2), (3, pt_r 3 l3), (4, pt_i l4), (5, pt_i l5), (6, pt_i l6)], [], M)
      (33, [(2, pt_i l2), (3, pt_r 3 l3), (4, pt_i (l4 + 1)), (5, pt_i l5), (6, pt_i (l6 + 1))], [], M) :=
  pt_run_ok tX6_lines_ok 14 [.inl false, .inr (3, some (pt_i (lo_F M l3 l5 l6)), M), .inr (1, some (pt_i (bc_F (lo_F M l3 l5 l6))), M), .inl false] (P := (l3 < 7) ∧ (¬ (pt_F M 3 0 l3) ≤ l6) ∧ pt_Cal YX6_lines (.invokevirtual 248) [pt_r 3 l3, pt_i l5, pt_i l6] M (some (pt_i (lo_F M l3 l5 l6))) M ∧ pt_Cal YX6_lines (.invokestatic 172) [pt_i (lo_F M l3 l5 l6)] M (some (pt_i (bc_F (lo_F M l3 l5 l6)))) M ∧ ((bc_F (lo_F M l3 l5 l6)) = l2) ∧ True) (by with_unfolding_all rfl) ⟨h1, h2, (pt_callV (i := l3) kX6_lines_248 mX4_leftOf rfl h1 rfl (dX4_leftOf_v h1 h3 h4)), (pt_callS kX6_lines_172 mJ6_bitCount_0f7a4 rfl (dJ6_bitCount (lo_F M l3 l5 l6) M)), h5, trivial⟩
set_option maxRecDepth 100000 in
theorem gX6_lines_33_2 (l2 : Int32) (l3 : Nat) (l4 : Int32) (l5 : Int32) (l6 : Int32)  (M : pt_M) (h1 : l3 < 7) (h2 : ¬ (pt_F M 3 0 l3) ≤ l6) (h3 : pt_in l5 10) (h4 : pt_in l6 10) (h5 : ¬ (bc_F (lo_F M l3 l5 l6)) = l2) :
    pt_Go YX6_lines (33, [(2, pt_i l2), (3, pt_r 3 l3), (4, pt_i l4), (5, pt_i l5), (6, pt_i l6)], [], M)
      (33, [(2, pt_i l2), (3, pt_r 3 l3), (4, pt_i l4), (5, pt_i l5), (6, pt_i (l6 + 1))], [], M) :=
  pt_run_ok tX6_lines_ok 13 [.inl false, .inr (3, some (pt_i (lo_F M l3 l5 l6)), M), .inr (1, some (pt_i (bc_F (lo_F M l3 l5 l6))), M), .inl true] (P := (l3 < 7) ∧ (¬ (pt_F M 3 0 l3) ≤ l6) ∧ pt_Cal YX6_lines (.invokevirtual 248) [pt_r 3 l3, pt_i l5, pt_i l6] M (some (pt_i (lo_F M l3 l5 l6))) M ∧ pt_Cal YX6_lines (.invokestatic 172) [pt_i (lo_F M l3 l5 l6)] M (some (pt_i (bc_F (lo_F M l3 l5 l6)))) M ∧ (¬ (bc_F (lo_F M l3 l5 l6)) = l2) ∧ True) (by with_unfolding_all rfl) ⟨h1, h2, (pt_callV (i := l3) kX6_lines_248 mX4_leftOf rfl h1 rfl (dX4_leftOf_v h1 h3 h4)), (pt_callS kX6_lines_172 mJ6_bitCount_0f7a4 rfl (dJ6_bitCount (lo_F M l3 l5 l6) M)), h5, trivial⟩
set_option maxRecDepth 100000 in
theorem gX6_lines_33_3 (l2 : Int32) (l3 : Nat) (l4 : Int32) (l5 : Int32) (l6 : Int32)  (M : pt_M) (h1 : l3 < 7) (h2 : (pt_F M 3 0 l3) ≤ l6) :
    pt_Go YX6_lines (33, [(2, pt_i l2), (3, pt_r 3 l3), (4, pt_i l4), (5, pt_i l5), (6, pt_i l6)], [], M)
      (18, [(2, pt_i l2), (3, pt_r 3 l3), (4, pt_i l4), (5, pt_i (l5 + 1))], [], M) :=
  (pt_run_ok tX6_lines_ok 6 [.inl true] (P := (l3 < 7) ∧ ((pt_F M 3 0 l3) ≤ l6) ∧ True) (by with_unfolding_all rfl) ⟨h1, h2, trivial⟩ : pt_Go YX6_lines _ (18, [(2, pt_i l2), (3, pt_r 3 l3), (4, pt_i l4), (5, pt_i (l5 + 1)), (6, pt_i l6)], [], M)).tr (pt_pick [0, 1, 2, 3] (by with_unfolding_all rfl))
theorem dX6_lines_p2 (x1 : Int32) (x2 : Int32)  (M : pt_M) (h1 : tN_P M x1) : pt_Does yX6_lines YX6_lines [pt_r 2 0, pt_i x1, pt_i x2] M (some (pt_i (-1))) M :=
  rX6_lines_11 (Nat.le_of_ble_eq_true rfl) rfl (gX6_lines_0_2 x1 x2 M h1)
theorem ct_lo {i : Nat} {f : Nat → Bool} : ct_N (fun j => decide (i < j) && f j) (i + 1) = 0 := ct_ff fun a ha => by
  have : decide (i < a) = false := decide_eq_false (by omega)
  rw [this]
  rfl
def pt_kk (k j : Nat) : Int32 := match k with
  | 62 => [0, 1].getD j 0
  | 63 => [0, 1, 7].getD j 0
  | 64 => [0, 1, 3, 7, 15, 23, 31, 63, 76, 183, 191, 254, 255, 510, 531, 947].getD j 0
  | _ => 0
def lr_F (n : Nat) (f : Nat → Nat → Bool) (i : Nat) : Nat := ct_N (fun j => decide (i < j) && f i j) n
def ls_F (n : Nat) (f : Nat → Nat → Bool) : Nat → Nat
  | 0 => 0
  | i + 1 => ls_F n f i + lr_F n f i
def lw_F (B : Nat → Nat → Nat → Bool) (x : Int32) (i j : Nat) : Bool := decide (nI (pc_F (pb_s 10 fun k => B i j k)) = x)
theorem dX6_lines {x1 x2 : Int32} {n : Nat} {B : Nat → Nat → Nat → Bool} {M : pt_M} (hA : tA_P M x1) (h : tb_P M (pt_R M (pt_nt x1 + 1)) n B) : pt_Does yX6_lines YX6_lines [pt_r 2 0, pt_i x1, pt_i x2] M (some (pt_i (nI (ls_F n (lw_F B x2) n)))) M := by
  obtain ⟨ht, hn, hs, hB⟩ := id h
  have g0 := gX6_lines_0_1 x1 x2 M hA
  generalize pt_R M (pt_nt x1 + 1) = t at *
  have hlt : ∀ i, i < n → ¬ pt_F M 3 0 t ≤ nI i := fun i hi => by rw [hs]; exact nI_ge hi (by omega)
  have hle : pt_F M 3 0 t ≤ nI n := by rw [hs]; exact Int32.le_refl _
  have K := pt_for0 (Y := YX6_lines) (fun i => (18, [(2, pt_i x2), (3, pt_r 3 t), (4, pt_i (nI (ls_F n (lw_F B x2) i))), (5, pt_i (nI i))], [], M)) (n := n) fun i hi => by
    refine ((gX6_lines_18_1 x2 t _ (nI i) M ht (hlt i hi)).to ?_).tr ((pt_fori (fun j => (33, [(2, pt_i x2), (3, pt_r 3 t), (4, pt_i (nI (ls_F n (lw_F B x2) i + ct_N (fun j => decide (i < j) && lw_F B x2 i j) j))), (5, pt_i (nI i)), (6, pt_i (nI j))], [], M)) (i := i + 1) (n := n) (by omega) fun j hj0 hj => ?_).tr ((gX6_lines_33_3 x2 t _ (nI i) (nI n) M ht hle).to ?_))
    · rw [nI_1, ct_lo]
      rfl
    · have hl := lo_B hB (a := i) (c := j) (by omega) (by omega)
      have hbc : bc_F (lo_F M t (nI i) (nI j)) = nI (pc_F (pb_s 10 fun k => B i j k)) := by rw [hl]; exact bc_nI (pb_lt _ 10)
      by_cases c : nI (pc_F (pb_s 10 fun k => B i j k)) = x2
      · refine (gX6_lines_33_1 x2 t _ (nI i) (nI j) M ht (hlt j hj) (pt_in_nI (by omega) (by decide)) (pt_in_nI (by omega) (by decide)) (hbc.trans c)).to ?_
        have hc : (decide (i < j) && lw_F B x2 i j) = true := by simp [lw_F, c]; omega
        have e : ct_N (fun j => decide (i < j) && lw_F B x2 i j) (j + 1) = ct_N (fun j => decide (i < j) && lw_F B x2 i j) j + 1 := by
          show _ + (if _ then 1 else 0) = _
          rw [if_pos hc]
        rw [nI_1, nI_1, e, Nat.add_assoc]
      · refine (gX6_lines_33_2 x2 t _ (nI i) (nI j) M ht (hlt j hj) (pt_in_nI (by omega) (by decide)) (pt_in_nI (by omega) (by decide)) (fun z => c (hbc.symm.trans z))).to ?_
        rw [nI_1, ct_n (k := j) (by simp [lw_F, c])]
    · rw [nI_1]
      rfl
  exact rX6_lines_74 (Nat.le_of_ble_eq_true rfl) rfl (g0.tr (K.tr (gX6_lines_18_2 x2 t _ (nI n) M ht hle)))
/-! kinds -/
theorem pt_dts : decode cX6_kindsOf 1 = .ok (.tableswitch 47 3 6 #[31, 35, 39, 43], 31) := by decide +kernel
theorem rX6_kindsOf_35 {vs : List pt_V} {M M' : pt_M} {k i : Nat} {L : List (Nat × pt_V)} (hvs : (vs.map pt_w).sum ≤ 1) (hX : M'.2.2.2.2 = M.2.2.2.2) (h : pt_Go YX6_kindsOf (0, pt_en 0 vs, [], M) (35, L, [pt_r k i], M')) : pt_Does yX6_kindsOf YX6_kindsOf vs M (some (pt_r k i)) M' := pt_does_go tX6_kindsOf_ok nX6_kindsOf hvs hX ⟨_, by with_unfolding_all rfl, rfl, _, rfl, Or.inr ⟨_, rfl⟩⟩ h
theorem rX6_kindsOf_39 {vs : List pt_V} {M M' : pt_M} {k i : Nat} {L : List (Nat × pt_V)} (hvs : (vs.map pt_w).sum ≤ 1) (hX : M'.2.2.2.2 = M.2.2.2.2) (h : pt_Go YX6_kindsOf (0, pt_en 0 vs, [], M) (39, L, [pt_r k i], M')) : pt_Does yX6_kindsOf YX6_kindsOf vs M (some (pt_r k i)) M' := pt_does_go tX6_kindsOf_ok nX6_kindsOf hvs hX ⟨_, by with_unfolding_all rfl, rfl, _, rfl, Or.inr ⟨_, rfl⟩⟩ h
theorem rX6_kindsOf_43 {vs : List pt_V} {M M' : pt_M} {k i : Nat} {L : List (Nat × pt_V)} (hvs : (vs.map pt_w).sum ≤ 1) (hX : M'.2.2.2.2 = M.2.2.2.2) (h : pt_Go YX6_kindsOf (0, pt_en 0 vs, [], M) (43, L, [pt_r k i], M')) : pt_Does yX6_kindsOf YX6_kindsOf vs M (some (pt_r k i)) M' := pt_does_go tX6_kindsOf_ok nX6_kindsOf hvs hX ⟨_, by with_unfolding_all rfl, rfl, _, rfl, Or.inr ⟨_, rfl⟩⟩ h
theorem rX6_kindsOf_47 {vs : List pt_V} {M M' : pt_M} {k i : Nat} {L : List (Nat × pt_V)} (hvs : (vs.map pt_w).sum ≤ 1) (hX : M'.2.2.2.2 = M.2.2.2.2) (h : pt_Go YX6_kindsOf (0, pt_en 0 vs, [], M) (47, L, [pt_r k i], M')) : pt_Does yX6_kindsOf YX6_kindsOf vs M (some (pt_r k i)) M' := pt_does_go tX6_kindsOf_ok nX6_kindsOf hvs hX ⟨_, by with_unfolding_all rfl, rfl, _, rfl, Or.inr ⟨_, rfl⟩⟩ h
theorem rX6_kindsOf_51 {vs : List pt_V} {M M' : pt_M} {k i : Nat} {L : List (Nat × pt_V)} (hvs : (vs.map pt_w).sum ≤ 1) (hX : M'.2.2.2.2 = M.2.2.2.2) (h : pt_Go YX6_kindsOf (0, pt_en 0 vs, [], M) (51, L, [pt_r k i], M')) : pt_Does yX6_kindsOf YX6_kindsOf vs M (some (pt_r k i)) M' := pt_does_go tX6_kindsOf_ok nX6_kindsOf hvs hX ⟨_, by with_unfolding_all rfl, rfl, _, rfl, Or.inr ⟨_, rfl⟩⟩ h
def k0_P (x : Int32) : Prop := x.toInt < 3 ∨ 6 < x.toInt
theorem pt_tsO {x : Int32} {L : List (Nat × pt_V)} {M : pt_M} (h : k0_P x) : pt_Go YX6_kindsOf (1, L, [pt_i x], M) (48, L, [], M) := by
  intro p l e s m args below meth c D ad cA A cells slots Q hC hA H locs ls g1 g2 g3 g4
  exact lv_tableOut hC.1 hC.2.1 pt_dts h rfl (hA H locs ls g1 g2 g3 g4)
theorem pt_ts3 {L : List (Nat × pt_V)} {M : pt_M} : pt_Go YX6_kindsOf (1, L, [pt_i 3], M) (32, L, [], M) := by
  intro p l e s m args below meth c D ad cA A cells slots Q hC hA H locs ls g1 g2 g3 g4
  exact lv_tableIn hC.1 hC.2.1 pt_dts (by decide) (by decide) (off := 31) rfl rfl (hA H locs ls g1 g2 g3 g4)
theorem pt_ts4 {L : List (Nat × pt_V)} {M : pt_M} : pt_Go YX6_kindsOf (1, L, [pt_i 4], M) (36, L, [], M) := by
  intro p l e s m args below meth c D ad cA A cells slots Q hC hA H locs ls g1 g2 g3 g4
  exact lv_tableIn hC.1 hC.2.1 pt_dts (by decide) (by decide) (off := 35) rfl rfl (hA H locs ls g1 g2 g3 g4)
theorem pt_ts5 {L : List (Nat × pt_V)} {M : pt_M} : pt_Go YX6_kindsOf (1, L, [pt_i 5], M) (40, L, [], M) := by
  intro p l e s m args below meth c D ad cA A cells slots Q hC hA H locs ls g1 g2 g3 g4
  exact lv_tableIn hC.1 hC.2.1 pt_dts (by decide) (by decide) (off := 39) rfl rfl (hA H locs ls g1 g2 g3 g4)
theorem pt_ts6 {L : List (Nat × pt_V)} {M : pt_M} : pt_Go YX6_kindsOf (1, L, [pt_i 6], M) (44, L, [], M) := by
  intro p l e s m args below meth c D ad cA A cells slots Q hC hA H locs ls g1 g2 g3 g4
  exact lv_tableIn hC.1 hC.2.1 pt_dts (by decide) (by decide) (off := 43) rfl rfl (hA H locs ls g1 g2 g3 g4)
theorem gX6_kindsOf_0 (x : Int32) (M : pt_M) : pt_Go YX6_kindsOf (0, [(0, pt_i x)], [], M) (1, [(0, pt_i x)], [pt_i x], M) := pt_run_ok tX6_kindsOf_ok 1 [] (P := True) (by with_unfolding_all rfl) trivial
theorem gX6_kindsOf_32 (x : Int32) (M : pt_M) : pt_Go YX6_kindsOf (32, [(0, pt_i x)], [], M) (35, [(0, pt_i x)], [pt_r 61 0], M) := pt_run_ok tX6_kindsOf_ok 1 [] (P := True) (by with_unfolding_all rfl) trivial
theorem gX6_kindsOf_36 (x : Int32) (M : pt_M) : pt_Go YX6_kindsOf (36, [(0, pt_i x)], [], M) (39, [(0, pt_i x)], [pt_r 62 0], M) := pt_run_ok tX6_kindsOf_ok 1 [] (P := True) (by with_unfolding_all rfl) trivial
theorem gX6_kindsOf_40 (x : Int32) (M : pt_M) : pt_Go YX6_kindsOf (40, [(0, pt_i x)], [], M) (43, [(0, pt_i x)], [pt_r 63 0], M) := pt_run_ok tX6_kindsOf_ok 1 [] (P := True) (by with_unfolding_all rfl) trivial
theorem gX6_kindsOf_44 (x : Int32) (M : pt_M) : pt_Go YX6_kindsOf (44, [(0, pt_i x)], [], M) (47, [(0, pt_i x)], [pt_r 64 0], M) := pt_run_ok tX6_kindsOf_ok 1 [] (P := True) (by with_unfolding_all rfl) trivial
theorem gX6_kindsOf_48 (x : Int32) (M : pt_M) : pt_Go YX6_kindsOf (48, [(0, pt_i x)], [], M) (51, [(0, pt_i x)], [pt_r 60 0], M) := pt_run_ok tX6_kindsOf_ok 1 [] (P := True) (by with_unfolding_all rfl) trivial
theorem dX6_kindsOf_0 {x : Int32} {M : pt_M} (h : k0_P x) : pt_Does yX6_kindsOf YX6_kindsOf [pt_i x] M (some (pt_r 60 0)) M := rX6_kindsOf_51 (Nat.le_of_ble_eq_true rfl) rfl ((gX6_kindsOf_0 x M).tr ((pt_tsO h).tr (gX6_kindsOf_48 x M)))
theorem dX6_kindsOf_3 {x : Int32} {M : pt_M} (h : x = 3) : pt_Does yX6_kindsOf YX6_kindsOf [pt_i x] M (some (pt_r 61 0)) M := by
  subst h
  exact rX6_kindsOf_35 (Nat.le_of_ble_eq_true rfl) rfl ((gX6_kindsOf_0 3 M).tr (pt_ts3.tr (gX6_kindsOf_32 3 M)))
theorem dX6_kindsOf_4 {x : Int32} {M : pt_M} (h : x = 4) : pt_Does yX6_kindsOf YX6_kindsOf [pt_i x] M (some (pt_r 62 0)) M := by
  subst h
  exact rX6_kindsOf_39 (Nat.le_of_ble_eq_true rfl) rfl ((gX6_kindsOf_0 4 M).tr (pt_ts4.tr (gX6_kindsOf_36 4 M)))
theorem dX6_kindsOf_5 {x : Int32} {M : pt_M} (h : x = 5) : pt_Does yX6_kindsOf YX6_kindsOf [pt_i x] M (some (pt_r 63 0)) M := by
  subst h
  exact rX6_kindsOf_43 (Nat.le_of_ble_eq_true rfl) rfl ((gX6_kindsOf_0 5 M).tr (pt_ts5.tr (gX6_kindsOf_40 5 M)))
theorem dX6_kindsOf_6 {x : Int32} {M : pt_M} (h : x = 6) : pt_Does yX6_kindsOf YX6_kindsOf [pt_i x] M (some (pt_r 64 0)) M := by
  subst h
  exact rX6_kindsOf_47 (Nat.le_of_ble_eq_true rfl) rfl ((gX6_kindsOf_0 6 M).tr (pt_ts6.tr (gX6_kindsOf_44 6 M)))
def kv_L : List Nat := [0, 1, 3, 7, 15, 23, 31, 63, 76, 183, 191, 254, 255, 510, 531, 947]
def kv_F (m q : Nat) : Nat := match m with
  | 3 => 0
  | 4 => [0, 1].getD q 0
  | 5 => [0, 1, 7].getD q 0
  | _ => kv_L.getD q 0
theorem kv_tab : ((List.range 17).all fun q => decide (kv_F 4 q < 1024) && (decide (kv_F 5 q < 1024) && decide (kv_F 6 q < 1024))) = true := by decide +kernel
theorem kv_t3 : ((List.range 1).all fun q => decide (pt_kk 61 q = nI (kv_F 3 q))) = true := by decide +kernel
theorem kv_t4 : ((List.range 2).all fun q => decide (pt_kk 62 q = nI (kv_F 4 q))) = true := by decide +kernel
theorem kv_t5 : ((List.range 3).all fun q => decide (pt_kk 63 q = nI (kv_F 5 q))) = true := by decide +kernel
theorem kv_t6 : ((List.range 16).all fun q => decide (pt_kk 64 q = nI (kv_F 6 q))) = true := by decide +kernel
theorem kv_3 {q : Nat} (h : q < 1) : pt_kk 61 q = nI (kv_F 3 q) := of_decide_eq_true (pt_all kv_t3 h)
theorem kv_4 {q : Nat} (h : q < 2) : pt_kk 62 q = nI (kv_F 4 q) := of_decide_eq_true (pt_all kv_t4 h)
theorem kv_5 {q : Nat} (h : q < 3) : pt_kk 63 q = nI (kv_F 5 q) := of_decide_eq_true (pt_all kv_t5 h)
theorem kv_6 {q : Nat} (h : q < 16) : pt_kk 64 q = nI (kv_F 6 q) := of_decide_eq_true (pt_all kv_t6 h)
theorem kv_get {l : List Nat} {N q : Nat} (h : ∀ x ∈ l, x < N) (h0 : 0 < N) : l.getD q 0 < N := by
  rw [List.getD_eq_getElem?_getD]
  cases hq : l[q]? with
  | none => exact h0
  | some v => exact h v (List.mem_of_getElem? hq)
theorem kv_lt (m q : Nat) : kv_F m q < 2 ^ 20 := by
  unfold kv_F
  split
  · decide
  · exact kv_get (by decide) (by decide)
  · exact kv_get (by decide) (by decide)
  · exact kv_get (by decide) (by decide)
def kb_W (c N p : Nat) : Int32 := if c.testBit (N - 1 - p) then 2 else 1
def kn_M (M : pt_M) (c N p : Nat) : pt_M := pt_wA M 24 0 (co_F (pt_A M 24 0) (kb_W c N) p)
def wh_F (m K c : Nat) : Option Nat := fs_F (K - 0) 0 fun k => if kv_F m k = c then some k else none
def wh_I (m K c : Nat) : Int32 := match wh_F m K c with
  | none => -1
  | some k => nI k
theorem rX6_kinds_15 {vs : List pt_V} {M M' : pt_M} {x : Int32} {L : List (Nat × pt_V)} (hvs : (vs.map pt_w).sum ≤ 3) (hX : M'.2.2.2.2 = M.2.2.2.2) (h : pt_Go YX6_kinds (0, pt_en 0 vs, [], M) (15, L, [pt_i x], M')) : pt_Does yX6_kinds YX6_kinds vs M (some (pt_i x)) M' := pt_does_go tX6_kinds_ok nX6_kinds hvs hX ⟨_, by with_unfolding_all rfl, rfl, _, rfl, rfl⟩ h
set_option maxRecDepth 100000 in
theorem gX6_kinds0_0_1 (x1 : Int32)  (M : pt_M) (h1 : k0_P x1) (h2 : (nI 0) = 0) :
    pt_Go YX6_kinds (0, [(0, pt_r 2 0), (1, pt_i x1)], [], M)
      (15, [(0, pt_r 2 0), (1, pt_i x1), (2, pt_i (nI 0))], [pt_i (-1)], M) :=
  pt_run_ok tX6_kinds_ok 8 [.inr (1, some (pt_r 60 0), M), .inl false] (P := pt_Cal YX6_kinds (.invokestatic 252) [pt_i x1] M (some (pt_r 60 0)) M ∧ ((nI 0) = 0) ∧ True) (by with_unfolding_all rfl) ⟨(pt_callS kX6_kinds_252 mX6_kindsOf rfl (dX6_kindsOf_0 h1)), h2, trivial⟩
set_option maxRecDepth 100000 in
theorem gX6_kinds0_0_2 (x1 : Int32)  (M : pt_M) (h1 : k0_P x1) (h2 : ¬ (nI 0) = 0) :
    pt_Go YX6_kinds (0, [(0, pt_r 2 0), (1, pt_i x1)], [], M)
      (15, [(0, pt_r 2 0), (1, pt_i x1), (2, pt_i (nI 0))], [pt_i (nI 0)], M) :=
  pt_run_ok tX6_kinds_ok 7 [.inr (1, some (pt_r 60 0), M), .inl true] (P := pt_Cal YX6_kinds (.invokestatic 252) [pt_i x1] M (some (pt_r 60 0)) M ∧ (¬ (nI 0) = 0) ∧ True) (by with_unfolding_all rfl) ⟨(pt_callS kX6_kinds_252 mX6_kindsOf rfl (dX6_kindsOf_0 h1)), h2, trivial⟩
theorem dX6_kinds0_p1 (x1 : Int32)  (M : pt_M) (h1 : k0_P x1) (h2 : (nI 0) = 0) : pt_Does yX6_kinds YX6_kinds [pt_r 2 0, pt_i x1] M (some (pt_i (-1))) M :=
  rX6_kinds_15 (Nat.le_of_ble_eq_true rfl) rfl (gX6_kinds0_0_1 x1 M h1 h2)
theorem dX6_kinds0_p2 (x1 : Int32)  (M : pt_M) (h1 : k0_P x1) (h2 : ¬ (nI 0) = 0) : pt_Does yX6_kinds YX6_kinds [pt_r 2 0, pt_i x1] M (some (pt_i (nI 0))) M :=
  rX6_kinds_15 (Nat.le_of_ble_eq_true rfl) rfl (gX6_kinds0_0_2 x1 M h1 h2)
theorem rX6_kind_25 {vs : List pt_V} {M M' : pt_M} {x : Int32} {L : List (Nat × pt_V)} (hn : narrow .boolean (.int x) = .int x) (hvs : (vs.map pt_w).sum ≤ 7) (hX : M'.2.2.2.2 = M.2.2.2.2) (h : pt_Go YX6_kind (0, pt_en 0 vs, [], M) (25, L, [pt_i x], M')) : pt_Does yX6_kind YX6_kind vs M (some (pt_i x)) M' := pt_does_go tX6_kind_ok nX6_kind hvs hX ⟨_, by with_unfolding_all rfl, rfl, _, rfl, hn⟩ h
theorem rX6_kind_96 {vs : List pt_V} {M M' : pt_M} {x : Int32} {L : List (Nat × pt_V)} (hn : narrow .boolean (.int x) = .int x) (hvs : (vs.map pt_w).sum ≤ 7) (hX : M'.2.2.2.2 = M.2.2.2.2) (h : pt_Go YX6_kind (0, pt_en 0 vs, [], M) (96, L, [pt_i x], M')) : pt_Does yX6_kind YX6_kind vs M (some (pt_i x)) M' := pt_does_go tX6_kind_ok nX6_kind hvs hX ⟨_, by with_unfolding_all rfl, rfl, _, rfl, hn⟩ h
set_option maxRecDepth 100000 in
theorem gX6_kind0_0_1 (x1 : Int32) (x2 : Int32) (x3 : Int32) (n : Nat) (M : pt_M) (h1 : k0_P x2) (h2 : sl_P x1) (h3 : ¬ x3 < 0) (h4 : ¬ x3 < (nI 0)) :
    pt_Go YX6_kind (0, [(0, pt_r 2 0), (1, pt_i x1), (2, pt_i x2), (3, pt_i x3)], [], M)
      (25, [(0, pt_r 2 0), (1, pt_i x1), (2, pt_i x2), (3, pt_i x3), (4, pt_r 60 0)], [pt_i 0], M) :=
  pt_run_ok tX6_kind_ok 13 [.inr (1, some (pt_r 60 0), M), .inr (1, some (pt_i 1), M), .inl false, .inl false, .inl false] (P := pt_Cal YX6_kind (.invokestatic 252) [pt_i x2] M (some (pt_r 60 0)) M ∧ pt_Cal YX6_kind (.invokestatic 75) [pt_i x1] M (some (pt_i 1)) M ∧ (¬ (1 : Int32) = (0 : Int32)) ∧ (¬ x3 < 0) ∧ (¬ x3 < (nI 0)) ∧ True) (by with_unfolding_all rfl) ⟨(pt_callS kX6_kind_252 mX6_kindsOf rfl (dX6_kindsOf_0 h1)), (pt_callS kX6_kind_75 mX6_isSlot rfl (dX6_isSlot_1 h2)), (by decide), h3, h4, trivial⟩
set_option maxRecDepth 100000 in
theorem gX6_kind0_0_2 (x1 : Int32) (x2 : Int32) (x3 : Int32) (n : Nat) (M : pt_M) (h1 : k0_P x2) (h2 : sl_P x1) (h3 : ¬ x3 < 0) (h4 : x3 < (nI 0)) :
    pt_Go YX6_kind (0, [(0, pt_r 2 0), (1, pt_i x1), (2, pt_i x2), (3, pt_i x3)], [], M)
      (35, [(0, pt_r 2 0), (1, pt_i x1), (2, pt_i x2), (3, pt_i x3), (4, pt_r 60 0), (5, pt_i (to_F x2)), (6, pt_i 0)], [], M) :=
  pt_run_ok tX6_kind_ok 17 [.inr (1, some (pt_r 60 0), M), .inr (1, some (pt_i 1), M), .inl false, .inl false, .inl true, .inr (1, some (pt_i (to_F x2)), M)] (P := pt_Cal YX6_kind (.invokestatic 252) [pt_i x2] M (some (pt_r 60 0)) M ∧ pt_Cal YX6_kind (.invokestatic 75) [pt_i x1] M (some (pt_i 1)) M ∧ (¬ (1 : Int32) = (0 : Int32)) ∧ (¬ x3 < 0) ∧ (x3 < (nI 0)) ∧ pt_Cal YX6_kind (.invokestatic 110) [pt_i x2] M (some (pt_i (to_F x2))) M ∧ True) (by with_unfolding_all rfl) ⟨(pt_callS kX6_kind_252 mX6_kindsOf rfl (dX6_kindsOf_0 h1)), (pt_callS kX6_kind_75 mX6_isSlot rfl (dX6_isSlot_1 h2)), (by decide), h3, h4, (pt_callS kX6_kind_110 mX6_turnsOf rfl (dX6_turnsOf x2 M)), trivial⟩
set_option maxRecDepth 100000 in
theorem gX6_kind0_0_3 (x1 : Int32) (x2 : Int32) (x3 : Int32) (n : Nat) (M : pt_M) (h1 : k0_P x2) (h2 : sl_P x1) (h3 : x3 < 0) :
    pt_Go YX6_kind (0, [(0, pt_r 2 0), (1, pt_i x1), (2, pt_i x2), (3, pt_i x3)], [], M)
      (25, [(0, pt_r 2 0), (1, pt_i x1), (2, pt_i x2), (3, pt_i x3), (4, pt_r 60 0)], [pt_i 0], M) :=
  pt_run_ok tX6_kind_ok 9 [.inr (1, some (pt_r 60 0), M), .inr (1, some (pt_i 1), M), .inl false, .inl true] (P := pt_Cal YX6_kind (.invokestatic 252) [pt_i x2] M (some (pt_r 60 0)) M ∧ pt_Cal YX6_kind (.invokestatic 75) [pt_i x1] M (some (pt_i 1)) M ∧ (¬ (1 : Int32) = (0 : Int32)) ∧ (x3 < 0) ∧ True) (by with_unfolding_all rfl) ⟨(pt_callS kX6_kind_252 mX6_kindsOf rfl (dX6_kindsOf_0 h1)), (pt_callS kX6_kind_75 mX6_isSlot rfl (dX6_isSlot_1 h2)), (by decide), h3, trivial⟩
set_option maxRecDepth 100000 in
theorem gX6_kind0_0_4 (x1 : Int32) (x2 : Int32) (x3 : Int32) (n : Nat) (M : pt_M) (h1 : k0_P x2) (h2 : ¬ sl_P x1) :
    pt_Go YX6_kind (0, [(0, pt_r 2 0), (1, pt_i x1), (2, pt_i x2), (3, pt_i x3)], [], M)
      (25, [(0, pt_r 2 0), (1, pt_i x1), (2, pt_i x2), (3, pt_i x3), (4, pt_r 60 0)], [pt_i 0], M) :=
  pt_run_ok tX6_kind_ok 7 [.inr (1, some (pt_r 60 0), M), .inr (1, some (pt_i 0), M), .inl true] (P := pt_Cal YX6_kind (.invokestatic 252) [pt_i x2] M (some (pt_r 60 0)) M ∧ pt_Cal YX6_kind (.invokestatic 75) [pt_i x1] M (some (pt_i 0)) M ∧ ((0 : Int32) = (0 : Int32)) ∧ True) (by with_unfolding_all rfl) ⟨(pt_callS kX6_kind_252 mX6_kindsOf rfl (dX6_kindsOf_0 h1)), (pt_callS kX6_kind_75 mX6_isSlot rfl (dX6_isSlot_0 h2)), (by decide), trivial⟩
theorem dX6_kind0_p1 (x1 : Int32) (x2 : Int32) (x3 : Int32) (n : Nat) (M : pt_M) (h1 : k0_P x2) (h2 : sl_P x1) (h3 : ¬ x3 < 0) (h4 : ¬ x3 < (nI 0)) : pt_Does yX6_kind YX6_kind [pt_r 2 0, pt_i x1, pt_i x2, pt_i x3] M (some (pt_i 0)) M :=
  rX6_kind_25 pt_nar0 (Nat.le_of_ble_eq_true rfl) rfl (gX6_kind0_0_1 x1 x2 x3 n M h1 h2 h3 h4)
theorem dX6_kind0_p3 (x1 : Int32) (x2 : Int32) (x3 : Int32) (n : Nat) (M : pt_M) (h1 : k0_P x2) (h2 : sl_P x1) (h3 : x3 < 0) : pt_Does yX6_kind YX6_kind [pt_r 2 0, pt_i x1, pt_i x2, pt_i x3] M (some (pt_i 0)) M :=
  rX6_kind_25 pt_nar0 (Nat.le_of_ble_eq_true rfl) rfl (gX6_kind0_0_3 x1 x2 x3 n M h1 h2 h3)
theorem dX6_kind0_p4 (x1 : Int32) (x2 : Int32) (x3 : Int32) (n : Nat) (M : pt_M) (h1 : k0_P x2) (h2 : ¬ sl_P x1) : pt_Does yX6_kind YX6_kind [pt_r 2 0, pt_i x1, pt_i x2, pt_i x3] M (some (pt_i 0)) M :=
  rX6_kind_25 pt_nar0 (Nat.le_of_ble_eq_true rfl) rfl (gX6_kind0_0_4 x1 x2 x3 n M h1 h2)
theorem rX6_which_11 {vs : List pt_V} {M M' : pt_M} {x : Int32} {L : List (Nat × pt_V)} (hvs : (vs.map pt_w).sum ≤ 6) (hX : M'.2.2.2.2 = M.2.2.2.2) (h : pt_Go YX6_which (0, pt_en 0 vs, [], M) (11, L, [pt_i x], M')) : pt_Does yX6_which YX6_which vs M (some (pt_i x)) M' := pt_does_go tX6_which_ok nX6_which hvs hX ⟨_, by with_unfolding_all rfl, rfl, _, rfl, rfl⟩ h
theorem rX6_which_26 {vs : List pt_V} {M M' : pt_M} {x : Int32} {L : List (Nat × pt_V)} (hvs : (vs.map pt_w).sum ≤ 6) (hX : M'.2.2.2.2 = M.2.2.2.2) (h : pt_Go YX6_which (0, pt_en 0 vs, [], M) (26, L, [pt_i x], M')) : pt_Does yX6_which YX6_which vs M (some (pt_i x)) M' := pt_does_go tX6_which_ok nX6_which hvs hX ⟨_, by with_unfolding_all rfl, rfl, _, rfl, rfl⟩ h
theorem rX6_which_68 {vs : List pt_V} {M M' : pt_M} {x : Int32} {L : List (Nat × pt_V)} (hvs : (vs.map pt_w).sum ≤ 6) (hX : M'.2.2.2.2 = M.2.2.2.2) (h : pt_Go YX6_which (0, pt_en 0 vs, [], M) (68, L, [pt_i x], M')) : pt_Does yX6_which YX6_which vs M (some (pt_i x)) M' := pt_does_go tX6_which_ok nX6_which hvs hX ⟨_, by with_unfolding_all rfl, rfl, _, rfl, rfl⟩ h
theorem rX6_which_76 {vs : List pt_V} {M M' : pt_M} {x : Int32} {L : List (Nat × pt_V)} (hvs : (vs.map pt_w).sum ≤ 6) (hX : M'.2.2.2.2 = M.2.2.2.2) (h : pt_Go YX6_which (0, pt_en 0 vs, [], M) (76, L, [pt_i x], M')) : pt_Does yX6_which YX6_which vs M (some (pt_i x)) M' := pt_does_go tX6_which_ok nX6_which hvs hX ⟨_, by with_unfolding_all rfl, rfl, _, rfl, rfl⟩ h
set_option maxRecDepth 100000 in
theorem gX6_which0_0_1 (x1 : Int32) (n : Nat) (B : Nat → Nat → Nat → Bool) (N : Nat) (M : pt_M) (h1 : lA_P M x1 n B) (h2 : (pt_R M (pt_nt x1 + 1)) < 7) (h3 : k0_P (pt_F (wl_M M x1 n B) 3 0 (pt_R M (pt_nt x1 + 1)))) (h4 : (nI 0) = 0) :
    pt_Go YX6_which (0, [(0, pt_r 2 0), (1, pt_i x1)], [], M)
      (26, [(0, pt_r 2 0), (1, pt_i x1), (2, pt_r 3 (pt_R M (pt_nt x1 + 1))), (3, pt_r 60 0)], [pt_i (-1)], (wl_M M x1 n B)) :=
  pt_run_ok tX6_which_ok 14 [.inr (2, some (pt_r 3 (pt_R M (pt_nt x1 + 1))), (wl_M M x1 n B)), .inr (1, some (pt_r 60 0), (wl_M M x1 n B)), .inl false] (P := pt_Cal YX6_which (.invokevirtual 163) [pt_r 2 0, pt_i x1] M (some (pt_r 3 (pt_R M (pt_nt x1 + 1)))) (wl_M M x1 n B) ∧ ((pt_R M (pt_nt x1 + 1)) < 7) ∧ pt_Cal YX6_which (.invokestatic 252) [pt_i (pt_F (wl_M M x1 n B) 3 0 (pt_R M (pt_nt x1 + 1)))] (wl_M M x1 n B) (some (pt_r 60 0)) (wl_M M x1 n B) ∧ ((nI 0) = 0) ∧ True) (by with_unfolding_all rfl) ⟨(pt_callV (i := 0) kX6_which_163 mX6_lawfulAt rfl (by decide) rfl (dX6_lawfulAt_y h1)), h2, (pt_callS kX6_which_252 mX6_kindsOf rfl (dX6_kindsOf_0 h3)), h4, trivial⟩
set_option maxRecDepth 100000 in
theorem gX6_which0_0_2 (x1 : Int32) (n : Nat) (B : Nat → Nat → Nat → Bool) (N : Nat) (M : pt_M) (h1 : lA_P M x1 n B) (h2 : (pt_R M (pt_nt x1 + 1)) < 7) (h3 : k0_P (pt_F (wl_M M x1 n B) 3 0 (pt_R M (pt_nt x1 + 1)))) (h4 : ¬ (nI 0) = 0) (h5 : fr_H (wl_M M x1 n B) (pt_R M (pt_nt x1 + 1)) n B) (h6 : ¬ 0 < cq_F (pt_A (fw_M (wl_M M x1 n B) (pt_R M (pt_nt x1 + 1)) n B) 12 (pt_R M (pt_nt x1 + 1))) (pt_A (fw_M (wl_M M x1 n B) (pt_R M (pt_nt x1 + 1)) n B) 13 (pt_R M (pt_nt x1 + 1))) (rk_0 n n)) (h7 : bo_P (to_F (pt_F (fw_M (wl_M M x1 n B) (pt_R M (pt_nt x1 + 1)) n B) 3 0 (pt_R M (pt_nt x1 + 1)))) N) :
    pt_Go YX6_which (0, [(0, pt_r 2 0), (1, pt_i x1)], [], M)
      (50, [(3, pt_r 60 0), (4, pt_i (nI (bt_F (pt_A (fw_M (wl_M M x1 n B) (pt_R M (pt_nt x1 + 1)) n B) 12 (pt_R M (pt_nt x1 + 1))) N))), (5, pt_i 0)], [], (fw_M (wl_M M x1 n B) (pt_R M (pt_nt x1 + 1)) n B)) :=
  (pt_run_ok tX6_which_ok 24 [.inr (2, some (pt_r 3 (pt_R M (pt_nt x1 + 1))), (wl_M M x1 n B)), .inr (1, some (pt_r 60 0), (wl_M M x1 n B)), .inl true, .inr (2, some (pt_r 12 (pt_R M (pt_nt x1 + 1))), (fw_M (wl_M M x1 n B) (pt_R M (pt_nt x1 + 1)) n B)), .inr (1, some (pt_i (to_F (pt_F (fw_M (wl_M M x1 n B) (pt_R M (pt_nt x1 + 1)) n B) 3 0 (pt_R M (pt_nt x1 + 1))))), (fw_M (wl_M M x1 n B) (pt_R M (pt_nt x1 + 1)) n B)), .inr (2, some (pt_i (nI (bt_F (pt_A (fw_M (wl_M M x1 n B) (pt_R M (pt_nt x1 + 1)) n B) 12 (pt_R M (pt_nt x1 + 1))) N))), (fw_M (wl_M M x1 n B) (pt_R M (pt_nt x1 + 1)) n B))] (P := pt_Cal YX6_which (.invokevirtual 163) [pt_r 2 0, pt_i x1] M (some (pt_r 3 (pt_R M (pt_nt x1 + 1)))) (wl_M M x1 n B) ∧ ((pt_R M (pt_nt x1 + 1)) < 7) ∧ pt_Cal YX6_which (.invokestatic 252) [pt_i (pt_F (wl_M M x1 n B) 3 0 (pt_R M (pt_nt x1 + 1)))] (wl_M M x1 n B) (some (pt_r 60 0)) (wl_M M x1 n B) ∧ (¬ (nI 0) = 0) ∧ pt_Cal YX6_which (.invokevirtual 196) [pt_r 5 0, pt_r 3 (pt_R M (pt_nt x1 + 1))] (wl_M M x1 n B) (some (pt_r 12 (pt_R M (pt_nt x1 + 1)))) (fw_M (wl_M M x1 n B) (pt_R M (pt_nt x1 + 1)) n B) ∧ ((pt_R M (pt_nt x1 + 1)) < 7) ∧ pt_Cal YX6_which (.invokestatic 110) [pt_i (pt_F (fw_M (wl_M M x1 n B) (pt_R M (pt_nt x1 + 1)) n B) 3 0 (pt_R M (pt_nt x1 + 1)))] (fw_M (wl_M M x1 n B) (pt_R M (pt_nt x1 + 1)) n B) (some (pt_i (to_F (pt_F (fw_M (wl_M M x1 n B) (pt_R M (pt_nt x1 + 1)) n B) 3 0 (pt_R M (pt_nt x1 + 1)))))) (fw_M (wl_M M x1 n B) (pt_R M (pt_nt x1 + 1)) n B) ∧ pt_Cal YX6_which (.invokestatic 256) [pt_r 12 (pt_R M (pt_nt x1 + 1)), pt_i (to_F (pt_F (fw_M (wl_M M x1 n B) (pt_R M (pt_nt x1 + 1)) n B) 3 0 (pt_R M (pt_nt x1 + 1))))] (fw_M (wl_M M x1 n B) (pt_R M (pt_nt x1 + 1)) n B) (some (pt_i (nI (bt_F (pt_A (fw_M (wl_M M x1 n B) (pt_R M (pt_nt x1 + 1)) n B) 12 (pt_R M (pt_nt x1 + 1))) N)))) (fw_M (wl_M M x1 n B) (pt_R M (pt_nt x1 + 1)) n B) ∧ True) (by with_unfolding_all rfl) ⟨(pt_callV (i := 0) kX6_which_163 mX6_lawfulAt rfl (by decide) rfl (dX6_lawfulAt_y h1)), h2, (pt_callS kX6_which_252 mX6_kindsOf rfl (dX6_kindsOf_0 h3)), h4, (pt_callV (i := 0) kX6_which_196 mX0_codeOf rfl (by decide) rfl (dX0_codeOf_own h5 h6)), h2, (pt_callS kX6_which_110 mX6_turnsOf rfl (dX6_turnsOf (pt_F (fw_M (wl_M M x1 n B) (pt_R M (pt_nt x1 + 1)) n B) 3 0 (pt_R M (pt_nt x1 + 1))) (fw_M (wl_M M x1 n B) (pt_R M (pt_nt x1 + 1)) n B))), (pt_callS kX6_which_256 mX0_bitsOf rfl (dX0_bitsOf_t12 h2 h7)), trivial⟩ : pt_Go YX6_which _ (50, [(0, pt_r 2 0), (1, pt_i x1), (2, pt_r 3 (pt_R M (pt_nt x1 + 1))), (3, pt_r 60 0), (4, pt_i (nI (bt_F (pt_A (fw_M (wl_M M x1 n B) (pt_R M (pt_nt x1 + 1)) n B) 12 (pt_R M (pt_nt x1 + 1))) N))), (5, pt_i 0)], [], (fw_M (wl_M M x1 n B) (pt_R M (pt_nt x1 + 1)) n B))).tr (pt_pick [3, 4, 5] (by with_unfolding_all rfl))
set_option maxRecDepth 100000 in
theorem gX6_which0_0_3 (x1 : Int32) (n : Nat) (B : Nat → Nat → Nat → Bool) (N : Nat) (M : pt_M) (h1 : lA_P M x1 n B) (h2 : (pt_R M (pt_nt x1 + 1)) < 7) (h3 : k0_P (pt_F (wl_M M x1 n B) 3 0 (pt_R M (pt_nt x1 + 1)))) (h4 : ¬ (nI 0) = 0) (h5 : fr_H (wl_M M x1 n B) (pt_R M (pt_nt x1 + 1)) n B) (h6 : 0 < cq_F (pt_A (fw_M (wl_M M x1 n B) (pt_R M (pt_nt x1 + 1)) n B) 12 (pt_R M (pt_nt x1 + 1))) (pt_A (fw_M (wl_M M x1 n B) (pt_R M (pt_nt x1 + 1)) n B) 13 (pt_R M (pt_nt x1 + 1))) (rk_0 n n)) (h7 : bo_P (to_F (pt_F (fw_M (wl_M M x1 n B) (pt_R M (pt_nt x1 + 1)) n B) 3 0 (pt_R M (pt_nt x1 + 1)))) N) :
    pt_Go YX6_which (0, [(0, pt_r 2 0), (1, pt_i x1)], [], M)
      (50, [(3, pt_r 60 0), (4, pt_i (nI (bt_F (pt_A (fw_M (wl_M M x1 n B) (pt_R M (pt_nt x1 + 1)) n B) 13 (pt_R M (pt_nt x1 + 1))) N))), (5, pt_i 0)], [], (fw_M (wl_M M x1 n B) (pt_R M (pt_nt x1 + 1)) n B)) :=
  (pt_run_ok tX6_which_ok 24 [.inr (2, some (pt_r 3 (pt_R M (pt_nt x1 + 1))), (wl_M M x1 n B)), .inr (1, some (pt_r 60 0), (wl_M M x1 n B)), .inl true, .inr (2, some (pt_r 13 (pt_R M (pt_nt x1 + 1))), (fw_M (wl_M M x1 n B) (pt_R M (pt_nt x1 + 1)) n B)), .inr (1, some (pt_i (to_F (pt_F (fw_M (wl_M M x1 n B) (pt_R M (pt_nt x1 + 1)) n B) 3 0 (pt_R M (pt_nt x1 + 1))))), (fw_M (wl_M M x1 n B) (pt_R M (pt_nt x1 + 1)) n B)), .inr (2, some (pt_i (nI (bt_F (pt_A (fw_M (wl_M M x1 n B) (pt_R M (pt_nt x1 + 1)) n B) 13 (pt_R M (pt_nt x1 + 1))) N))), (fw_M (wl_M M x1 n B) (pt_R M (pt_nt x1 + 1)) n B))] (P := pt_Cal YX6_which (.invokevirtual 163) [pt_r 2 0, pt_i x1] M (some (pt_r 3 (pt_R M (pt_nt x1 + 1)))) (wl_M M x1 n B) ∧ ((pt_R M (pt_nt x1 + 1)) < 7) ∧ pt_Cal YX6_which (.invokestatic 252) [pt_i (pt_F (wl_M M x1 n B) 3 0 (pt_R M (pt_nt x1 + 1)))] (wl_M M x1 n B) (some (pt_r 60 0)) (wl_M M x1 n B) ∧ (¬ (nI 0) = 0) ∧ pt_Cal YX6_which (.invokevirtual 196) [pt_r 5 0, pt_r 3 (pt_R M (pt_nt x1 + 1))] (wl_M M x1 n B) (some (pt_r 13 (pt_R M (pt_nt x1 + 1)))) (fw_M (wl_M M x1 n B) (pt_R M (pt_nt x1 + 1)) n B) ∧ ((pt_R M (pt_nt x1 + 1)) < 7) ∧ pt_Cal YX6_which (.invokestatic 110) [pt_i (pt_F (fw_M (wl_M M x1 n B) (pt_R M (pt_nt x1 + 1)) n B) 3 0 (pt_R M (pt_nt x1 + 1)))] (fw_M (wl_M M x1 n B) (pt_R M (pt_nt x1 + 1)) n B) (some (pt_i (to_F (pt_F (fw_M (wl_M M x1 n B) (pt_R M (pt_nt x1 + 1)) n B) 3 0 (pt_R M (pt_nt x1 + 1)))))) (fw_M (wl_M M x1 n B) (pt_R M (pt_nt x1 + 1)) n B) ∧ pt_Cal YX6_which (.invokestatic 256) [pt_r 13 (pt_R M (pt_nt x1 + 1)), pt_i (to_F (pt_F (fw_M (wl_M M x1 n B) (pt_R M (pt_nt x1 + 1)) n B) 3 0 (pt_R M (pt_nt x1 + 1))))] (fw_M (wl_M M x1 n B) (pt_R M (pt_nt x1 + 1)) n B) (some (pt_i (nI (bt_F (pt_A (fw_M (wl_M M x1 n B) (pt_R M (pt_nt x1 + 1)) n B) 13 (pt_R M (pt_nt x1 + 1))) N)))) (fw_M (wl_M M x1 n B) (pt_R M (pt_nt x1 + 1)) n B) ∧ True) (by with_unfolding_all rfl) ⟨(pt_callV (i := 0) kX6_which_163 mX6_lawfulAt rfl (by decide) rfl (dX6_lawfulAt_y h1)), h2, (pt_callS kX6_which_252 mX6_kindsOf rfl (dX6_kindsOf_0 h3)), h4, (pt_callV (i := 0) kX6_which_196 mX0_codeOf rfl (by decide) rfl (dX0_codeOf_mir h5 h6)), h2, (pt_callS kX6_which_110 mX6_turnsOf rfl (dX6_turnsOf (pt_F (fw_M (wl_M M x1 n B) (pt_R M (pt_nt x1 + 1)) n B) 3 0 (pt_R M (pt_nt x1 + 1))) (fw_M (wl_M M x1 n B) (pt_R M (pt_nt x1 + 1)) n B))), (pt_callS kX6_which_256 mX0_bitsOf rfl (dX0_bitsOf_t13 h2 h7)), trivial⟩ : pt_Go YX6_which _ (50, [(0, pt_r 2 0), (1, pt_i x1), (2, pt_r 3 (pt_R M (pt_nt x1 + 1))), (3, pt_r 60 0), (4, pt_i (nI (bt_F (pt_A (fw_M (wl_M M x1 n B) (pt_R M (pt_nt x1 + 1)) n B) 13 (pt_R M (pt_nt x1 + 1))) N))), (5, pt_i 0)], [], (fw_M (wl_M M x1 n B) (pt_R M (pt_nt x1 + 1)) n B))).tr (pt_pick [3, 4, 5] (by with_unfolding_all rfl))
set_option maxRecDepth 100000 in
theorem gX6_which0_0_4 (x1 : Int32) (n : Nat) (B : Nat → Nat → Nat → Bool) (N : Nat) (M : pt_M) (h1 : lN_P M x1 n B) :
    pt_Go YX6_which (0, [(0, pt_r 2 0), (1, pt_i x1)], [], M)
      (11, [(0, pt_r 2 0), (1, pt_i x1), (2, pt_r 0 0)], [pt_i (-1)], (wl_M M x1 n B)) :=
  pt_run_ok tX6_which_ok 7 [.inr (2, some (pt_r 0 0), (wl_M M x1 n B))] (P := pt_Cal YX6_which (.invokevirtual 163) [pt_r 2 0, pt_i x1] M (some (pt_r 0 0)) (wl_M M x1 n B) ∧ True) (by with_unfolding_all rfl) ⟨(pt_callV (i := 0) kX6_which_163 mX6_lawfulAt rfl (by decide) rfl (dX6_lawfulAt_n h1)), trivial⟩
set_option maxRecDepth 100000 in
theorem gX6_which0_0_5 (x1 : Int32) (n : Nat) (B : Nat → Nat → Nat → Bool) (N : Nat) (M : pt_M) (h1 : tN_P M x1) :
    pt_Go YX6_which (0, [(0, pt_r 2 0), (1, pt_i x1)], [], M)
      (11, [(0, pt_r 2 0), (1, pt_i x1), (2, pt_r 0 0)], [pt_i (-1)], M) :=
  pt_run_ok tX6_which_ok 7 [.inr (2, some (pt_r 0 0), M)] (P := pt_Cal YX6_which (.invokevirtual 163) [pt_r 2 0, pt_i x1] M (some (pt_r 0 0)) M ∧ True) (by with_unfolding_all rfl) ⟨(pt_callV (i := 0) kX6_which_163 mX6_lawfulAt rfl (by decide) rfl (dX6_lawfulAt_0 h1)), trivial⟩
theorem dX6_which0_p1 (x1 : Int32) (n : Nat) (B : Nat → Nat → Nat → Bool) (N : Nat) (M : pt_M) (h1 : lA_P M x1 n B) (h2 : (pt_R M (pt_nt x1 + 1)) < 7) (h3 : k0_P (pt_F (wl_M M x1 n B) 3 0 (pt_R M (pt_nt x1 + 1)))) (h4 : (nI 0) = 0) : pt_Does yX6_which YX6_which [pt_r 2 0, pt_i x1] M (some (pt_i (-1))) (wl_M M x1 n B) :=
  rX6_which_26 (Nat.le_of_ble_eq_true rfl) rfl (gX6_which0_0_1 x1 n B N M h1 h2 h3 h4)
theorem dX6_which0_p4 (x1 : Int32) (n : Nat) (B : Nat → Nat → Nat → Bool) (N : Nat) (M : pt_M) (h1 : lN_P M x1 n B) : pt_Does yX6_which YX6_which [pt_r 2 0, pt_i x1] M (some (pt_i (-1))) (wl_M M x1 n B) :=
  rX6_which_11 (Nat.le_of_ble_eq_true rfl) rfl (gX6_which0_0_4 x1 n B N M h1)
theorem dX6_which0_p5 (x1 : Int32) (n : Nat) (B : Nat → Nat → Nat → Bool) (N : Nat) (M : pt_M) (h1 : tN_P M x1) : pt_Does yX6_which YX6_which [pt_r 2 0, pt_i x1] M (some (pt_i (-1))) M :=
  rX6_which_11 (Nat.le_of_ble_eq_true rfl) rfl (gX6_which0_0_5 x1 n B N M h1)
/-! onRim, where it answers -/
theorem rX6_onRim_88 {vs : List pt_V} {M M' : pt_M} {x : Int32} {L : List (Nat × pt_V)} (hvs : (vs.map pt_w).sum ≤ 7) (hX : M'.2.2.2.2 = M.2.2.2.2) (h : pt_Go YX6_onRim (0, pt_en 0 vs, [], M) (88, L, [pt_i x], M')) : pt_Does yX6_onRim YX6_onRim vs M (some (pt_i x)) M' := pt_does_go tX6_onRim_ok nX6_onRim hvs hX ⟨_, by with_unfolding_all rfl, rfl, _, rfl, rfl⟩ h
set_option maxRecDepth 100000 in
theorem gX6_onRim_0_1 (x1 : Int32) (x2 : Int32) (n : Nat) (B : Nat → Nat → Nat → Bool) (r : Int32) (M : pt_M) (h1 : lA_P M x1 n B) (h2 : (pt_R M (pt_nt x1 + 1)) < 7) (h3 : tb_P (wl_M M x1 n B) (pt_R M (pt_nt x1 + 1)) n B) (h4 : st_P (ep_F (wl_M M x1 n B) (pt_R M (pt_nt x1 + 1))) n) (h5 : ¬ x2 < 0) (h6 : ¬ x2 < (bc_F (ri_I n B (ep_F (wl_M M x1 n B) (pt_R M (pt_nt x1 + 1)))))) :
    pt_Go YX6_onRim (0, [(0, pt_r 2 0), (1, pt_i x1), (2, pt_i x2)], [], M)
      (43, [], [], (wl_M M x1 n B)) :=
  (pt_run_ok tX6_onRim_ok 17 [.inr (2, some (pt_r 3 (pt_R M (pt_nt x1 + 1))), (wl_M M x1 n B)), .inr (1, some (pt_i (ep_F (wl_M M x1 n B) (pt_R M (pt_nt x1 + 1)))), (wl_M M x1 n B)), .inr (2, some (pt_i (ri_I n B (ep_F (wl_M M x1 n B) (pt_R M (pt_nt x1 + 1))))), (wl_M M x1 n B)), .inl false, .inr (1, some (pt_i (bc_F (ri_I n B (ep_F (wl_M M x1 n B) (pt_R M (pt_nt x1 + 1)))))), (wl_M M x1 n B)), .inl false] (P := pt_Cal YX6_onRim (.invokevirtual 163) [pt_r 2 0, pt_i x1] M (some (pt_r 3 (pt_R M (pt_nt x1 + 1)))) (wl_M M x1 n B) ∧ pt_Cal YX6_onRim (.invokevirtual 150) [pt_r 3 (pt_R M (pt_nt x1 + 1))] (wl_M M x1 n B) (some (pt_i (ep_F (wl_M M x1 n B) (pt_R M (pt_nt x1 + 1))))) (wl_M M x1 n B) ∧ pt_Cal YX6_onRim (.invokestatic 166) [pt_r 3 (pt_R M (pt_nt x1 + 1)), pt_i (ep_F (wl_M M x1 n B) (pt_R M (pt_nt x1 + 1)))] (wl_M M x1 n B) (some (pt_i (ri_I n B (ep_F (wl_M M x1 n B) (pt_R M (pt_nt x1 + 1)))))) (wl_M M x1 n B) ∧ (¬ x2 < 0) ∧ pt_Cal YX6_onRim (.invokestatic 172) [pt_i (ri_I n B (ep_F (wl_M M x1 n B) (pt_R M (pt_nt x1 + 1))))] (wl_M M x1 n B) (some (pt_i (bc_F (ri_I n B (ep_F (wl_M M x1 n B) (pt_R M (pt_nt x1 + 1))))))) (wl_M M x1 n B) ∧ (¬ x2 < (bc_F (ri_I n B (ep_F (wl_M M x1 n B) (pt_R M (pt_nt x1 + 1)))))) ∧ True) (by with_unfolding_all rfl) ⟨(pt_callV (i := 0) kX6_onRim_163 mX6_lawfulAt rfl (by decide) rfl (dX6_lawfulAt_y h1)), (pt_callV (i := (pt_R M (pt_nt x1 + 1))) kX6_onRim_150 mX4_everyPoint rfl h2 rfl (dX4_everyPoint h2)), (pt_callS kX6_onRim_166 mX2_rimOf rfl (dX2_rimOf h3 h4)), h5, (pt_callS kX6_onRim_172 mJ6_bitCount_0f7a4 rfl (dJ6_bitCount (ri_I n B (ep_F (wl_M M x1 n B) (pt_R M (pt_nt x1 + 1)))) (wl_M M x1 n B))), h6, trivial⟩ : pt_Go YX6_onRim _ (43, [(0, pt_r 2 0), (1, pt_i x1), (2, pt_i x2), (3, pt_r 3 (pt_R M (pt_nt x1 + 1))), (4, pt_i (ri_I n B (ep_F (wl_M M x1 n B) (pt_R M (pt_nt x1 + 1)))))], [], (wl_M M x1 n B))).tr (pt_pick [] (by with_unfolding_all rfl))
set_option maxRecDepth 100000 in
theorem gX6_onRim_0_2 (x1 : Int32) (x2 : Int32) (n : Nat) (B : Nat → Nat → Nat → Bool) (r : Int32) (M : pt_M) (h1 : lA_P M x1 n B) (h2 : (pt_R M (pt_nt x1 + 1)) < 7) (h3 : tb_P (wl_M M x1 n B) (pt_R M (pt_nt x1 + 1)) n B) (h4 : st_P (ep_F (wl_M M x1 n B) (pt_R M (pt_nt x1 + 1))) n) (h5 : ¬ x2 < 0) (h6 : x2 < (bc_F (ri_I n B (ep_F (wl_M M x1 n B) (pt_R M (pt_nt x1 + 1)))))) (h7 : pt_Does yX2_leastOf YX2_leastOf [pt_r 3 (pt_R M (pt_nt x1 + 1)), pt_i (ri_I n B (ep_F (wl_M M x1 n B) (pt_R M (pt_nt x1 + 1))))] (wl_M M x1 n B) (some (pt_i r)) (wl_M M x1 n B)) :
    pt_Go YX6_onRim (0, [(0, pt_r 2 0), (1, pt_i x1), (2, pt_i x2)], [], M)
      (64, [(2, pt_i x2), (3, pt_r 3 (pt_R M (pt_nt x1 + 1))), (4, pt_i (ri_I n B (ep_F (wl_M M x1 n B) (pt_R M (pt_nt x1 + 1))))), (5, pt_i r), (6, pt_i 0)], [], (wl_M M x1 n B)) :=
  (pt_run_ok tX6_onRim_ok 23 [.inr (2, some (pt_r 3 (pt_R M (pt_nt x1 + 1))), (wl_M M x1 n B)), .inr (1, some (pt_i (ep_F (wl_M M x1 n B) (pt_R M (pt_nt x1 + 1)))), (wl_M M x1 n B)), .inr (2, some (pt_i (ri_I n B (ep_F (wl_M M x1 n B) (pt_R M (pt_nt x1 + 1))))), (wl_M M x1 n B)), .inl false, .inr (1, some (pt_i (bc_F (ri_I n B (ep_F (wl_M M x1 n B) (pt_R M (pt_nt x1 + 1)))))), (wl_M M x1 n B)), .inl true, .inr (2, some (pt_i r), (wl_M M x1 n B))] (P := pt_Cal YX6_onRim (.invokevirtual 163) [pt_r 2 0, pt_i x1] M (some (pt_r 3 (pt_R M (pt_nt x1 + 1)))) (wl_M M x1 n B) ∧ pt_Cal YX6_onRim (.invokevirtual 150) [pt_r 3 (pt_R M (pt_nt x1 + 1))] (wl_M M x1 n B) (some (pt_i (ep_F (wl_M M x1 n B) (pt_R M (pt_nt x1 + 1))))) (wl_M M x1 n B) ∧ pt_Cal YX6_onRim (.invokestatic 166) [pt_r 3 (pt_R M (pt_nt x1 + 1)), pt_i (ep_F (wl_M M x1 n B) (pt_R M (pt_nt x1 + 1)))] (wl_M M x1 n B) (some (pt_i (ri_I n B (ep_F (wl_M M x1 n B) (pt_R M (pt_nt x1 + 1)))))) (wl_M M x1 n B) ∧ (¬ x2 < 0) ∧ pt_Cal YX6_onRim (.invokestatic 172) [pt_i (ri_I n B (ep_F (wl_M M x1 n B) (pt_R M (pt_nt x1 + 1))))] (wl_M M x1 n B) (some (pt_i (bc_F (ri_I n B (ep_F (wl_M M x1 n B) (pt_R M (pt_nt x1 + 1))))))) (wl_M M x1 n B) ∧ (x2 < (bc_F (ri_I n B (ep_F (wl_M M x1 n B) (pt_R M (pt_nt x1 + 1)))))) ∧ pt_Cal YX6_onRim (.invokestatic 186) [pt_r 3 (pt_R M (pt_nt x1 + 1)), pt_i (ri_I n B (ep_F (wl_M M x1 n B) (pt_R M (pt_nt x1 + 1))))] (wl_M M x1 n B) (some (pt_i r)) (wl_M M x1 n B) ∧ True) (by with_unfolding_all rfl) ⟨(pt_callV (i := 0) kX6_onRim_163 mX6_lawfulAt rfl (by decide) rfl (dX6_lawfulAt_y h1)), (pt_callV (i := (pt_R M (pt_nt x1 + 1))) kX6_onRim_150 mX4_everyPoint rfl h2 rfl (dX4_everyPoint h2)), (pt_callS kX6_onRim_166 mX2_rimOf rfl (dX2_rimOf h3 h4)), h5, (pt_callS kX6_onRim_172 mJ6_bitCount_0f7a4 rfl (dJ6_bitCount (ri_I n B (ep_F (wl_M M x1 n B) (pt_R M (pt_nt x1 + 1)))) (wl_M M x1 n B))), h6, (pt_callS kX6_onRim_186 mX2_leastOf rfl h7), trivial⟩ : pt_Go YX6_onRim _ (64, [(0, pt_r 2 0), (1, pt_i x1), (2, pt_i x2), (3, pt_r 3 (pt_R M (pt_nt x1 + 1))), (4, pt_i (ri_I n B (ep_F (wl_M M x1 n B) (pt_R M (pt_nt x1 + 1))))), (5, pt_i r), (6, pt_i 0)], [], (wl_M M x1 n B))).tr (pt_pick [2, 3, 4, 5, 6] (by with_unfolding_all rfl))
set_option maxRecDepth 100000 in
theorem gX6_onRim_0_3 (x1 : Int32) (x2 : Int32) (n : Nat) (B : Nat → Nat → Nat → Bool) (r : Int32) (M : pt_M) (h1 : lA_P M x1 n B) (h2 : (pt_R M (pt_nt x1 + 1)) < 7) (h3 : tb_P (wl_M M x1 n B) (pt_R M (pt_nt x1 + 1)) n B) (h4 : st_P (ep_F (wl_M M x1 n B) (pt_R M (pt_nt x1 + 1))) n) (h5 : x2 < 0) :
    pt_Go YX6_onRim (0, [(0, pt_r 2 0), (1, pt_i x1), (2, pt_i x2)], [], M)
      (43, [], [], (wl_M M x1 n B)) :=
  (pt_run_ok tX6_onRim_ok 13 [.inr (2, some (pt_r 3 (pt_R M (pt_nt x1 + 1))), (wl_M M x1 n B)), .inr (1, some (pt_i (ep_F (wl_M M x1 n B) (pt_R M (pt_nt x1 + 1)))), (wl_M M x1 n B)), .inr (2, some (pt_i (ri_I n B (ep_F (wl_M M x1 n B) (pt_R M (pt_nt x1 + 1))))), (wl_M M x1 n B)), .inl true] (P := pt_Cal YX6_onRim (.invokevirtual 163) [pt_r 2 0, pt_i x1] M (some (pt_r 3 (pt_R M (pt_nt x1 + 1)))) (wl_M M x1 n B) ∧ pt_Cal YX6_onRim (.invokevirtual 150) [pt_r 3 (pt_R M (pt_nt x1 + 1))] (wl_M M x1 n B) (some (pt_i (ep_F (wl_M M x1 n B) (pt_R M (pt_nt x1 + 1))))) (wl_M M x1 n B) ∧ pt_Cal YX6_onRim (.invokestatic 166) [pt_r 3 (pt_R M (pt_nt x1 + 1)), pt_i (ep_F (wl_M M x1 n B) (pt_R M (pt_nt x1 + 1)))] (wl_M M x1 n B) (some (pt_i (ri_I n B (ep_F (wl_M M x1 n B) (pt_R M (pt_nt x1 + 1)))))) (wl_M M x1 n B) ∧ (x2 < 0) ∧ True) (by with_unfolding_all rfl) ⟨(pt_callV (i := 0) kX6_onRim_163 mX6_lawfulAt rfl (by decide) rfl (dX6_lawfulAt_y h1)), (pt_callV (i := (pt_R M (pt_nt x1 + 1))) kX6_onRim_150 mX4_everyPoint rfl h2 rfl (dX4_everyPoint h2)), (pt_callS kX6_onRim_166 mX2_rimOf rfl (dX2_rimOf h3 h4)), h5, trivial⟩ : pt_Go YX6_onRim _ (43, [(0, pt_r 2 0), (1, pt_i x1), (2, pt_i x2), (3, pt_r 3 (pt_R M (pt_nt x1 + 1))), (4, pt_i (ri_I n B (ep_F (wl_M M x1 n B) (pt_R M (pt_nt x1 + 1)))))], [], (wl_M M x1 n B))).tr (pt_pick [] (by with_unfolding_all rfl))
set_option maxRecDepth 100000 in
theorem gX6_onRim_0_4 (x1 : Int32) (x2 : Int32) (n : Nat) (B : Nat → Nat → Nat → Bool) (r : Int32) (M : pt_M) (h1 : lN_P M x1 n B) :
    pt_Go YX6_onRim (0, [(0, pt_r 2 0), (1, pt_i x1), (2, pt_i x2)], [], M)
      (10, [], [], (wl_M M x1 n B)) :=
  (pt_run_ok tX6_onRim_ok 6 [.inr (2, some (pt_r 0 0), (wl_M M x1 n B))] (P := pt_Cal YX6_onRim (.invokevirtual 163) [pt_r 2 0, pt_i x1] M (some (pt_r 0 0)) (wl_M M x1 n B) ∧ True) (by with_unfolding_all rfl) ⟨(pt_callV (i := 0) kX6_onRim_163 mX6_lawfulAt rfl (by decide) rfl (dX6_lawfulAt_n h1)), trivial⟩ : pt_Go YX6_onRim _ (10, [(0, pt_r 2 0), (1, pt_i x1), (2, pt_i x2), (3, pt_r 0 0)], [], (wl_M M x1 n B))).tr (pt_pick [] (by with_unfolding_all rfl))
set_option maxRecDepth 100000 in
theorem gX6_onRim_0_5 (x1 : Int32) (x2 : Int32) (n : Nat) (B : Nat → Nat → Nat → Bool) (r : Int32) (M : pt_M) (h1 : tN_P M x1) :
    pt_Go YX6_onRim (0, [(0, pt_r 2 0), (1, pt_i x1), (2, pt_i x2)], [], M)
      (10, [], [], M) :=
  (pt_run_ok tX6_onRim_ok 6 [.inr (2, some (pt_r 0 0), M)] (P := pt_Cal YX6_onRim (.invokevirtual 163) [pt_r 2 0, pt_i x1] M (some (pt_r 0 0)) M ∧ True) (by with_unfolding_all rfl) ⟨(pt_callV (i := 0) kX6_onRim_163 mX6_lawfulAt rfl (by decide) rfl (dX6_lawfulAt_0 h1)), trivial⟩ : pt_Go YX6_onRim _ (10, [(0, pt_r 2 0), (1, pt_i x1), (2, pt_i x2), (3, pt_r 0 0)], [], M)).tr (pt_pick [] (by with_unfolding_all rfl))
set_option maxRecDepth 100000 in
theorem gX6_onRim_64_1 (l2 : Int32) (l3 : Nat) (l4 : Int32) (l5 : Int32) (l6 : Int32) (n : Nat) (B : Nat → Nat → Nat → Bool) (r : Int32) (M : pt_M) (h1 : ¬ l2 ≤ l6) (h2 : tb_P M l3 n B) (h3 : sn_P l4 l5 n) :
    pt_Go YX6_onRim (64, [(2, pt_i l2), (3, pt_r 3 l3), (4, pt_i l4), (5, pt_i l5), (6, pt_i l6)], [], M)
      (64, [(2, pt_i l2), (3, pt_r 3 l3), (4, pt_i l4), (5, pt_i (nx_I n B l4 l5)), (6, pt_i (l6 + 1))], [], M) :=
  pt_run_ok tX6_onRim_ok 10 [.inl false, .inr (3, some (pt_i (nx_I n B l4 l5)), M)] (P := (¬ l2 ≤ l6) ∧ pt_Cal YX6_onRim (.invokestatic 189) [pt_r 3 l3, pt_i l4, pt_i l5] M (some (pt_i (nx_I n B l4 l5))) M ∧ True) (by with_unfolding_all rfl) ⟨h1, (pt_callS kX6_onRim_189 mX2_nextTo rfl (dX2_nextTo h2 h3)), trivial⟩
set_option maxRecDepth 100000 in
theorem gX6_onRim_64_2 (l2 : Int32) (l3 : Nat) (l4 : Int32) (l5 : Int32) (l6 : Int32) (n : Nat) (B : Nat → Nat → Nat → Bool) (r : Int32) (M : pt_M) (h1 : l2 ≤ l6) :
    pt_Go YX6_onRim (64, [(2, pt_i l2), (3, pt_r 3 l3), (4, pt_i l4), (5, pt_i l5), (6, pt_i l6)], [], M)
      (88, [(2, pt_i l2), (3, pt_r 3 l3), (4, pt_i l4), (5, pt_i l5), (6, pt_i l6)], [pt_i l5], M) :=
  pt_run_ok tX6_onRim_ok 4 [.inl true] (P := (l2 ≤ l6) ∧ True) (by with_unfolding_all rfl) ⟨h1, trivial⟩
theorem dX6_onRim {x1 : Int32} {n k : Nat} {a : Nat → Nat} {B : Nat → Nat → Nat → Bool} {M : pt_M} (h : lA_P M x1 n B) (hk : k < pc_F (ri_F n B (2 ^ n - 1))) (h0 : le_F n (ri_F n B (2 ^ n - 1)) = some (a 0)) (ha : ∀ j, j < k → a j < n ∧ nx_F n B (ri_F n B (2 ^ n - 1)) (a j) = some (a (j + 1))) : pt_Does yX6_onRim YX6_onRim [pt_r 2 0, pt_i x1, pt_i (nI k)] M (some (pt_i (nI (a k)))) (wl_M M x1 n B) := by
  have hn := h.2.1.2.1
  have h2n := pb_p2 hn
  have htb : tb_P (wl_M M x1 n B) (pt_R M (pt_nt x1 + 1)) n B := h.2.1
  have hep : ep_F (wl_M M x1 n B) (pt_R M (pt_nt x1 + 1)) = nI (2 ^ n - 1) := ep_nI hn htb.2.2.1
  have hm : 2 ^ n - 1 < 1024 := by omega
  have hri := ri_nI (n := n) (B := B) hm
  have hrl := ri_lt (B := B) hn hm
  have hbc := bc_nI hrl
  have hpl := pc_le (ri_F n B (2 ^ n - 1))
  have g0 := gX6_onRim_0_2 x1 (nI k) n B (nI (a 0)) M h htb.1 htb
  rw [hep, hri, hbc] at g0
  have g0 := g0 ⟨_, rfl, hm⟩ (nI_pos (by omega)) (nI_lt hk (by omega)) ((dX2_leastOf htb hrl).1 _ h0)
  have hX2 : (wl_M M x1 n B).2.2.2.2 = M.2.2.2.2 := rfl
  generalize wl_M M x1 n B = M2 at *
  generalize pt_R M (pt_nt x1 + 1) = t at *
  generalize ri_F n B (2 ^ n - 1) = R at *
  have K := pt_for0 (Y := YX6_onRim) (fun j => (64, [(2, pt_i (nI k)), (3, pt_r 3 t), (4, pt_i (nI R)), (5, pt_i (nI (a j))), (6, pt_i (nI j))], [], M2)) (n := k) fun j hj => by
    obtain ⟨h1, h2⟩ := ha j hj
    refine (gX6_onRim_64_1 (nI k) t (nI R) (nI (a j)) (nI j) n B 0 M2 (nI_ge hj (by omega)) htb ⟨R, a j, rfl, rfl, hrl, h1⟩).to ?_
    rw [nx_nI hrl (by omega), h2, nI_1]
  exact rX6_onRim_88 (Nat.le_of_ble_eq_true rfl) hX2 (g0.tr (K.tr (gX6_onRim_64_2 (nI k) t (nI R) (nI (a k)) (nI k) n B 0 M2 (Int32.le_refl _))))
