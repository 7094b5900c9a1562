theorem dL_law_40 : decode cL_law 40 = .ok (.tableswitch 1242 0 27 #[128, 201, 226, 251, 264, 301, 362, 423, 460, 497, 546, 571, 596, 621, 689, 726, 751, 788, 825, 862, 887, 943, 1008, 1045, 1118, 1143, 1192, 1217], 128) := by decide +kernel
theorem ts_0 {L : List (Nat × pt_V)} {M : pt_M} : pt_Go YL_law (40, L, [pt_i 0], M) (168, L, [], M) := by
  intro p l e s m args below meth c D ad cA A cells slots Q hC hA H locs ls g1 g2 g3 g4
  exact lv_tableIn hC.1 hC.2.1 dL_law_40 (by decide) (by decide) (off := 128) rfl rfl (hA H locs ls g1 g2 g3 g4)
theorem ts_1 {L : List (Nat × pt_V)} {M : pt_M} : pt_Go YL_law (40, L, [pt_i 1], M) (241, L, [], M) := by
  intro p l e s m args below meth c D ad cA A cells slots Q hC hA H locs ls g1 g2 g3 g4
  exact lv_tableIn hC.1 hC.2.1 dL_law_40 (by decide) (by decide) (off := 201) rfl rfl (hA H locs ls g1 g2 g3 g4)
theorem ts_2 {L : List (Nat × pt_V)} {M : pt_M} : pt_Go YL_law (40, L, [pt_i 2], M) (266, L, [], M) := by
  intro p l e s m args below meth c D ad cA A cells slots Q hC hA H locs ls g1 g2 g3 g4
  exact lv_tableIn hC.1 hC.2.1 dL_law_40 (by decide) (by decide) (off := 226) rfl rfl (hA H locs ls g1 g2 g3 g4)
theorem ts_3 {L : List (Nat × pt_V)} {M : pt_M} : pt_Go YL_law (40, L, [pt_i 3], M) (291, L, [], M) := by
  intro p l e s m args below meth c D ad cA A cells slots Q hC hA H locs ls g1 g2 g3 g4
  exact lv_tableIn hC.1 hC.2.1 dL_law_40 (by decide) (by decide) (off := 251) rfl rfl (hA H locs ls g1 g2 g3 g4)
theorem ts_4 {L : List (Nat × pt_V)} {M : pt_M} : pt_Go YL_law (40, L, [pt_i 4], M) (304, L, [], M) := by
  intro p l e s m args below meth c D ad cA A cells slots Q hC hA H locs ls g1 g2 g3 g4
  exact lv_tableIn hC.1 hC.2.1 dL_law_40 (by decide) (by decide) (off := 264) rfl rfl (hA H locs ls g1 g2 g3 g4)
theorem ts_5 {L : List (Nat × pt_V)} {M : pt_M} : pt_Go YL_law (40, L, [pt_i 5], M) (341, L, [], M) := by
  intro p l e s m args below meth c D ad cA A cells slots Q hC hA H locs ls g1 g2 g3 g4
  exact lv_tableIn hC.1 hC.2.1 dL_law_40 (by decide) (by decide) (off := 301) rfl rfl (hA H locs ls g1 g2 g3 g4)
theorem ts_6 {L : List (Nat × pt_V)} {M : pt_M} : pt_Go YL_law (40, L, [pt_i 6], M) (402, L, [], M) := by
  intro p l e s m args below meth c D ad cA A cells slots Q hC hA H locs ls g1 g2 g3 g4
  exact lv_tableIn hC.1 hC.2.1 dL_law_40 (by decide) (by decide) (off := 362) rfl rfl (hA H locs ls g1 g2 g3 g4)
theorem ts_7 {L : List (Nat × pt_V)} {M : pt_M} : pt_Go YL_law (40, L, [pt_i 7], M) (463, L, [], M) := by
  intro p l e s m args below meth c D ad cA A cells slots Q hC hA H locs ls g1 g2 g3 g4
  exact lv_tableIn hC.1 hC.2.1 dL_law_40 (by decide) (by decide) (off := 423) rfl rfl (hA H locs ls g1 g2 g3 g4)
theorem ts_8 {L : List (Nat × pt_V)} {M : pt_M} : pt_Go YL_law (40, L, [pt_i 8], M) (500, L, [], M) := by
  intro p l e s m args below meth c D ad cA A cells slots Q hC hA H locs ls g1 g2 g3 g4
  exact lv_tableIn hC.1 hC.2.1 dL_law_40 (by decide) (by decide) (off := 460) rfl rfl (hA H locs ls g1 g2 g3 g4)
theorem ts_9 {L : List (Nat × pt_V)} {M : pt_M} : pt_Go YL_law (40, L, [pt_i 9], M) (537, L, [], M) := by
  intro p l e s m args below meth c D ad cA A cells slots Q hC hA H locs ls g1 g2 g3 g4
  exact lv_tableIn hC.1 hC.2.1 dL_law_40 (by decide) (by decide) (off := 497) rfl rfl (hA H locs ls g1 g2 g3 g4)
theorem ts_10 {L : List (Nat × pt_V)} {M : pt_M} : pt_Go YL_law (40, L, [pt_i 10], M) (586, L, [], M) := by
  intro p l e s m args below meth c D ad cA A cells slots Q hC hA H locs ls g1 g2 g3 g4
  exact lv_tableIn hC.1 hC.2.1 dL_law_40 (by decide) (by decide) (off := 546) rfl rfl (hA H locs ls g1 g2 g3 g4)
theorem ts_11 {L : List (Nat × pt_V)} {M : pt_M} : pt_Go YL_law (40, L, [pt_i 11], M) (611, L, [], M) := by
  intro p l e s m args below meth c D ad cA A cells slots Q hC hA H locs ls g1 g2 g3 g4
  exact lv_tableIn hC.1 hC.2.1 dL_law_40 (by decide) (by decide) (off := 571) rfl rfl (hA H locs ls g1 g2 g3 g4)
theorem ts_12 {L : List (Nat × pt_V)} {M : pt_M} : pt_Go YL_law (40, L, [pt_i 12], M) (636, L, [], M) := by
  intro p l e s m args below meth c D ad cA A cells slots Q hC hA H locs ls g1 g2 g3 g4
  exact lv_tableIn hC.1 hC.2.1 dL_law_40 (by decide) (by decide) (off := 596) rfl rfl (hA H locs ls g1 g2 g3 g4)
theorem ts_13 {L : List (Nat × pt_V)} {M : pt_M} : pt_Go YL_law (40, L, [pt_i 13], M) (661, L, [], M) := by
  intro p l e s m args below meth c D ad cA A cells slots Q hC hA H locs ls g1 g2 g3 g4
  exact lv_tableIn hC.1 hC.2.1 dL_law_40 (by decide) (by decide) (off := 621) rfl rfl (hA H locs ls g1 g2 g3 g4)
theorem ts_14 {L : List (Nat × pt_V)} {M : pt_M} : pt_Go YL_law (40, L, [pt_i 14], M) (729, L, [], M) := by
  intro p l e s m args below meth c D ad cA A cells slots Q hC hA H locs ls g1 g2 g3 g4
  exact lv_tableIn hC.1 hC.2.1 dL_law_40 (by decide) (by decide) (off := 689) rfl rfl (hA H locs ls g1 g2 g3 g4)
theorem ts_15 {L : List (Nat × pt_V)} {M : pt_M} : pt_Go YL_law (40, L, [pt_i 15], M) (766, L, [], M) := by
  intro p l e s m args below meth c D ad cA A cells slots Q hC hA H locs ls g1 g2 g3 g4
  exact lv_tableIn hC.1 hC.2.1 dL_law_40 (by decide) (by decide) (off := 726) rfl rfl (hA H locs ls g1 g2 g3 g4)
theorem ts_16 {L : List (Nat × pt_V)} {M : pt_M} : pt_Go YL_law (40, L, [pt_i 16], M) (791, L, [], M) := by
  intro p l e s m args below meth c D ad cA A cells slots Q hC hA H locs ls g1 g2 g3 g4
  exact lv_tableIn hC.1 hC.2.1 dL_law_40 (by decide) (by decide) (off := 751) rfl rfl (hA H locs ls g1 g2 g3 g4)
theorem ts_17 {L : List (Nat × pt_V)} {M : pt_M} : pt_Go YL_law (40, L, [pt_i 17], M) (828, L, [], M) := by
  intro p l e s m args below meth c D ad cA A cells slots Q hC hA H locs ls g1 g2 g3 g4
  exact lv_tableIn hC.1 hC.2.1 dL_law_40 (by decide) (by decide) (off := 788) rfl rfl (hA H locs ls g1 g2 g3 g4)
theorem ts_18 {L : List (Nat × pt_V)} {M : pt_M} : pt_Go YL_law (40, L, [pt_i 18], M) (865, L, [], M) := by
  intro p l e s m args below meth c D ad cA A cells slots Q hC hA H locs ls g1 g2 g3 g4
  exact lv_tableIn hC.1 hC.2.1 dL_law_40 (by decide) (by decide) (off := 825) rfl rfl (hA H locs ls g1 g2 g3 g4)
theorem ts_19 {L : List (Nat × pt_V)} {M : pt_M} : pt_Go YL_law (40, L, [pt_i 19], M) (902, L, [], M) := by
  intro p l e s m args below meth c D ad cA A cells slots Q hC hA H locs ls g1 g2 g3 g4
  exact lv_tableIn hC.1 hC.2.1 dL_law_40 (by decide) (by decide) (off := 862) rfl rfl (hA H locs ls g1 g2 g3 g4)
theorem ts_20 {L : List (Nat × pt_V)} {M : pt_M} : pt_Go YL_law (40, L, [pt_i 20], M) (927, L, [], M) := by
  intro p l e s m args below meth c D ad cA A cells slots Q hC hA H locs ls g1 g2 g3 g4
  exact lv_tableIn hC.1 hC.2.1 dL_law_40 (by decide) (by decide) (off := 887) rfl rfl (hA H locs ls g1 g2 g3 g4)
theorem ts_21 {L : List (Nat × pt_V)} {M : pt_M} : pt_Go YL_law (40, L, [pt_i 21], M) (983, L, [], M) := by
  intro p l e s m args below meth c D ad cA A cells slots Q hC hA H locs ls g1 g2 g3 g4
  exact lv_tableIn hC.1 hC.2.1 dL_law_40 (by decide) (by decide) (off := 943) rfl rfl (hA H locs ls g1 g2 g3 g4)
theorem ts_22 {L : List (Nat × pt_V)} {M : pt_M} : pt_Go YL_law (40, L, [pt_i 22], M) (1048, L, [], M) := by
  intro p l e s m args below meth c D ad cA A cells slots Q hC hA H locs ls g1 g2 g3 g4
  exact lv_tableIn hC.1 hC.2.1 dL_law_40 (by decide) (by decide) (off := 1008) rfl rfl (hA H locs ls g1 g2 g3 g4)
theorem ts_23 {L : List (Nat × pt_V)} {M : pt_M} : pt_Go YL_law (40, L, [pt_i 23], M) (1085, L, [], M) := by
  intro p l e s m args below meth c D ad cA A cells slots Q hC hA H locs ls g1 g2 g3 g4
  exact lv_tableIn hC.1 hC.2.1 dL_law_40 (by decide) (by decide) (off := 1045) rfl rfl (hA H locs ls g1 g2 g3 g4)
theorem ts_24 {L : List (Nat × pt_V)} {M : pt_M} : pt_Go YL_law (40, L, [pt_i 24], M) (1158, L, [], M) := by
  intro p l e s m args below meth c D ad cA A cells slots Q hC hA H locs ls g1 g2 g3 g4
  exact lv_tableIn hC.1 hC.2.1 dL_law_40 (by decide) (by decide) (off := 1118) rfl rfl (hA H locs ls g1 g2 g3 g4)
theorem ts_25 {L : List (Nat × pt_V)} {M : pt_M} : pt_Go YL_law (40, L, [pt_i 25], M) (1183, L, [], M) := by
  intro p l e s m args below meth c D ad cA A cells slots Q hC hA H locs ls g1 g2 g3 g4
  exact lv_tableIn hC.1 hC.2.1 dL_law_40 (by decide) (by decide) (off := 1143) rfl rfl (hA H locs ls g1 g2 g3 g4)
theorem ts_26 {L : List (Nat × pt_V)} {M : pt_M} : pt_Go YL_law (40, L, [pt_i 26], M) (1232, L, [], M) := by
  intro p l e s m args below meth c D ad cA A cells slots Q hC hA H locs ls g1 g2 g3 g4
  exact lv_tableIn hC.1 hC.2.1 dL_law_40 (by decide) (by decide) (off := 1192) rfl rfl (hA H locs ls g1 g2 g3 g4)
theorem ts_27 {L : List (Nat × pt_V)} {M : pt_M} : pt_Go YL_law (40, L, [pt_i 27], M) (1257, L, [], M) := by
  intro p l e s m args below meth c D ad cA A cells slots Q hC hA H locs ls g1 g2 g3 g4
  exact lv_tableIn hC.1 hC.2.1 dL_law_40 (by decide) (by decide) (off := 1217) rfl rfl (hA H locs ls g1 g2 g3 g4)
theorem ts_28 {L : List (Nat × pt_V)} {M : pt_M} : pt_Go YL_law (40, L, [pt_i 28], M) (1282, L, [], M) := by
  intro p l e s m args below meth c D ad cA A cells slots Q hC hA H locs ls g1 g2 g3 g4
  exact lv_tableOut hC.1 hC.2.1 dL_law_40 (by decide) rfl (hA H locs ls g1 g2 g3 g4)
theorem ts_29 {L : List (Nat × pt_V)} {M : pt_M} : pt_Go YL_law (40, L, [pt_i 29], M) (1282, L, [], M) := by
  intro p l e s m args below meth c D ad cA A cells slots Q hC hA H locs ls g1 g2 g3 g4
  exact lv_tableOut hC.1 hC.2.1 dL_law_40 (by decide) rfl (hA H locs ls g1 g2 g3 g4)
theorem ts_30 {L : List (Nat × pt_V)} {M : pt_M} : pt_Go YL_law (40, L, [pt_i 30], M) (1282, L, [], M) := by
  intro p l e s m args below meth c D ad cA A cells slots Q hC hA H locs ls g1 g2 g3 g4
  exact lv_tableOut hC.1 hC.2.1 dL_law_40 (by decide) rfl (hA H locs ls g1 g2 g3 g4)
theorem ts_31 {L : List (Nat × pt_V)} {M : pt_M} : pt_Go YL_law (40, L, [pt_i 31], M) (1282, L, [], M) := by
  intro p l e s m args below meth c D ad cA A cells slots Q hC hA H locs ls g1 g2 g3 g4
  exact lv_tableOut hC.1 hC.2.1 dL_law_40 (by decide) rfl (hA H locs ls g1 g2 g3 g4)
theorem it_feed {M : pt_M} {l4 : Int32} (h : IV_P M) (h1 : pt_in (l4 + 1) (pt_L M)) (h2 : pt_in (l4 + 2) (pt_L M)) (h3 : pt_in (l4 + 3) (pt_L M)) (h4 : pt_in (l4 + 4) (pt_L M)) (h5 : pt_in (l4 + 5) (pt_L M)) : ∃ M', IV_P M' ∧ M'.2.2.2.2 = M.2.2.2.2 ∧ pt_Go YL_law (168, [(0, pt_r 51 0), (1, pt_r 2 0), (2, pt_r 7 0), (3, pt_r 50 0), (4, pt_i l4)], [], M) (23, [(0, pt_r 51 0), (1, pt_r 2 0), (2, pt_r 7 0), (3, pt_r 50 0), (4, pt_i (l4 + 6))], [], M') := by
  obtain ⟨M1, M2, r, d1, d2, hI⟩ := op_feed h (pt_X M (pt_nt (l4 + 1))) (pt_X M (pt_nt (l4 + 2))) (pt_X M (pt_nt (l4 + 3))) (pt_X M (pt_nt (l4 + 4))) (pt_X M (pt_nt (l4 + 5)))
  have e1 : M1.2.2.2.2 = M.2.2.2.2 := dX_x5 d1
  have e2 : M2.2.2.2.2 = M1.2.2.2.2 := dX_x5 d2
  have eL : pt_L M1 = pt_L M := congrArg (fun z => z.1) e1
  have eX : pt_X M1 = pt_X M := congrArg (fun z => z.2) e1
  exact ⟨M2, hI, e2.trans e1, (gL_law_168_1 l4 r M1 M2 M h1 h2 h3 h4 h5 d1 (by rw [eL]; exact h1) (by rw [eL]; exact h2) (by rw [eL]; exact h3) (by rw [eL]; exact h4) (by rw [eL]; exact h5) (by rw [eX]; exact d2)).tr (gL_law_1282_1 l4 0 M M M2)⟩
theorem it_end {M : pt_M} {l4 : Int32} (h : IV_P M) (h1 : pt_in (l4 + 1) (pt_L M)) (h2 : pt_in (l4 + 2) (pt_L M)) (h3 : pt_in (l4 + 3) (pt_L M)) (h4 : pt_in (l4 + 4) (pt_L M)) (h5 : pt_in (l4 + 5) (pt_L M)) : ∃ M', IV_P M' ∧ M'.2.2.2.2 = M.2.2.2.2 ∧ pt_Go YL_law (241, [(0, pt_r 51 0), (1, pt_r 2 0), (2, pt_r 7 0), (3, pt_r 50 0), (4, pt_i l4)], [], M) (23, [(0, pt_r 51 0), (1, pt_r 2 0), (2, pt_r 7 0), (3, pt_r 50 0), (4, pt_i (l4 + 6))], [], M') := by
  obtain ⟨M1, M2, r, d1, d2, hI⟩ := op_end h (pt_X M (pt_nt (l4 + 1)))
  have e1 : M1.2.2.2.2 = M.2.2.2.2 := dX_x5 d1
  have e2 : M2.2.2.2.2 = M1.2.2.2.2 := dX_x5 d2
  have eL : pt_L M1 = pt_L M := congrArg (fun z => z.1) e1
  have eX : pt_X M1 = pt_X M := congrArg (fun z => z.2) e1
  exact ⟨M2, hI, e2.trans e1, (gL_law_241_1 l4 r M1 M2 M h1 d1 (by rw [eL]; exact h1) (by rw [eX]; exact d2)).tr (gL_law_1282_1 l4 0 M M M2)⟩
theorem it_place {M : pt_M} {l4 : Int32} (h : IV_P M) (h1 : pt_in (l4 + 1) (pt_L M)) (h2 : pt_in (l4 + 2) (pt_L M)) (h3 : pt_in (l4 + 3) (pt_L M)) (h4 : pt_in (l4 + 4) (pt_L M)) (h5 : pt_in (l4 + 5) (pt_L M)) : ∃ M', IV_P M' ∧ M'.2.2.2.2 = M.2.2.2.2 ∧ pt_Go YL_law (266, [(0, pt_r 51 0), (1, pt_r 2 0), (2, pt_r 7 0), (3, pt_r 50 0), (4, pt_i l4)], [], M) (23, [(0, pt_r 51 0), (1, pt_r 2 0), (2, pt_r 7 0), (3, pt_r 50 0), (4, pt_i (l4 + 6))], [], M') := by
  obtain ⟨M1, M2, r, d1, d2, hI⟩ := op_place h (pt_X M (pt_nt (l4 + 1)))
  have e1 : M1.2.2.2.2 = M.2.2.2.2 := dX_x5 d1
  have e2 : M2.2.2.2.2 = M1.2.2.2.2 := dX_x5 d2
  have eL : pt_L M1 = pt_L M := congrArg (fun z => z.1) e1
  have eX : pt_X M1 = pt_X M := congrArg (fun z => z.2) e1
  exact ⟨M2, hI, e2.trans e1, (gL_law_266_1 l4 r M1 M2 M h1 d1 (by rw [eL]; exact h1) (by rw [eX]; exact d2)).tr (gL_law_1282_1 l4 0 M M M2)⟩
theorem it_line {M : pt_M} {l4 : Int32} (h : IV_P M) (h1 : pt_in (l4 + 1) (pt_L M)) (h2 : pt_in (l4 + 2) (pt_L M)) (h3 : pt_in (l4 + 3) (pt_L M)) (h4 : pt_in (l4 + 4) (pt_L M)) (h5 : pt_in (l4 + 5) (pt_L M)) : ∃ M', IV_P M' ∧ M'.2.2.2.2 = M.2.2.2.2 ∧ pt_Go YL_law (291, [(0, pt_r 51 0), (1, pt_r 2 0), (2, pt_r 7 0), (3, pt_r 50 0), (4, pt_i l4)], [], M) (23, [(0, pt_r 51 0), (1, pt_r 2 0), (2, pt_r 7 0), (3, pt_r 50 0), (4, pt_i (l4 + 6))], [], M') := by
  obtain ⟨M1, M2, r, d1, d2, hI⟩ := op_line h
  have e1 : M1.2.2.2.2 = M.2.2.2.2 := dX_x5 d1
  have e2 : M2.2.2.2.2 = M1.2.2.2.2 := dX_x5 d2
  have eL : pt_L M1 = pt_L M := congrArg (fun z => z.1) e1
  have eX : pt_X M1 = pt_X M := congrArg (fun z => z.2) e1
  exact ⟨M2, hI, e2.trans e1, (gL_law_291_1 l4 r M1 M2 M d1 d2).tr (gL_law_1282_1 l4 0 M M M2)⟩
theorem it_table {M : pt_M} {l4 : Int32} (h : IV_P M) (h1 : pt_in (l4 + 1) (pt_L M)) (h2 : pt_in (l4 + 2) (pt_L M)) (h3 : pt_in (l4 + 3) (pt_L M)) (h4 : pt_in (l4 + 4) (pt_L M)) (h5 : pt_in (l4 + 5) (pt_L M)) : ∃ M', IV_P M' ∧ M'.2.2.2.2 = M.2.2.2.2 ∧ pt_Go YL_law (304, [(0, pt_r 51 0), (1, pt_r 2 0), (2, pt_r 7 0), (3, pt_r 50 0), (4, pt_i l4)], [], M) (23, [(0, pt_r 51 0), (1, pt_r 2 0), (2, pt_r 7 0), (3, pt_r 50 0), (4, pt_i (l4 + 6))], [], M') := by
  obtain ⟨M1, M2, r, d1, d2, hI⟩ := op_table h (pt_X M (pt_nt (l4 + 1))) (pt_X M (pt_nt (l4 + 2)))
  have e1 : M1.2.2.2.2 = M.2.2.2.2 := dX_x5 d1
  have e2 : M2.2.2.2.2 = M1.2.2.2.2 := dX_x5 d2
  have eL : pt_L M1 = pt_L M := congrArg (fun z => z.1) e1
  have eX : pt_X M1 = pt_X M := congrArg (fun z => z.2) e1
  exact ⟨M2, hI, e2.trans e1, (gL_law_304_1 l4 r M1 M2 M h1 h2 d1 (by rw [eL]; exact h1) (by rw [eL]; exact h2) (by rw [eX]; exact d2)).tr (gL_law_1282_1 l4 0 M M M2)⟩
theorem it_turn {M : pt_M} {l4 : Int32} (h : IV_P M) (h1 : pt_in (l4 + 1) (pt_L M)) (h2 : pt_in (l4 + 2) (pt_L M)) (h3 : pt_in (l4 + 3) (pt_L M)) (h4 : pt_in (l4 + 4) (pt_L M)) (h5 : pt_in (l4 + 5) (pt_L M)) : ∃ M', IV_P M' ∧ M'.2.2.2.2 = M.2.2.2.2 ∧ pt_Go YL_law (341, [(0, pt_r 51 0), (1, pt_r 2 0), (2, pt_r 7 0), (3, pt_r 50 0), (4, pt_i l4)], [], M) (23, [(0, pt_r 51 0), (1, pt_r 2 0), (2, pt_r 7 0), (3, pt_r 50 0), (4, pt_i (l4 + 6))], [], M') := by
  obtain ⟨M1, M2, r, d1, d2, hI⟩ := op_turn h (pt_X M (pt_nt (l4 + 1))) (pt_X M (pt_nt (l4 + 2))) (pt_X M (pt_nt (l4 + 3))) (pt_X M (pt_nt (l4 + 4)))
  have e1 : M1.2.2.2.2 = M.2.2.2.2 := dX_x5 d1
  have e2 : M2.2.2.2.2 = M1.2.2.2.2 := dX_x5 d2
  have eL : pt_L M1 = pt_L M := congrArg (fun z => z.1) e1
  have eX : pt_X M1 = pt_X M := congrArg (fun z => z.2) e1
  exact ⟨M2, hI, e2.trans e1, (gL_law_341_1 l4 r M1 M2 M h1 h2 h3 h4 d1 (by rw [eL]; exact h1) (by rw [eL]; exact h2) (by rw [eL]; exact h3) (by rw [eL]; exact h4) (by rw [eX]; exact d2)).tr (gL_law_1282_1 l4 0 M M M2)⟩
theorem it_flip {M : pt_M} {l4 : Int32} (h : IV_P M) (h1 : pt_in (l4 + 1) (pt_L M)) (h2 : pt_in (l4 + 2) (pt_L M)) (h3 : pt_in (l4 + 3) (pt_L M)) (h4 : pt_in (l4 + 4) (pt_L M)) (h5 : pt_in (l4 + 5) (pt_L M)) : ∃ M', IV_P M' ∧ M'.2.2.2.2 = M.2.2.2.2 ∧ pt_Go YL_law (402, [(0, pt_r 51 0), (1, pt_r 2 0), (2, pt_r 7 0), (3, pt_r 50 0), (4, pt_i l4)], [], M) (23, [(0, pt_r 51 0), (1, pt_r 2 0), (2, pt_r 7 0), (3, pt_r 50 0), (4, pt_i (l4 + 6))], [], M') := by
  obtain ⟨M1, M2, r, d1, d2, hI⟩ := op_flip h (pt_X M (pt_nt (l4 + 1))) (pt_X M (pt_nt (l4 + 2))) (pt_X M (pt_nt (l4 + 3))) (pt_X M (pt_nt (l4 + 4)))
  have e1 : M1.2.2.2.2 = M.2.2.2.2 := dX_x5 d1
  have e2 : M2.2.2.2.2 = M1.2.2.2.2 := dX_x5 d2
  have eL : pt_L M1 = pt_L M := congrArg (fun z => z.1) e1
  have eX : pt_X M1 = pt_X M := congrArg (fun z => z.2) e1
  exact ⟨M2, hI, e2.trans e1, (gL_law_402_1 l4 r M1 M2 M h1 h2 h3 h4 d1 (by rw [eL]; exact h1) (by rw [eL]; exact h2) (by rw [eL]; exact h3) (by rw [eL]; exact h4) (by rw [eX]; exact d2)).tr (gL_law_1282_1 l4 0 M M M2)⟩
theorem it_mirror {M : pt_M} {l4 : Int32} (h : IV_P M) (h1 : pt_in (l4 + 1) (pt_L M)) (h2 : pt_in (l4 + 2) (pt_L M)) (h3 : pt_in (l4 + 3) (pt_L M)) (h4 : pt_in (l4 + 4) (pt_L M)) (h5 : pt_in (l4 + 5) (pt_L M)) : ∃ M', IV_P M' ∧ M'.2.2.2.2 = M.2.2.2.2 ∧ pt_Go YL_law (463, [(0, pt_r 51 0), (1, pt_r 2 0), (2, pt_r 7 0), (3, pt_r 50 0), (4, pt_i l4)], [], M) (23, [(0, pt_r 51 0), (1, pt_r 2 0), (2, pt_r 7 0), (3, pt_r 50 0), (4, pt_i (l4 + 6))], [], M') := by
  obtain ⟨M1, M2, r, d1, d2, hI⟩ := op_mirror h (pt_X M (pt_nt (l4 + 1))) (pt_X M (pt_nt (l4 + 2)))
  have e1 : M1.2.2.2.2 = M.2.2.2.2 := dX_x5 d1
  have e2 : M2.2.2.2.2 = M1.2.2.2.2 := dX_x5 d2
  have eL : pt_L M1 = pt_L M := congrArg (fun z => z.1) e1
  have eX : pt_X M1 = pt_X M := congrArg (fun z => z.2) e1
  exact ⟨M2, hI, e2.trans e1, (gL_law_463_1 l4 r M1 M2 M h1 h2 d1 (by rw [eL]; exact h1) (by rw [eL]; exact h2) (by rw [eX]; exact d2)).tr (gL_law_1282_1 l4 0 M M M2)⟩
theorem it_rename {M : pt_M} {l4 : Int32} (h : IV_P M) (h1 : pt_in (l4 + 1) (pt_L M)) (h2 : pt_in (l4 + 2) (pt_L M)) (h3 : pt_in (l4 + 3) (pt_L M)) (h4 : pt_in (l4 + 4) (pt_L M)) (h5 : pt_in (l4 + 5) (pt_L M)) : ∃ M', IV_P M' ∧ M'.2.2.2.2 = M.2.2.2.2 ∧ pt_Go YL_law (500, [(0, pt_r 51 0), (1, pt_r 2 0), (2, pt_r 7 0), (3, pt_r 50 0), (4, pt_i l4)], [], M) (23, [(0, pt_r 51 0), (1, pt_r 2 0), (2, pt_r 7 0), (3, pt_r 50 0), (4, pt_i (l4 + 6))], [], M') := by
  obtain ⟨M1, M2, r, d1, d2, hI⟩ := op_rename h (pt_X M (pt_nt (l4 + 1))) (pt_X M (pt_nt (l4 + 2)))
  have e1 : M1.2.2.2.2 = M.2.2.2.2 := dX_x5 d1
  have e2 : M2.2.2.2.2 = M1.2.2.2.2 := dX_x5 d2
  have eL : pt_L M1 = pt_L M := congrArg (fun z => z.1) e1
  have eX : pt_X M1 = pt_X M := congrArg (fun z => z.2) e1
  exact ⟨M2, hI, e2.trans e1, (gL_law_500_1 l4 r M1 M2 M h1 h2 d1 (by rw [eL]; exact h1) (by rw [eL]; exact h2) (by rw [eX]; exact d2)).tr (gL_law_1282_1 l4 0 M M M2)⟩
theorem it_without {M : pt_M} {l4 : Int32} (h : IV_P M) (h1 : pt_in (l4 + 1) (pt_L M)) (h2 : pt_in (l4 + 2) (pt_L M)) (h3 : pt_in (l4 + 3) (pt_L M)) (h4 : pt_in (l4 + 4) (pt_L M)) (h5 : pt_in (l4 + 5) (pt_L M)) : ∃ M', IV_P M' ∧ M'.2.2.2.2 = M.2.2.2.2 ∧ pt_Go YL_law (537, [(0, pt_r 51 0), (1, pt_r 2 0), (2, pt_r 7 0), (3, pt_r 50 0), (4, pt_i l4)], [], M) (23, [(0, pt_r 51 0), (1, pt_r 2 0), (2, pt_r 7 0), (3, pt_r 50 0), (4, pt_i (l4 + 6))], [], M') := by
  obtain ⟨M1, M2, r, d1, d2, hI⟩ := op_without h (pt_X M (pt_nt (l4 + 1))) (pt_X M (pt_nt (l4 + 2))) (pt_X M (pt_nt (l4 + 3)))
  have e1 : M1.2.2.2.2 = M.2.2.2.2 := dX_x5 d1
  have e2 : M2.2.2.2.2 = M1.2.2.2.2 := dX_x5 d2
  have eL : pt_L M1 = pt_L M := congrArg (fun z => z.1) e1
  have eX : pt_X M1 = pt_X M := congrArg (fun z => z.2) e1
  exact ⟨M2, hI, e2.trans e1, (gL_law_537_1 l4 r M1 M2 M h1 h2 h3 d1 (by rw [eL]; exact h1) (by rw [eL]; exact h2) (by rw [eL]; exact h3) (by rw [eX]; exact d2)).tr (gL_law_1282_1 l4 0 M M M2)⟩
theorem it_lawful {M : pt_M} {l4 : Int32} (h : IV_P M) (h1 : pt_in (l4 + 1) (pt_L M)) (h2 : pt_in (l4 + 2) (pt_L M)) (h3 : pt_in (l4 + 3) (pt_L M)) (h4 : pt_in (l4 + 4) (pt_L M)) (h5 : pt_in (l4 + 5) (pt_L M)) : ∃ M', IV_P M' ∧ M'.2.2.2.2 = M.2.2.2.2 ∧ pt_Go YL_law (586, [(0, pt_r 51 0), (1, pt_r 2 0), (2, pt_r 7 0), (3, pt_r 50 0), (4, pt_i l4)], [], M) (23, [(0, pt_r 51 0), (1, pt_r 2 0), (2, pt_r 7 0), (3, pt_r 50 0), (4, pt_i (l4 + 6))], [], M') := by
  obtain ⟨M1, M2, r, d1, d2, hI⟩ := op_lawful h (pt_X M (pt_nt (l4 + 1)))
  have e1 : M1.2.2.2.2 = M.2.2.2.2 := dX_x5 d1
  have e2 : M2.2.2.2.2 = M1.2.2.2.2 := dX_x5 d2
  have eL : pt_L M1 = pt_L M := congrArg (fun z => z.1) e1
  have eX : pt_X M1 = pt_X M := congrArg (fun z => z.2) e1
  exact ⟨M2, hI, e2.trans e1, (gL_law_586_1 l4 r M1 M2 M h1 d1 (by rw [eL]; exact h1) (by rw [eX]; exact d2)).tr (gL_law_1282_1 l4 0 M M M2)⟩
theorem it_why {M : pt_M} {l4 : Int32} (h : IV_P M) (h1 : pt_in (l4 + 1) (pt_L M)) (h2 : pt_in (l4 + 2) (pt_L M)) (h3 : pt_in (l4 + 3) (pt_L M)) (h4 : pt_in (l4 + 4) (pt_L M)) (h5 : pt_in (l4 + 5) (pt_L M)) : ∃ M', IV_P M' ∧ M'.2.2.2.2 = M.2.2.2.2 ∧ pt_Go YL_law (611, [(0, pt_r 51 0), (1, pt_r 2 0), (2, pt_r 7 0), (3, pt_r 50 0), (4, pt_i l4)], [], M) (23, [(0, pt_r 51 0), (1, pt_r 2 0), (2, pt_r 7 0), (3, pt_r 50 0), (4, pt_i (l4 + 6))], [], M') := by
  obtain ⟨M1, M2, r, d1, d2, hI⟩ := op_why h (pt_X M (pt_nt (l4 + 1)))
  have e1 : M1.2.2.2.2 = M.2.2.2.2 := dX_x5 d1
  have e2 : M2.2.2.2.2 = M1.2.2.2.2 := dX_x5 d2
  have eL : pt_L M1 = pt_L M := congrArg (fun z => z.1) e1
  have eX : pt_X M1 = pt_X M := congrArg (fun z => z.2) e1
  exact ⟨M2, hI, e2.trans e1, (gL_law_611_1 l4 r M1 M2 M h1 d1 (by rw [eL]; exact h1) (by rw [eX]; exact d2)).tr (gL_law_1282_1 l4 0 M M M2)⟩
theorem it_rim {M : pt_M} {l4 : Int32} (h : IV_P M) (h1 : pt_in (l4 + 1) (pt_L M)) (h2 : pt_in (l4 + 2) (pt_L M)) (h3 : pt_in (l4 + 3) (pt_L M)) (h4 : pt_in (l4 + 4) (pt_L M)) (h5 : pt_in (l4 + 5) (pt_L M)) : ∃ M', IV_P M' ∧ M'.2.2.2.2 = M.2.2.2.2 ∧ pt_Go YL_law (636, [(0, pt_r 51 0), (1, pt_r 2 0), (2, pt_r 7 0), (3, pt_r 50 0), (4, pt_i l4)], [], M) (23, [(0, pt_r 51 0), (1, pt_r 2 0), (2, pt_r 7 0), (3, pt_r 50 0), (4, pt_i (l4 + 6))], [], M') := by
  obtain ⟨M1, M2, r, d1, d2, hI⟩ := op_rim h (pt_X M (pt_nt (l4 + 1)))
  have e1 : M1.2.2.2.2 = M.2.2.2.2 := dX_x5 d1
  have e2 : M2.2.2.2.2 = M1.2.2.2.2 := dX_x5 d2
  have eL : pt_L M1 = pt_L M := congrArg (fun z => z.1) e1
  have eX : pt_X M1 = pt_X M := congrArg (fun z => z.2) e1
  exact ⟨M2, hI, e2.trans e1, (gL_law_636_1 l4 r M1 M2 M h1 d1 (by rw [eL]; exact h1) (by rw [eX]; exact d2)).tr (gL_law_1282_1 l4 0 M M M2)⟩
theorem it_layer {M : pt_M} {l4 : Int32} (h : IV_P M) (h1 : pt_in (l4 + 1) (pt_L M)) (h2 : pt_in (l4 + 2) (pt_L M)) (h3 : pt_in (l4 + 3) (pt_L M)) (h4 : pt_in (l4 + 4) (pt_L M)) (h5 : pt_in (l4 + 5) (pt_L M)) : ∃ M', IV_P M' ∧ M'.2.2.2.2 = M.2.2.2.2 ∧ pt_Go YL_law (729, [(0, pt_r 51 0), (1, pt_r 2 0), (2, pt_r 7 0), (3, pt_r 50 0), (4, pt_i l4)], [], M) (23, [(0, pt_r 51 0), (1, pt_r 2 0), (2, pt_r 7 0), (3, pt_r 50 0), (4, pt_i (l4 + 6))], [], M') := by
  obtain ⟨M1, M2, r, d1, d2, hI⟩ := op_layer h (pt_X M (pt_nt (l4 + 1))) (pt_X M (pt_nt (l4 + 2)))
  have e1 : M1.2.2.2.2 = M.2.2.2.2 := dX_x5 d1
  have e2 : M2.2.2.2.2 = M1.2.2.2.2 := dX_x5 d2
  have eL : pt_L M1 = pt_L M := congrArg (fun z => z.1) e1
  have eX : pt_X M1 = pt_X M := congrArg (fun z => z.2) e1
  exact ⟨M2, hI, e2.trans e1, (gL_law_729_1 l4 r M1 M2 M h1 h2 d1 (by rw [eL]; exact h1) (by rw [eL]; exact h2) (by rw [eX]; exact d2)).tr (gL_law_1282_1 l4 0 M M M2)⟩
theorem it_code {M : pt_M} {l4 : Int32} (h : IV_P M) (h1 : pt_in (l4 + 1) (pt_L M)) (h2 : pt_in (l4 + 2) (pt_L M)) (h3 : pt_in (l4 + 3) (pt_L M)) (h4 : pt_in (l4 + 4) (pt_L M)) (h5 : pt_in (l4 + 5) (pt_L M)) : ∃ M', IV_P M' ∧ M'.2.2.2.2 = M.2.2.2.2 ∧ pt_Go YL_law (766, [(0, pt_r 51 0), (1, pt_r 2 0), (2, pt_r 7 0), (3, pt_r 50 0), (4, pt_i l4)], [], M) (23, [(0, pt_r 51 0), (1, pt_r 2 0), (2, pt_r 7 0), (3, pt_r 50 0), (4, pt_i (l4 + 6))], [], M') := by
  obtain ⟨M1, M2, r, d1, d2, hI⟩ := op_code h (pt_X M (pt_nt (l4 + 1)))
  have e1 : M1.2.2.2.2 = M.2.2.2.2 := dX_x5 d1
  have e2 : M2.2.2.2.2 = M1.2.2.2.2 := dX_x5 d2
  have eL : pt_L M1 = pt_L M := congrArg (fun z => z.1) e1
  have eX : pt_X M1 = pt_X M := congrArg (fun z => z.2) e1
  exact ⟨M2, hI, e2.trans e1, (gL_law_766_1 l4 r M1 M2 M h1 d1 (by rw [eL]; exact h1) (by rw [eX]; exact d2)).tr (gL_law_1282_1 l4 0 M M M2)⟩
theorem it_named {M : pt_M} {l4 : Int32} (h : IV_P M) (h1 : pt_in (l4 + 1) (pt_L M)) (h2 : pt_in (l4 + 2) (pt_L M)) (h3 : pt_in (l4 + 3) (pt_L M)) (h4 : pt_in (l4 + 4) (pt_L M)) (h5 : pt_in (l4 + 5) (pt_L M)) : ∃ M', IV_P M' ∧ M'.2.2.2.2 = M.2.2.2.2 ∧ pt_Go YL_law (791, [(0, pt_r 51 0), (1, pt_r 2 0), (2, pt_r 7 0), (3, pt_r 50 0), (4, pt_i l4)], [], M) (23, [(0, pt_r 51 0), (1, pt_r 2 0), (2, pt_r 7 0), (3, pt_r 50 0), (4, pt_i (l4 + 6))], [], M') := by
  obtain ⟨M1, M2, r, d1, d2, hI⟩ := op_named h (pt_X M (pt_nt (l4 + 1))) (pt_X M (pt_nt (l4 + 2)))
  have e1 : M1.2.2.2.2 = M.2.2.2.2 := dX_x5 d1
  have e2 : M2.2.2.2.2 = M1.2.2.2.2 := dX_x5 d2
  have eL : pt_L M1 = pt_L M := congrArg (fun z => z.1) e1
  have eX : pt_X M1 = pt_X M := congrArg (fun z => z.2) e1
  exact ⟨M2, hI, e2.trans e1, (gL_law_791_1 l4 r M1 M2 M h1 h2 d1 (by rw [eL]; exact h1) (by rw [eL]; exact h2) (by rw [eX]; exact d2)).tr (gL_law_1282_1 l4 0 M M M2)⟩
theorem it_like {M : pt_M} {l4 : Int32} (h : IV_P M) (h1 : pt_in (l4 + 1) (pt_L M)) (h2 : pt_in (l4 + 2) (pt_L M)) (h3 : pt_in (l4 + 3) (pt_L M)) (h4 : pt_in (l4 + 4) (pt_L M)) (h5 : pt_in (l4 + 5) (pt_L M)) : ∃ M', IV_P M' ∧ M'.2.2.2.2 = M.2.2.2.2 ∧ pt_Go YL_law (828, [(0, pt_r 51 0), (1, pt_r 2 0), (2, pt_r 7 0), (3, pt_r 50 0), (4, pt_i l4)], [], M) (23, [(0, pt_r 51 0), (1, pt_r 2 0), (2, pt_r 7 0), (3, pt_r 50 0), (4, pt_i (l4 + 6))], [], M') := by
  obtain ⟨M1, M2, r, d1, d2, hI⟩ := op_like h (pt_X M (pt_nt (l4 + 1))) (pt_X M (pt_nt (l4 + 2)))
  have e1 : M1.2.2.2.2 = M.2.2.2.2 := dX_x5 d1
  have e2 : M2.2.2.2.2 = M1.2.2.2.2 := dX_x5 d2
  have eL : pt_L M1 = pt_L M := congrArg (fun z => z.1) e1
  have eX : pt_X M1 = pt_X M := congrArg (fun z => z.2) e1
  exact ⟨M2, hI, e2.trans e1, (gL_law_828_1 l4 r M1 M2 M h1 h2 d1 (by rw [eL]; exact h1) (by rw [eL]; exact h2) (by rw [eX]; exact d2)).tr (gL_law_1282_1 l4 0 M M M2)⟩
theorem it_swept {M : pt_M} {l4 : Int32} (h : IV_P M) (h1 : pt_in (l4 + 1) (pt_L M)) (h2 : pt_in (l4 + 2) (pt_L M)) (h3 : pt_in (l4 + 3) (pt_L M)) (h4 : pt_in (l4 + 4) (pt_L M)) (h5 : pt_in (l4 + 5) (pt_L M)) : ∃ M', IV_P M' ∧ M'.2.2.2.2 = M.2.2.2.2 ∧ pt_Go YL_law (865, [(0, pt_r 51 0), (1, pt_r 2 0), (2, pt_r 7 0), (3, pt_r 50 0), (4, pt_i l4)], [], M) (23, [(0, pt_r 51 0), (1, pt_r 2 0), (2, pt_r 7 0), (3, pt_r 50 0), (4, pt_i (l4 + 6))], [], M') := by
  obtain ⟨M1, M2, r, d1, d2, hI⟩ := op_swept h (pt_X M (pt_nt (l4 + 1))) (pt_X M (pt_nt (l4 + 2)))
  have e1 : M1.2.2.2.2 = M.2.2.2.2 := dX_x5 d1
  have e2 : M2.2.2.2.2 = M1.2.2.2.2 := dX_x5 d2
  have eL : pt_L M1 = pt_L M := congrArg (fun z => z.1) e1
  have eX : pt_X M1 = pt_X M := congrArg (fun z => z.2) e1
  exact ⟨M2, hI, e2.trans e1, (gL_law_865_1 l4 r M1 M2 M h1 h2 d1 (by rw [eL]; exact h1) (by rw [eL]; exact h2) (by rw [eX]; exact d2)).tr (gL_law_1282_1 l4 0 M M M2)⟩
theorem it_sweep {M : pt_M} {l4 : Int32} (h : IV_P M) (h1 : pt_in (l4 + 1) (pt_L M)) (h2 : pt_in (l4 + 2) (pt_L M)) (h3 : pt_in (l4 + 3) (pt_L M)) (h4 : pt_in (l4 + 4) (pt_L M)) (h5 : pt_in (l4 + 5) (pt_L M)) : ∃ M', IV_P M' ∧ M'.2.2.2.2 = M.2.2.2.2 ∧ pt_Go YL_law (902, [(0, pt_r 51 0), (1, pt_r 2 0), (2, pt_r 7 0), (3, pt_r 50 0), (4, pt_i l4)], [], M) (23, [(0, pt_r 51 0), (1, pt_r 2 0), (2, pt_r 7 0), (3, pt_r 50 0), (4, pt_i (l4 + 6))], [], M') := by
  obtain ⟨M1, M2, r, d1, d2, hI⟩ := op_sweep h (pt_X M (pt_nt (l4 + 1)))
  have e1 : M1.2.2.2.2 = M.2.2.2.2 := dX_x5 d1
  have e2 : M2.2.2.2.2 = M1.2.2.2.2 := dX_x5 d2
  have eL : pt_L M1 = pt_L M := congrArg (fun z => z.1) e1
  have eX : pt_X M1 = pt_X M := congrArg (fun z => z.2) e1
  exact ⟨M2, hI, e2.trans e1, (gL_law_902_1 l4 r M1 M2 M h1 d1 (by rw [eL]; exact h1) (by rw [eX]; exact d2)).tr (gL_law_1282_1 l4 0 M M M2)⟩
theorem it_figures {M : pt_M} {l4 : Int32} (h : IV_P M) (h1 : pt_in (l4 + 1) (pt_L M)) (h2 : pt_in (l4 + 2) (pt_L M)) (h3 : pt_in (l4 + 3) (pt_L M)) (h4 : pt_in (l4 + 4) (pt_L M)) (h5 : pt_in (l4 + 5) (pt_L M)) : ∃ M', IV_P M' ∧ M'.2.2.2.2 = M.2.2.2.2 ∧ pt_Go YL_law (983, [(0, pt_r 51 0), (1, pt_r 2 0), (2, pt_r 7 0), (3, pt_r 50 0), (4, pt_i l4)], [], M) (23, [(0, pt_r 51 0), (1, pt_r 2 0), (2, pt_r 7 0), (3, pt_r 50 0), (4, pt_i (l4 + 6))], [], M') := by
  by_cases c : pt_X M (pt_nt (l4 + 3)) = 0
  · obtain ⟨M1, M2, r, d1, d2, hI⟩ := op_figures h (pt_X M (pt_nt (l4 + 1))) (pt_X M (pt_nt (l4 + 2))) false
    have e1 : M1.2.2.2.2 = M.2.2.2.2 := dX_x5 d1
    have e2 : M2.2.2.2.2 = M1.2.2.2.2 := dX_x5 d2
    have eL : pt_L M1 = pt_L M := congrArg (fun z => z.1) e1
    have eX : pt_X M1 = pt_X M := congrArg (fun z => z.2) e1
    exact ⟨M2, hI, e2.trans e1, (gL_law_983_4 l4 r M1 M2 M h1 h2 h3 c d1 (by rw [eL]; exact h1) (by rw [eL]; exact h2) (by rw [eL]; exact h3) (by rw [eX]; exact c) (by rw [eX]; exact d2)).tr (gL_law_1282_1 l4 0 M M M2)⟩
  · obtain ⟨M1, M2, r, d1, d2, hI⟩ := op_figures h (pt_X M (pt_nt (l4 + 1))) (pt_X M (pt_nt (l4 + 2))) true
    have e1 : M1.2.2.2.2 = M.2.2.2.2 := dX_x5 d1
    have e2 : M2.2.2.2.2 = M1.2.2.2.2 := dX_x5 d2
    have eL : pt_L M1 = pt_L M := congrArg (fun z => z.1) e1
    have eX : pt_X M1 = pt_X M := congrArg (fun z => z.2) e1
    exact ⟨M2, hI, e2.trans e1, (gL_law_983_1 l4 r M1 M2 M h1 h2 h3 c d1 (by rw [eL]; exact h1) (by rw [eL]; exact h2) (by rw [eL]; exact h3) (by rw [eX]; exact c) (by rw [eX]; exact d2)).tr (gL_law_1282_1 l4 0 M M M2)⟩
theorem it_lines {M : pt_M} {l4 : Int32} (h : IV_P M) (h1 : pt_in (l4 + 1) (pt_L M)) (h2 : pt_in (l4 + 2) (pt_L M)) (h3 : pt_in (l4 + 3) (pt_L M)) (h4 : pt_in (l4 + 4) (pt_L M)) (h5 : pt_in (l4 + 5) (pt_L M)) : ∃ M', IV_P M' ∧ M'.2.2.2.2 = M.2.2.2.2 ∧ pt_Go YL_law (1048, [(0, pt_r 51 0), (1, pt_r 2 0), (2, pt_r 7 0), (3, pt_r 50 0), (4, pt_i l4)], [], M) (23, [(0, pt_r 51 0), (1, pt_r 2 0), (2, pt_r 7 0), (3, pt_r 50 0), (4, pt_i (l4 + 6))], [], M') := by
  obtain ⟨M1, M2, r, d1, d2, hI⟩ := op_lines h (pt_X M (pt_nt (l4 + 1))) (pt_X M (pt_nt (l4 + 2)))
  have e1 : M1.2.2.2.2 = M.2.2.2.2 := dX_x5 d1
  have e2 : M2.2.2.2.2 = M1.2.2.2.2 := dX_x5 d2
  have eL : pt_L M1 = pt_L M := congrArg (fun z => z.1) e1
  have eX : pt_X M1 = pt_X M := congrArg (fun z => z.2) e1
  exact ⟨M2, hI, e2.trans e1, (gL_law_1048_1 l4 r M1 M2 M h1 h2 d1 (by rw [eL]; exact h1) (by rw [eL]; exact h2) (by rw [eX]; exact d2)).tr (gL_law_1282_1 l4 0 M M M2)⟩
theorem it_inside {M : pt_M} {l4 : Int32} (h : IV_P M) (h1 : pt_in (l4 + 1) (pt_L M)) (h2 : pt_in (l4 + 2) (pt_L M)) (h3 : pt_in (l4 + 3) (pt_L M)) (h4 : pt_in (l4 + 4) (pt_L M)) (h5 : pt_in (l4 + 5) (pt_L M)) : ∃ M', IV_P M' ∧ M'.2.2.2.2 = M.2.2.2.2 ∧ pt_Go YL_law (1085, [(0, pt_r 51 0), (1, pt_r 2 0), (2, pt_r 7 0), (3, pt_r 50 0), (4, pt_i l4)], [], M) (23, [(0, pt_r 51 0), (1, pt_r 2 0), (2, pt_r 7 0), (3, pt_r 50 0), (4, pt_i (l4 + 6))], [], M') := by
  obtain ⟨M1, M2, r, d1, d2, hI⟩ := op_inside h (pt_X M (pt_nt (l4 + 1))) (pt_X M (pt_nt (l4 + 2))) (pt_X M (pt_nt (l4 + 3))) (pt_X M (pt_nt (l4 + 4))) (pt_X M (pt_nt (l4 + 5)))
  have e1 : M1.2.2.2.2 = M.2.2.2.2 := dX_x5 d1
  have e2 : M2.2.2.2.2 = M1.2.2.2.2 := dX_x5 d2
  have eL : pt_L M1 = pt_L M := congrArg (fun z => z.1) e1
  have eX : pt_X M1 = pt_X M := congrArg (fun z => z.2) e1
  exact ⟨M2, hI, e2.trans e1, (gL_law_1085_1 l4 r M1 M2 M h1 h2 h3 h4 h5 d1 (by rw [eL]; exact h1) (by rw [eL]; exact h2) (by rw [eL]; exact h3) (by rw [eL]; exact h4) (by rw [eL]; exact h5) (by rw [eX]; exact d2)).tr (gL_law_1282_1 l4 0 M M M2)⟩
theorem it_kinds {M : pt_M} {l4 : Int32} (h : IV_P M) (h1 : pt_in (l4 + 1) (pt_L M)) (h2 : pt_in (l4 + 2) (pt_L M)) (h3 : pt_in (l4 + 3) (pt_L M)) (h4 : pt_in (l4 + 4) (pt_L M)) (h5 : pt_in (l4 + 5) (pt_L M)) : ∃ M', IV_P M' ∧ M'.2.2.2.2 = M.2.2.2.2 ∧ pt_Go YL_law (1158, [(0, pt_r 51 0), (1, pt_r 2 0), (2, pt_r 7 0), (3, pt_r 50 0), (4, pt_i l4)], [], M) (23, [(0, pt_r 51 0), (1, pt_r 2 0), (2, pt_r 7 0), (3, pt_r 50 0), (4, pt_i (l4 + 6))], [], M') := by
  obtain ⟨M1, M2, r, d1, d2, hI⟩ := op_kinds h (pt_X M (pt_nt (l4 + 1)))
  have e1 : M1.2.2.2.2 = M.2.2.2.2 := dX_x5 d1
  have e2 : M2.2.2.2.2 = M1.2.2.2.2 := dX_x5 d2
  have eL : pt_L M1 = pt_L M := congrArg (fun z => z.1) e1
  have eX : pt_X M1 = pt_X M := congrArg (fun z => z.2) e1
  exact ⟨M2, hI, e2.trans e1, (gL_law_1158_1 l4 r M1 M2 M h1 d1 (by rw [eL]; exact h1) (by rw [eX]; exact d2)).tr (gL_law_1282_1 l4 0 M M M2)⟩
theorem it_kind {M : pt_M} {l4 : Int32} (h : IV_P M) (h1 : pt_in (l4 + 1) (pt_L M)) (h2 : pt_in (l4 + 2) (pt_L M)) (h3 : pt_in (l4 + 3) (pt_L M)) (h4 : pt_in (l4 + 4) (pt_L M)) (h5 : pt_in (l4 + 5) (pt_L M)) : ∃ M', IV_P M' ∧ M'.2.2.2.2 = M.2.2.2.2 ∧ pt_Go YL_law (1183, [(0, pt_r 51 0), (1, pt_r 2 0), (2, pt_r 7 0), (3, pt_r 50 0), (4, pt_i l4)], [], M) (23, [(0, pt_r 51 0), (1, pt_r 2 0), (2, pt_r 7 0), (3, pt_r 50 0), (4, pt_i (l4 + 6))], [], M') := by
  obtain ⟨M1, M2, r, d1, d2, hI⟩ := op_kind h (pt_X M (pt_nt (l4 + 1))) (pt_X M (pt_nt (l4 + 2))) (pt_X M (pt_nt (l4 + 3)))
  have e1 : M1.2.2.2.2 = M.2.2.2.2 := dX_x5 d1
  have e2 : M2.2.2.2.2 = M1.2.2.2.2 := dX_x5 d2
  have eL : pt_L M1 = pt_L M := congrArg (fun z => z.1) e1
  have eX : pt_X M1 = pt_X M := congrArg (fun z => z.2) e1
  exact ⟨M2, hI, e2.trans e1, (gL_law_1183_1 l4 r M1 M2 M h1 h2 h3 d1 (by rw [eL]; exact h1) (by rw [eL]; exact h2) (by rw [eL]; exact h3) (by rw [eX]; exact d2)).tr (gL_law_1282_1 l4 0 M M M2)⟩
theorem it_which {M : pt_M} {l4 : Int32} (h : IV_P M) (h1 : pt_in (l4 + 1) (pt_L M)) (h2 : pt_in (l4 + 2) (pt_L M)) (h3 : pt_in (l4 + 3) (pt_L M)) (h4 : pt_in (l4 + 4) (pt_L M)) (h5 : pt_in (l4 + 5) (pt_L M)) : ∃ M', IV_P M' ∧ M'.2.2.2.2 = M.2.2.2.2 ∧ pt_Go YL_law (1232, [(0, pt_r 51 0), (1, pt_r 2 0), (2, pt_r 7 0), (3, pt_r 50 0), (4, pt_i l4)], [], M) (23, [(0, pt_r 51 0), (1, pt_r 2 0), (2, pt_r 7 0), (3, pt_r 50 0), (4, pt_i (l4 + 6))], [], M') := by
  obtain ⟨M1, M2, r, d1, d2, hI⟩ := op_which h (pt_X M (pt_nt (l4 + 1)))
  have e1 : M1.2.2.2.2 = M.2.2.2.2 := dX_x5 d1
  have e2 : M2.2.2.2.2 = M1.2.2.2.2 := dX_x5 d2
  have eL : pt_L M1 = pt_L M := congrArg (fun z => z.1) e1
  have eX : pt_X M1 = pt_X M := congrArg (fun z => z.2) e1
  exact ⟨M2, hI, e2.trans e1, (gL_law_1232_1 l4 r M1 M2 M h1 d1 (by rw [eL]; exact h1) (by rw [eX]; exact d2)).tr (gL_law_1282_1 l4 0 M M M2)⟩
theorem it_points {M : pt_M} {l4 : Int32} (h : IV_P M) (h1 : pt_in (l4 + 1) (pt_L M)) (h2 : pt_in (l4 + 2) (pt_L M)) (h3 : pt_in (l4 + 3) (pt_L M)) (h4 : pt_in (l4 + 4) (pt_L M)) (h5 : pt_in (l4 + 5) (pt_L M)) : ∃ M', IV_P M' ∧ M'.2.2.2.2 = M.2.2.2.2 ∧ pt_Go YL_law (1257, [(0, pt_r 51 0), (1, pt_r 2 0), (2, pt_r 7 0), (3, pt_r 50 0), (4, pt_i l4)], [], M) (23, [(0, pt_r 51 0), (1, pt_r 2 0), (2, pt_r 7 0), (3, pt_r 50 0), (4, pt_i (l4 + 6))], [], M') := by
  obtain ⟨M1, M2, r, d1, d2, hI⟩ := op_points h (pt_X M (pt_nt (l4 + 1)))
  have e1 : M1.2.2.2.2 = M.2.2.2.2 := dX_x5 d1
  have e2 : M2.2.2.2.2 = M1.2.2.2.2 := dX_x5 d2
  have eL : pt_L M1 = pt_L M := congrArg (fun z => z.1) e1
  have eX : pt_X M1 = pt_X M := congrArg (fun z => z.2) e1
  exact ⟨M2, hI, e2.trans e1, (gL_law_1257_1 l4 r M1 M2 M h1 d1 (by rw [eL]; exact h1) (by rw [eX]; exact d2)).tr (gL_law_1282_1 l4 0 M M M2)⟩
theorem it_all {M : pt_M} {l4 : Int32} (h : IV_P M) (h1 : pt_in (l4 + 1) (pt_L M)) (h2 : pt_in (l4 + 2) (pt_L M)) (h3 : pt_in (l4 + 3) (pt_L M)) (h4 : pt_in (l4 + 4) (pt_L M)) (h5 : pt_in (l4 + 5) (pt_L M)) : ∀ n, n < 32 → n ≠ 13 → n ≠ 20 → ∃ M', IV_P M' ∧ M'.2.2.2.2 = M.2.2.2.2 ∧ pt_Go YL_law (40, [(0, pt_r 51 0), (1, pt_r 2 0), (2, pt_r 7 0), (3, pt_r 50 0), (4, pt_i l4)], [pt_i (nI n)], M) (23, [(0, pt_r 51 0), (1, pt_r 2 0), (2, pt_r 7 0), (3, pt_r 50 0), (4, pt_i (l4 + 6))], [], M') := by
  intro n hn a b
  match n, hn, a, b with
  | 0, _, _, _ =>
    obtain ⟨M1, i1, i2, i3⟩ := it_feed h h1 h2 h3 h4 h5
    exact ⟨M1, i1, i2, ts_0.tr i3⟩
  | 1, _, _, _ =>
    obtain ⟨M1, i1, i2, i3⟩ := it_end h h1 h2 h3 h4 h5
    exact ⟨M1, i1, i2, ts_1.tr i3⟩
  | 2, _, _, _ =>
    obtain ⟨M1, i1, i2, i3⟩ := it_place h h1 h2 h3 h4 h5
    exact ⟨M1, i1, i2, ts_2.tr i3⟩
  | 3, _, _, _ =>
    obtain ⟨M1, i1, i2, i3⟩ := it_line h h1 h2 h3 h4 h5
    exact ⟨M1, i1, i2, ts_3.tr i3⟩
  | 4, _, _, _ =>
    obtain ⟨M1, i1, i2, i3⟩ := it_table h h1 h2 h3 h4 h5
    exact ⟨M1, i1, i2, ts_4.tr i3⟩
  | 5, _, _, _ =>
    obtain ⟨M1, i1, i2, i3⟩ := it_turn h h1 h2 h3 h4 h5
    exact ⟨M1, i1, i2, ts_5.tr i3⟩
  | 6, _, _, _ =>
    obtain ⟨M1, i1, i2, i3⟩ := it_flip h h1 h2 h3 h4 h5
    exact ⟨M1, i1, i2, ts_6.tr i3⟩
  | 7, _, _, _ =>
    obtain ⟨M1, i1, i2, i3⟩ := it_mirror h h1 h2 h3 h4 h5
    exact ⟨M1, i1, i2, ts_7.tr i3⟩
  | 8, _, _, _ =>
    obtain ⟨M1, i1, i2, i3⟩ := it_rename h h1 h2 h3 h4 h5
    exact ⟨M1, i1, i2, ts_8.tr i3⟩
  | 9, _, _, _ =>
    obtain ⟨M1, i1, i2, i3⟩ := it_without h h1 h2 h3 h4 h5
    exact ⟨M1, i1, i2, ts_9.tr i3⟩
  | 10, _, _, _ =>
    obtain ⟨M1, i1, i2, i3⟩ := it_lawful h h1 h2 h3 h4 h5
    exact ⟨M1, i1, i2, ts_10.tr i3⟩
  | 11, _, _, _ =>
    obtain ⟨M1, i1, i2, i3⟩ := it_why h h1 h2 h3 h4 h5
    exact ⟨M1, i1, i2, ts_11.tr i3⟩
  | 12, _, _, _ =>
    obtain ⟨M1, i1, i2, i3⟩ := it_rim h h1 h2 h3 h4 h5
    exact ⟨M1, i1, i2, ts_12.tr i3⟩
  | 13, _, a, _ => exact absurd rfl a
  | 14, _, _, _ =>
    obtain ⟨M1, i1, i2, i3⟩ := it_layer h h1 h2 h3 h4 h5
    exact ⟨M1, i1, i2, ts_14.tr i3⟩
  | 15, _, _, _ =>
    obtain ⟨M1, i1, i2, i3⟩ := it_code h h1 h2 h3 h4 h5
    exact ⟨M1, i1, i2, ts_15.tr i3⟩
  | 16, _, _, _ =>
    obtain ⟨M1, i1, i2, i3⟩ := it_named h h1 h2 h3 h4 h5
    exact ⟨M1, i1, i2, ts_16.tr i3⟩
  | 17, _, _, _ =>
    obtain ⟨M1, i1, i2, i3⟩ := it_like h h1 h2 h3 h4 h5
    exact ⟨M1, i1, i2, ts_17.tr i3⟩
  | 18, _, _, _ =>
    obtain ⟨M1, i1, i2, i3⟩ := it_swept h h1 h2 h3 h4 h5
    exact ⟨M1, i1, i2, ts_18.tr i3⟩
  | 19, _, _, _ =>
    obtain ⟨M1, i1, i2, i3⟩ := it_sweep h h1 h2 h3 h4 h5
    exact ⟨M1, i1, i2, ts_19.tr i3⟩
  | 20, _, _, b => exact absurd rfl b
  | 21, _, _, _ =>
    obtain ⟨M1, i1, i2, i3⟩ := it_figures h h1 h2 h3 h4 h5
    exact ⟨M1, i1, i2, ts_21.tr i3⟩
  | 22, _, _, _ =>
    obtain ⟨M1, i1, i2, i3⟩ := it_lines h h1 h2 h3 h4 h5
    exact ⟨M1, i1, i2, ts_22.tr i3⟩
  | 23, _, _, _ =>
    obtain ⟨M1, i1, i2, i3⟩ := it_inside h h1 h2 h3 h4 h5
    exact ⟨M1, i1, i2, ts_23.tr i3⟩
  | 24, _, _, _ =>
    obtain ⟨M1, i1, i2, i3⟩ := it_kinds h h1 h2 h3 h4 h5
    exact ⟨M1, i1, i2, ts_24.tr i3⟩
  | 25, _, _, _ =>
    obtain ⟨M1, i1, i2, i3⟩ := it_kind h h1 h2 h3 h4 h5
    exact ⟨M1, i1, i2, ts_25.tr i3⟩
  | 26, _, _, _ =>
    obtain ⟨M1, i1, i2, i3⟩ := it_which h h1 h2 h3 h4 h5
    exact ⟨M1, i1, i2, ts_26.tr i3⟩
  | 27, _, _, _ =>
    obtain ⟨M1, i1, i2, i3⟩ := it_points h h1 h2 h3 h4 h5
    exact ⟨M1, i1, i2, ts_27.tr i3⟩
  | 28, _, _, _ => exact ⟨M, h, rfl, ts_28.tr (gL_law_1282_1 l4 0 M M M)⟩
  | 29, _, _, _ => exact ⟨M, h, rfl, ts_29.tr (gL_law_1282_1 l4 0 M M M)⟩
  | 30, _, _, _ => exact ⟨M, h, rfl, ts_30.tr (gL_law_1282_1 l4 0 M M M)⟩
  | 31, _, _, _ => exact ⟨M, h, rfl, ts_31.tr (gL_law_1282_1 l4 0 M M M)⟩
  | n + 32, hn, _, _ => omega
