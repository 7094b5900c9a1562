set_option maxRecDepth 100000 in
theorem gL_law_1282_1 (l4 r : Int32) (M2 M3 : pt_M) (M : pt_M) :
    pt_Go YL_law (1282, [(0, pt_r 51 0), (1, pt_r 2 0), (2, pt_r 7 0), (3, pt_r 50 0), (4, pt_i l4)], [], M)
      (23, [(0, pt_r 51 0), (1, pt_r 2 0), (2, pt_r 7 0), (3, pt_r 50 0), (4, pt_i (l4 + 6))], [], M) :=
  pt_runO_ok 80 tC_1282_ok 2 [] (P := True) (by with_unfolding_all rfl) trivial
set_option maxRecDepth 100000 in
theorem gL_law_1288_1 (l4 r : Int32) (M2 M3 : pt_M) (M : pt_M) :
    pt_Go YL_law (1288, [(0, pt_r 51 0), (1, pt_r 2 0), (2, pt_r 7 0), (3, pt_r 50 0), (4, pt_i l4)], [], M)
      (1289, [(0, pt_r 51 0), (1, pt_r 2 0), (2, pt_r 7 0), (3, pt_r 50 0), (4, pt_i l4)], [pt_i 1], M) :=
  pt_runO_ok 80 tC_1282_ok 1 [] (P := True) (by with_unfolding_all rfl) trivial
set_option maxRecDepth 100000 in
theorem gL_law_23_1 (l4 r : Int32) (M2 M3 : pt_M) (M : pt_M) (h1 : ¬ ((nI (pt_L M)) - 6) < l4) (h2 : pt_in l4 (pt_L M)) :
    pt_Go YL_law (23, [(0, pt_r 51 0), (1, pt_r 2 0), (2, pt_r 7 0), (3, pt_r 50 0), (4, pt_i l4)], [], M)
      (40, [(0, pt_r 51 0), (1, pt_r 2 0), (2, pt_r 7 0), (3, pt_r 50 0), (4, pt_i l4)], [pt_i ((pt_X M (pt_nt l4)) &&& 31)], M) :=
  pt_runO_ok 1 tC_23_ok 11 [.inl false] (P := (¬ ((nI (pt_L M)) - 6) < l4) ∧ (pt_in l4 (pt_L M)) ∧ True) (by with_unfolding_all rfl) ⟨h1, h2, trivial⟩
set_option maxRecDepth 100000 in
theorem gL_law_23_2 (l4 r : Int32) (M2 M3 : pt_M) (M : pt_M) (h1 : ((nI (pt_L M)) - 6) < l4) :
    pt_Go YL_law (23, [(0, pt_r 51 0), (1, pt_r 2 0), (2, pt_r 7 0), (3, pt_r 50 0), (4, pt_i l4)], [], M)
      (1288, [], [], M) :=
  (pt_runO_ok 1 tC_23_ok 6 [.inl true] (P := (((nI (pt_L M)) - 6) < l4) ∧ True) (by with_unfolding_all rfl) ⟨h1, trivial⟩ : pt_Go YL_law _ (1288, [(0, pt_r 51 0), (1, pt_r 2 0), (2, pt_r 7 0), (3, pt_r 50 0), (4, pt_i l4)], [], M)).tr (pt_pick [] (by with_unfolding_all rfl))
set_option maxRecDepth 100000 in
theorem gL_law_241_1 (l4 r : Int32) (M2 M3 : pt_M) (M : pt_M) (h1 : pt_in (l4 + 1) (pt_L M)) (h2 : pt_Does yX6_end YX6_end [pt_r 2 0, pt_i (pt_X M (pt_nt (l4 + 1)))] M (some (pt_i r)) M2) (h3 : pt_in (l4 + 1) (pt_L M2)) (h4 : pt_Does yX7_end YX7_end [pt_r 7 0, pt_i (pt_X M2 (pt_nt (l4 + 1)))] M2 (some (pt_i r)) M3) :
    pt_Go YL_law (241, [(0, pt_r 51 0), (1, pt_r 2 0), (2, pt_r 7 0), (3, pt_r 50 0), (4, pt_i l4)], [], M)
      (1282, [(0, pt_r 51 0), (1, pt_r 2 0), (2, pt_r 7 0), (3, pt_r 50 0), (4, pt_i l4)], [], M3) :=
  pt_runO_ok 15 tC_241_ok 15 [.inr (2, some (pt_i r), M2), .inr (2, some (pt_i r), M3), .inl true] (P := (pt_in (l4 + 1) (pt_L M)) ∧ pt_Cal YL_law (.invokevirtual 28) [pt_r 2 0, pt_i (pt_X M (pt_nt (l4 + 1)))] M (some (pt_i r)) M2 ∧ (pt_in (l4 + 1) (pt_L M2)) ∧ pt_Cal YL_law (.invokevirtual 32) [pt_r 7 0, pt_i (pt_X M2 (pt_nt (l4 + 1)))] M2 (some (pt_i r)) M3 ∧ (r = r) ∧ True) (by with_unfolding_all rfl) ⟨h1, (pt_callV (i := 0) kL_law_28 mX6_end rfl (by decide) rfl h2), h3, (pt_callV (i := 0) kL_law_32 mX7_end rfl (by decide) rfl h4), rfl, trivial⟩
set_option maxRecDepth 100000 in
theorem gL_law_266_1 (l4 r : Int32) (M2 M3 : pt_M) (M : pt_M) (h1 : pt_in (l4 + 1) (pt_L M)) (h2 : pt_Does yX6_place YX6_place [pt_r 2 0, pt_i (pt_X M (pt_nt (l4 + 1)))] M (some (pt_i r)) M2) (h3 : pt_in (l4 + 1) (pt_L M2)) (h4 : pt_Does yX7_place YX7_place [pt_r 7 0, pt_i (pt_X M2 (pt_nt (l4 + 1)))] M2 (some (pt_i r)) M3) :
    pt_Go YL_law (266, [(0, pt_r 51 0), (1, pt_r 2 0), (2, pt_r 7 0), (3, pt_r 50 0), (4, pt_i l4)], [], M)
      (1282, [(0, pt_r 51 0), (1, pt_r 2 0), (2, pt_r 7 0), (3, pt_r 50 0), (4, pt_i l4)], [], M3) :=
  pt_runO_ok 16 tC_266_ok 15 [.inr (2, some (pt_i r), M2), .inr (2, some (pt_i r), M3), .inl true] (P := (pt_in (l4 + 1) (pt_L M)) ∧ pt_Cal YL_law (.invokevirtual 33) [pt_r 2 0, pt_i (pt_X M (pt_nt (l4 + 1)))] M (some (pt_i r)) M2 ∧ (pt_in (l4 + 1) (pt_L M2)) ∧ pt_Cal YL_law (.invokevirtual 36) [pt_r 7 0, pt_i (pt_X M2 (pt_nt (l4 + 1)))] M2 (some (pt_i r)) M3 ∧ (r = r) ∧ True) (by with_unfolding_all rfl) ⟨h1, (pt_callV (i := 0) kL_law_33 mX6_place rfl (by decide) rfl h2), h3, (pt_callV (i := 0) kL_law_36 mX7_place rfl (by decide) rfl h4), rfl, trivial⟩
set_option maxRecDepth 100000 in
theorem gL_law_291_1 (l4 r : Int32) (M2 M3 : pt_M) (M : pt_M) (h1 : pt_Does yX6_line YX6_line [pt_r 2 0] M (some (pt_i r)) M2) (h2 : pt_Does yX7_line YX7_line [pt_r 7 0] M2 (some (pt_i r)) M3) :
    pt_Go YL_law (291, [(0, pt_r 51 0), (1, pt_r 2 0), (2, pt_r 7 0), (3, pt_r 50 0), (4, pt_i l4)], [], M)
      (1282, [(0, pt_r 51 0), (1, pt_r 2 0), (2, pt_r 7 0), (3, pt_r 50 0), (4, pt_i l4)], [], M3) :=
  pt_runO_ok 18 tC_291_ok 5 [.inr (1, some (pt_i r), M2), .inr (1, some (pt_i r), M3), .inl true] (P := pt_Cal YL_law (.invokevirtual 37) [pt_r 2 0] M (some (pt_i r)) M2 ∧ pt_Cal YL_law (.invokevirtual 41) [pt_r 7 0] M2 (some (pt_i r)) M3 ∧ (r = r) ∧ True) (by with_unfolding_all rfl) ⟨(pt_callV (i := 0) kL_law_37 mX6_line rfl (by decide) rfl h1), (pt_callV (i := 0) kL_law_41 mX7_line rfl (by decide) rfl h2), rfl, trivial⟩
set_option maxRecDepth 100000 in
theorem gL_law_586_1 (l4 r : Int32) (M2 M3 : pt_M) (M : pt_M) (h1 : pt_in (l4 + 1) (pt_L M)) (h2 : pt_Does yX6_lawful YX6_lawful [pt_r 2 0, pt_i (pt_X M (pt_nt (l4 + 1)))] M (some (pt_i r)) M2) (h3 : pt_in (l4 + 1) (pt_L M2)) (h4 : pt_Does yX7_lawful YX7_lawful [pt_r 7 0, pt_i (pt_X M2 (pt_nt (l4 + 1)))] M2 (some (pt_i r)) M3) :
    pt_Go YL_law (586, [(0, pt_r 51 0), (1, pt_r 2 0), (2, pt_r 7 0), (3, pt_r 50 0), (4, pt_i l4)], [], M)
      (1282, [(0, pt_r 51 0), (1, pt_r 2 0), (2, pt_r 7 0), (3, pt_r 50 0), (4, pt_i l4)], [], M3) :=
  pt_runO_ok 36 tC_586_ok 15 [.inr (2, some (pt_i r), M2), .inr (2, some (pt_i r), M3), .inl true] (P := (pt_in (l4 + 1) (pt_L M)) ∧ pt_Cal YL_law (.invokevirtual 70) [pt_r 2 0, pt_i (pt_X M (pt_nt (l4 + 1)))] M (some (pt_i r)) M2 ∧ (pt_in (l4 + 1) (pt_L M2)) ∧ pt_Cal YL_law (.invokevirtual 73) [pt_r 7 0, pt_i (pt_X M2 (pt_nt (l4 + 1)))] M2 (some (pt_i r)) M3 ∧ (r = r) ∧ True) (by with_unfolding_all rfl) ⟨h1, (pt_callV (i := 0) kL_law_70 mX6_lawful rfl (by decide) rfl h2), h3, (pt_callV (i := 0) kL_law_73 mX7_lawful rfl (by decide) rfl h4), rfl, trivial⟩
set_option maxRecDepth 100000 in
theorem gL_law_611_1 (l4 r : Int32) (M2 M3 : pt_M) (M : pt_M) (h1 : pt_in (l4 + 1) (pt_L M)) (h2 : pt_Does yX6_why YX6_why [pt_r 2 0, pt_i (pt_X M (pt_nt (l4 + 1)))] M (some (pt_i r)) M2) (h3 : pt_in (l4 + 1) (pt_L M2)) (h4 : pt_Does yX7_why YX7_why [pt_r 7 0, pt_i (pt_X M2 (pt_nt (l4 + 1)))] M2 (some (pt_i r)) M3) :
    pt_Go YL_law (611, [(0, pt_r 51 0), (1, pt_r 2 0), (2, pt_r 7 0), (3, pt_r 50 0), (4, pt_i l4)], [], M)
      (1282, [(0, pt_r 51 0), (1, pt_r 2 0), (2, pt_r 7 0), (3, pt_r 50 0), (4, pt_i l4)], [], M3) :=
  pt_runO_ok 38 tC_611_ok 15 [.inr (2, some (pt_i r), M2), .inr (2, some (pt_i r), M3), .inl true] (P := (pt_in (l4 + 1) (pt_L M)) ∧ pt_Cal YL_law (.invokevirtual 74) [pt_r 2 0, pt_i (pt_X M (pt_nt (l4 + 1)))] M (some (pt_i r)) M2 ∧ (pt_in (l4 + 1) (pt_L M2)) ∧ pt_Cal YL_law (.invokevirtual 77) [pt_r 7 0, pt_i (pt_X M2 (pt_nt (l4 + 1)))] M2 (some (pt_i r)) M3 ∧ (r = r) ∧ True) (by with_unfolding_all rfl) ⟨h1, (pt_callV (i := 0) kL_law_74 mX6_why rfl (by decide) rfl h2), h3, (pt_callV (i := 0) kL_law_77 mX7_why rfl (by decide) rfl h4), rfl, trivial⟩
set_option maxRecDepth 100000 in
theorem gL_law_636_1 (l4 r : Int32) (M2 M3 : pt_M) (M : pt_M) (h1 : pt_in (l4 + 1) (pt_L M)) (h2 : pt_Does yX6_rim YX6_rim [pt_r 2 0, pt_i (pt_X M (pt_nt (l4 + 1)))] M (some (pt_i r)) M2) (h3 : pt_in (l4 + 1) (pt_L M2)) (h4 : pt_Does yX7_rim YX7_rim [pt_r 7 0, pt_i (pt_X M2 (pt_nt (l4 + 1)))] M2 (some (pt_i r)) M3) :
    pt_Go YL_law (636, [(0, pt_r 51 0), (1, pt_r 2 0), (2, pt_r 7 0), (3, pt_r 50 0), (4, pt_i l4)], [], M)
      (1282, [(0, pt_r 51 0), (1, pt_r 2 0), (2, pt_r 7 0), (3, pt_r 50 0), (4, pt_i l4)], [], M3) :=
  pt_runO_ok 39 tC_636_ok 15 [.inr (2, some (pt_i r), M2), .inr (2, some (pt_i r), M3), .inl true] (P := (pt_in (l4 + 1) (pt_L M)) ∧ pt_Cal YL_law (.invokevirtual 78) [pt_r 2 0, pt_i (pt_X M (pt_nt (l4 + 1)))] M (some (pt_i r)) M2 ∧ (pt_in (l4 + 1) (pt_L M2)) ∧ pt_Cal YL_law (.invokevirtual 81) [pt_r 7 0, pt_i (pt_X M2 (pt_nt (l4 + 1)))] M2 (some (pt_i r)) M3 ∧ (r = r) ∧ True) (by with_unfolding_all rfl) ⟨h1, (pt_callV (i := 0) kL_law_78 mX6_rim rfl (by decide) rfl h2), h3, (pt_callV (i := 0) kL_law_81 mX7_rim rfl (by decide) rfl h4), rfl, trivial⟩
set_option maxRecDepth 100000 in
theorem gL_law_766_1 (l4 r : Int32) (M2 M3 : pt_M) (M : pt_M) (h1 : pt_in (l4 + 1) (pt_L M)) (h2 : pt_Does yX6_code YX6_code [pt_r 2 0, pt_i (pt_X M (pt_nt (l4 + 1)))] M (some (pt_i r)) M2) (h3 : pt_in (l4 + 1) (pt_L M2)) (h4 : pt_Does yX7_code YX7_code [pt_r 7 0, pt_i (pt_X M2 (pt_nt (l4 + 1)))] M2 (some (pt_i r)) M3) :
    pt_Go YL_law (766, [(0, pt_r 51 0), (1, pt_r 2 0), (2, pt_r 7 0), (3, pt_r 50 0), (4, pt_i l4)], [], M)
      (1282, [(0, pt_r 51 0), (1, pt_r 2 0), (2, pt_r 7 0), (3, pt_r 50 0), (4, pt_i l4)], [], M3) :=
  pt_runO_ok 47 tC_766_ok 15 [.inr (2, some (pt_i r), M2), .inr (2, some (pt_i r), M3), .inl true] (P := (pt_in (l4 + 1) (pt_L M)) ∧ pt_Cal YL_law (.invokevirtual 95) [pt_r 2 0, pt_i (pt_X M (pt_nt (l4 + 1)))] M (some (pt_i r)) M2 ∧ (pt_in (l4 + 1) (pt_L M2)) ∧ pt_Cal YL_law (.invokevirtual 98) [pt_r 7 0, pt_i (pt_X M2 (pt_nt (l4 + 1)))] M2 (some (pt_i r)) M3 ∧ (r = r) ∧ True) (by with_unfolding_all rfl) ⟨h1, (pt_callV (i := 0) kL_law_95 mX6_code rfl (by decide) rfl h2), h3, (pt_callV (i := 0) kL_law_98 mX7_code rfl (by decide) rfl h4), rfl, trivial⟩
set_option maxRecDepth 100000 in
theorem gL_law_902_1 (l4 r : Int32) (M2 M3 : pt_M) (M : pt_M) (h1 : pt_in (l4 + 1) (pt_L M)) (h2 : pt_Does yX6_sweep YX6_sweep [pt_r 2 0, pt_i (pt_X M (pt_nt (l4 + 1)))] M (some (pt_i r)) M2) (h3 : pt_in (l4 + 1) (pt_L M2)) (h4 : pt_Does yX7_sweep YX7_sweep [pt_r 7 0, pt_i (pt_X M2 (pt_nt (l4 + 1)))] M2 (some (pt_i r)) M3) :
    pt_Go YL_law (902, [(0, pt_r 51 0), (1, pt_r 2 0), (2, pt_r 7 0), (3, pt_r 50 0), (4, pt_i l4)], [], M)
      (1282, [(0, pt_r 51 0), (1, pt_r 2 0), (2, pt_r 7 0), (3, pt_r 50 0), (4, pt_i l4)], [], M3) :=
  pt_runO_ok 56 tC_902_ok 15 [.inr (2, some (pt_i r), M2), .inr (2, some (pt_i r), M3), .inl true] (P := (pt_in (l4 + 1) (pt_L M)) ∧ pt_Cal YL_law (.invokevirtual 111) [pt_r 2 0, pt_i (pt_X M (pt_nt (l4 + 1)))] M (some (pt_i r)) M2 ∧ (pt_in (l4 + 1) (pt_L M2)) ∧ pt_Cal YL_law (.invokevirtual 114) [pt_r 7 0, pt_i (pt_X M2 (pt_nt (l4 + 1)))] M2 (some (pt_i r)) M3 ∧ (r = r) ∧ True) (by with_unfolding_all rfl) ⟨h1, (pt_callV (i := 0) kL_law_111 mX6_sweep rfl (by decide) rfl h2), h3, (pt_callV (i := 0) kL_law_114 mX7_sweep rfl (by decide) rfl h4), rfl, trivial⟩
set_option maxRecDepth 100000 in
theorem gL_law_1158_1 (l4 r : Int32) (M2 M3 : pt_M) (M : pt_M) (h1 : pt_in (l4 + 1) (pt_L M)) (h2 : pt_Does yX6_kinds YX6_kinds [pt_r 2 0, pt_i (pt_X M (pt_nt (l4 + 1)))] M (some (pt_i r)) M2) (h3 : pt_in (l4 + 1) (pt_L M2)) (h4 : pt_Does yX7_kinds YX7_kinds [pt_r 7 0, pt_i (pt_X M2 (pt_nt (l4 + 1)))] M2 (some (pt_i r)) M3) :
    pt_Go YL_law (1158, [(0, pt_r 51 0), (1, pt_r 2 0), (2, pt_r 7 0), (3, pt_r 50 0), (4, pt_i l4)], [], M)
      (1282, [(0, pt_r 51 0), (1, pt_r 2 0), (2, pt_r 7 0), (3, pt_r 50 0), (4, pt_i l4)], [], M3) :=
  pt_runO_ok 72 tC_1158_ok 15 [.inr (2, some (pt_i r), M2), .inr (2, some (pt_i r), M3), .inl true] (P := (pt_in (l4 + 1) (pt_L M)) ∧ pt_Cal YL_law (.invokevirtual 132) [pt_r 2 0, pt_i (pt_X M (pt_nt (l4 + 1)))] M (some (pt_i r)) M2 ∧ (pt_in (l4 + 1) (pt_L M2)) ∧ pt_Cal YL_law (.invokevirtual 135) [pt_r 7 0, pt_i (pt_X M2 (pt_nt (l4 + 1)))] M2 (some (pt_i r)) M3 ∧ (r = r) ∧ True) (by with_unfolding_all rfl) ⟨h1, (pt_callV (i := 0) kL_law_132 mX6_kinds rfl (by decide) rfl h2), h3, (pt_callV (i := 0) kL_law_135 mX7_kinds rfl (by decide) rfl h4), rfl, trivial⟩
set_option maxRecDepth 100000 in
theorem gL_law_1232_1 (l4 r : Int32) (M2 M3 : pt_M) (M : pt_M) (h1 : pt_in (l4 + 1) (pt_L M)) (h2 : pt_Does yX6_which YX6_which [pt_r 2 0, pt_i (pt_X M (pt_nt (l4 + 1)))] M (some (pt_i r)) M2) (h3 : pt_in (l4 + 1) (pt_L M2)) (h4 : pt_Does yX7_which YX7_which [pt_r 7 0, pt_i (pt_X M2 (pt_nt (l4 + 1)))] M2 (some (pt_i r)) M3) :
    pt_Go YL_law (1232, [(0, pt_r 51 0), (1, pt_r 2 0), (2, pt_r 7 0), (3, pt_r 50 0), (4, pt_i l4)], [], M)
      (1282, [(0, pt_r 51 0), (1, pt_r 2 0), (2, pt_r 7 0), (3, pt_r 50 0), (4, pt_i l4)], [], M3) :=
  pt_runO_ok 77 tC_1232_ok 15 [.inr (2, some (pt_i r), M2), .inr (2, some (pt_i r), M3), .inl true] (P := (pt_in (l4 + 1) (pt_L M)) ∧ pt_Cal YL_law (.invokevirtual 140) [pt_r 2 0, pt_i (pt_X M (pt_nt (l4 + 1)))] M (some (pt_i r)) M2 ∧ (pt_in (l4 + 1) (pt_L M2)) ∧ pt_Cal YL_law (.invokevirtual 143) [pt_r 7 0, pt_i (pt_X M2 (pt_nt (l4 + 1)))] M2 (some (pt_i r)) M3 ∧ (r = r) ∧ True) (by with_unfolding_all rfl) ⟨h1, (pt_callV (i := 0) kL_law_140 mX6_which rfl (by decide) rfl h2), h3, (pt_callV (i := 0) kL_law_143 mX7_which rfl (by decide) rfl h4), rfl, trivial⟩
set_option maxRecDepth 100000 in
theorem gL_law_1257_1 (l4 r : Int32) (M2 M3 : pt_M) (M : pt_M) (h1 : pt_in (l4 + 1) (pt_L M)) (h2 : pt_Does yX6_points YX6_points [pt_r 2 0, pt_i (pt_X M (pt_nt (l4 + 1)))] M (some (pt_i r)) M2) (h3 : pt_in (l4 + 1) (pt_L M2)) (h4 : pt_Does yX7_points YX7_points [pt_r 7 0, pt_i (pt_X M2 (pt_nt (l4 + 1)))] M2 (some (pt_i r)) M3) :
    pt_Go YL_law (1257, [(0, pt_r 51 0), (1, pt_r 2 0), (2, pt_r 7 0), (3, pt_r 50 0), (4, pt_i l4)], [], M)
      (1282, [(0, pt_r 51 0), (1, pt_r 2 0), (2, pt_r 7 0), (3, pt_r 50 0), (4, pt_i l4)], [], M3) :=
  pt_runO_ok 78 tC_1257_ok 15 [.inr (2, some (pt_i r), M2), .inr (2, some (pt_i r), M3), .inl true] (P := (pt_in (l4 + 1) (pt_L M)) ∧ pt_Cal YL_law (.invokevirtual 144) [pt_r 2 0, pt_i (pt_X M (pt_nt (l4 + 1)))] M (some (pt_i r)) M2 ∧ (pt_in (l4 + 1) (pt_L M2)) ∧ pt_Cal YL_law (.invokevirtual 147) [pt_r 7 0, pt_i (pt_X M2 (pt_nt (l4 + 1)))] M2 (some (pt_i r)) M3 ∧ (r = r) ∧ True) (by with_unfolding_all rfl) ⟨h1, (pt_callV (i := 0) kL_law_144 mX6_points rfl (by decide) rfl h2), h3, (pt_callV (i := 0) kL_law_147 mX7_points rfl (by decide) rfl h4), rfl, trivial⟩
