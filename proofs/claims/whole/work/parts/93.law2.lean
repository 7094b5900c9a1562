theorem kL_law_23 : pt_ckV YL_law 23 2 yX6_feed YX6_feed 196 197 198 = true := by decide +kernel
theorem kL_law_27 : pt_ckV YL_law 27 7 yX7_feed YX7_feed 733 734 735 = true := by decide +kernel
theorem kL_law_28 : pt_ckV YL_law 28 2 yX6_end YX6_end 204 205 206 = true := by decide +kernel
theorem kL_law_32 : pt_ckV YL_law 32 7 yX7_end YX7_end 741 742 743 = true := by decide +kernel
theorem kL_law_33 : pt_ckV YL_law 33 2 yX6_place YX6_place 208 209 210 = true := by decide +kernel
theorem kL_law_36 : pt_ckV YL_law 36 7 yX7_place YX7_place 756 757 758 = true := by decide +kernel
theorem kL_law_37 : pt_ckV YL_law 37 2 yX6_line YX6_line 264 265 266 = true := by decide +kernel
theorem kL_law_41 : pt_ckV YL_law 41 7 yX7_line YX7_line 777 778 779 = true := by decide +kernel
theorem kL_law_42 : pt_ckV YL_law 42 2 yX6_table YX6_table 268 269 270 = true := by decide +kernel
theorem kL_law_46 : pt_ckV YL_law 46 7 yX7_table YX7_table 781 782 783 = true := by decide +kernel
theorem kL_law_47 : pt_ckV YL_law 47 2 yX6_turn YX6_turn 289 290 291 = true := by decide +kernel
theorem kL_law_51 : pt_ckV YL_law 51 7 yX7_turn YX7_turn 785 786 787 = true := by decide +kernel
theorem kL_law_52 : pt_ckV YL_law 52 2 yX6_flip YX6_flip 309 310 311 = true := by decide +kernel
theorem kL_law_56 : pt_ckV YL_law 56 7 yX7_flip YX7_flip 797 798 799 = true := by decide +kernel
theorem kL_law_57 : pt_ckV YL_law 57 2 yX6_mirror YX6_mirror 314 315 316 = true := by decide +kernel
theorem kL_law_60 : pt_ckV YL_law 60 7 yX7_mirror YX7_mirror 801 802 803 = true := by decide +kernel
theorem kL_law_61 : pt_ckV YL_law 61 2 yX6_rename YX6_rename 323 324 325 = true := by decide +kernel
theorem kL_law_64 : pt_ckV YL_law 64 7 yX7_rename YX7_rename 809 810 811 = true := by decide +kernel
theorem kL_law_65 : pt_ckV YL_law 65 2 yX6_without YX6_without 337 338 339 = true := by decide +kernel
theorem kL_law_69 : pt_ckV YL_law 69 7 yX7_without YX7_without 817 818 819 = true := by decide +kernel
theorem kL_law_70 : pt_ckV YL_law 70 2 yX6_lawful YX6_lawful 341 342 343 = true := by decide +kernel
theorem kL_law_73 : pt_ckV YL_law 73 7 yX7_lawful YX7_lawful 821 822 823 = true := by decide +kernel
theorem kL_law_74 : pt_ckV YL_law 74 2 yX6_why YX6_why 368 346 347 = true := by decide +kernel
theorem kL_law_77 : pt_ckV YL_law 77 7 yX7_why YX7_why 852 853 854 = true := by decide +kernel
theorem kL_law_78 : pt_ckV YL_law 78 2 yX6_rim YX6_rim 369 370 371 = true := by decide +kernel
theorem kL_law_81 : pt_ckV YL_law 81 7 yX7_rim YX7_rim 856 857 858 = true := by decide +kernel
theorem kL_law_87 : pt_ckV YL_law 87 7 yX7_onRim YX7_onRim 868 869 870 = true := by decide +kernel
theorem kL_law_88 : pt_ckV YL_law 88 7 yX7_thrown YX7_thrown 729 730 731 = true := by decide +kernel
theorem kL_law_91 : pt_ckV YL_law 91 2 yX6_layer YX6_layer 397 398 399 = true := by decide +kernel
theorem kL_law_94 : pt_ckV YL_law 94 7 yX7_layer YX7_layer 876 877 878 = true := by decide +kernel
theorem kL_law_95 : pt_ckV YL_law 95 2 yX6_code YX6_code 406 407 408 = true := by decide +kernel
theorem kL_law_98 : pt_ckV YL_law 98 7 yX7_code YX7_code 880 881 882 = true := by decide +kernel
theorem kL_law_99 : pt_ckV YL_law 99 2 yX6_named YX6_named 454 455 456 = true := by decide +kernel
theorem kL_law_102 : pt_ckV YL_law 102 7 yX7_named YX7_named 910 911 912 = true := by decide +kernel
theorem kL_law_103 : pt_ckV YL_law 103 2 yX6_like YX6_like 458 459 460 = true := by decide +kernel
theorem kL_law_106 : pt_ckV YL_law 106 7 yX7_like YX7_like 918 919 920 = true := by decide +kernel
theorem kL_law_107 : pt_ckV YL_law 107 2 yX6_swept YX6_swept 464 465 466 = true := by decide +kernel
theorem kL_law_110 : pt_ckV YL_law 110 7 yX7_swept YX7_swept 922 923 924 = true := by decide +kernel
theorem kL_law_111 : pt_ckV YL_law 111 2 yX6_sweep YX6_sweep 494 495 496 = true := by decide +kernel
theorem kL_law_114 : pt_ckV YL_law 114 7 yX7_sweep YX7_sweep 930 931 932 = true := by decide +kernel
theorem kL_law_118 : pt_ckV YL_law 118 7 yX7_octet YX7_octet 906 907 908 = true := by decide +kernel
theorem kL_law_119 : pt_ckV YL_law 119 2 yX6_figures YX6_figures 520 521 522 = true := by decide +kernel
theorem kL_law_123 : pt_ckV YL_law 123 7 yX7_figures YX7_figures 946 947 948 = true := by decide +kernel
theorem kL_law_124 : pt_ckV YL_law 124 2 yX6_lines YX6_lines 530 531 532 = true := by decide +kernel
theorem kL_law_127 : pt_ckV YL_law 127 7 yX7_lines YX7_lines 954 955 956 = true := by decide +kernel
theorem kL_law_128 : pt_ckV YL_law 128 2 yX6_inside YX6_inside 535 536 537 = true := by decide +kernel
theorem kL_law_131 : pt_ckV YL_law 131 7 yX7_inside YX7_inside 958 959 960 = true := by decide +kernel
theorem kL_law_132 : pt_ckV YL_law 132 2 yX6_kinds YX6_kinds 539 540 541 = true := by decide +kernel
theorem kL_law_135 : pt_ckV YL_law 135 7 yX7_kinds YX7_kinds 962 963 964 = true := by decide +kernel
theorem kL_law_136 : pt_ckV YL_law 136 2 yX6_kind YX6_kind 556 557 558 = true := by decide +kernel
theorem kL_law_139 : pt_ckV YL_law 139 7 yX7_kind YX7_kind 974 975 976 = true := by decide +kernel
theorem kL_law_140 : pt_ckV YL_law 140 2 yX6_which YX6_which 560 561 562 = true := by decide +kernel
theorem kL_law_143 : pt_ckV YL_law 143 7 yX7_which YX7_which 978 979 980 = true := by decide +kernel
theorem kL_law_144 : pt_ckV YL_law 144 2 yX6_points YX6_points 567 568 569 = true := by decide +kernel
theorem kL_law_147 : pt_ckV YL_law 147 7 yX7_points YX7_points 745 746 747 = true := by decide +kernel
set_option maxRecDepth 100000 in
theorem gL_law_23_1 (l4 r : Int32) (M2 M3 : pt_M) (M : pt_M) (h1 : ¬ ((nI (pt_L M)) - 6) < l4) (h2 : pt_in l4 (pt_L M)) :
    pt_Go YL_law (23, [(0, pt_r 51 0), (1, pt_r 2 0), (2, pt_r 7 0), (3, pt_r 50 0), (4, pt_i l4)], [], M)
      (40, [(0, pt_r 51 0), (1, pt_r 2 0), (2, pt_r 7 0), (3, pt_r 50 0), (4, pt_i l4)], [pt_i ((pt_X M (pt_nt l4)) &&& 31)], M) :=
  pt_run_ok tL_law_ok 11 [.inl false] (P := (¬ ((nI (pt_L M)) - 6) < l4) ∧ (pt_in l4 (pt_L M)) ∧ True) (by with_unfolding_all rfl) ⟨h1, h2, trivial⟩
set_option maxRecDepth 100000 in
theorem gL_law_23_2 (l4 r : Int32) (M2 M3 : pt_M) (M : pt_M) (h1 : ((nI (pt_L M)) - 6) < l4) :
    pt_Go YL_law (23, [(0, pt_r 51 0), (1, pt_r 2 0), (2, pt_r 7 0), (3, pt_r 50 0), (4, pt_i l4)], [], M)
      (1289, [(0, pt_r 51 0), (1, pt_r 2 0), (2, pt_r 7 0), (3, pt_r 50 0), (4, pt_i l4)], [pt_i 1], M) :=
  pt_run_ok tL_law_ok 7 [.inl true] (P := (((nI (pt_L M)) - 6) < l4) ∧ True) (by with_unfolding_all rfl) ⟨h1, trivial⟩
set_option maxRecDepth 100000 in
theorem gL_law_168_1 (l4 r : Int32) (M2 M3 : pt_M) (M : pt_M) (h1 : pt_in (l4 + 1) (pt_L M)) (h2 : pt_in (l4 + 2) (pt_L M)) (h3 : pt_in (l4 + 3) (pt_L M)) (h4 : pt_in (l4 + 4) (pt_L M)) (h5 : pt_in (l4 + 5) (pt_L M)) (h6 : pt_Does yX6_feed YX6_feed [pt_r 2 0, pt_i (pt_X M (pt_nt (l4 + 1))), pt_i (pt_X M (pt_nt (l4 + 2))), pt_i (pt_X M (pt_nt (l4 + 3))), pt_i (pt_X M (pt_nt (l4 + 4))), pt_i (pt_X M (pt_nt (l4 + 5)))] M (some (pt_i r)) M2) (h7 : pt_in (l4 + 1) (pt_L M2)) (h8 : pt_in (l4 + 2) (pt_L M2)) (h9 : pt_in (l4 + 3) (pt_L M2)) (h10 : pt_in (l4 + 4) (pt_L M2)) (h11 : pt_in (l4 + 5) (pt_L M2)) (h12 : pt_Does yX7_feed YX7_feed [pt_r 7 0, pt_i (pt_X M2 (pt_nt (l4 + 1))), pt_i (pt_X M2 (pt_nt (l4 + 2))), pt_i (pt_X M2 (pt_nt (l4 + 3))), pt_i (pt_X M2 (pt_nt (l4 + 4))), pt_i (pt_X M2 (pt_nt (l4 + 5)))] M2 (some (pt_i r)) M3) :
    pt_Go YL_law (168, [(0, pt_r 51 0), (1, pt_r 2 0), (2, pt_r 7 0), (3, pt_r 50 0), (4, pt_i l4)], [], M)
      (23, [(0, pt_r 51 0), (1, pt_r 2 0), (2, pt_r 7 0), (3, pt_r 50 0), (4, pt_i (l4 + 6))], [], M3) :=
  pt_run_ok tL_law_ok 57 [.inr (6, some (pt_i r), M2), .inr (6, some (pt_i r), M3), .inl true] (P := (pt_in (l4 + 1) (pt_L M)) ∧ (pt_in (l4 + 2) (pt_L M)) ∧ (pt_in (l4 + 3) (pt_L M)) ∧ (pt_in (l4 + 4) (pt_L M)) ∧ (pt_in (l4 + 5) (pt_L M)) ∧ pt_Cal YL_law (.invokevirtual 23) [pt_r 2 0, pt_i (pt_X M (pt_nt (l4 + 1))), pt_i (pt_X M (pt_nt (l4 + 2))), pt_i (pt_X M (pt_nt (l4 + 3))), pt_i (pt_X M (pt_nt (l4 + 4))), pt_i (pt_X M (pt_nt (l4 + 5)))] M (some (pt_i r)) M2 ∧ (pt_in (l4 + 1) (pt_L M2)) ∧ (pt_in (l4 + 2) (pt_L M2)) ∧ (pt_in (l4 + 3) (pt_L M2)) ∧ (pt_in (l4 + 4) (pt_L M2)) ∧ (pt_in (l4 + 5) (pt_L M2)) ∧ pt_Cal YL_law (.invokevirtual 27) [pt_r 7 0, pt_i (pt_X M2 (pt_nt (l4 + 1))), pt_i (pt_X M2 (pt_nt (l4 + 2))), pt_i (pt_X M2 (pt_nt (l4 + 3))), pt_i (pt_X M2 (pt_nt (l4 + 4))), pt_i (pt_X M2 (pt_nt (l4 + 5)))] M2 (some (pt_i r)) M3 ∧ (r = r) ∧ True) (by with_unfolding_all rfl) ⟨h1, h2, h3, h4, h5, (pt_callV (i := 0) kL_law_23 mX6_feed rfl (by decide) rfl h6), h7, h8, h9, h10, h11, (pt_callV (i := 0) kL_law_27 mX7_feed rfl (by decide) rfl h12), rfl, trivial⟩
set_option maxRecDepth 100000 in
theorem gL_law_241_1 (l4 r : Int32) (M2 M3 : pt_M) (M : pt_M) (h1 : pt_in (l4 + 1) (pt_L M)) (h2 : pt_Does yX6_end YX6_end [pt_r 2 0, pt_i (pt_X M (pt_nt (l4 + 1)))] M (some (pt_i r)) M2) (h3 : pt_in (l4 + 1) (pt_L M2)) (h4 : pt_Does yX7_end YX7_end [pt_r 7 0, pt_i (pt_X M2 (pt_nt (l4 + 1)))] M2 (some (pt_i r)) M3) :
    pt_Go YL_law (241, [(0, pt_r 51 0), (1, pt_r 2 0), (2, pt_r 7 0), (3, pt_r 50 0), (4, pt_i l4)], [], M)
      (23, [(0, pt_r 51 0), (1, pt_r 2 0), (2, pt_r 7 0), (3, pt_r 50 0), (4, pt_i (l4 + 6))], [], M3) :=
  pt_run_ok tL_law_ok 17 [.inr (2, some (pt_i r), M2), .inr (2, some (pt_i r), M3), .inl true] (P := (pt_in (l4 + 1) (pt_L M)) ∧ pt_Cal YL_law (.invokevirtual 28) [pt_r 2 0, pt_i (pt_X M (pt_nt (l4 + 1)))] M (some (pt_i r)) M2 ∧ (pt_in (l4 + 1) (pt_L M2)) ∧ pt_Cal YL_law (.invokevirtual 32) [pt_r 7 0, pt_i (pt_X M2 (pt_nt (l4 + 1)))] M2 (some (pt_i r)) M3 ∧ (r = r) ∧ True) (by with_unfolding_all rfl) ⟨h1, (pt_callV (i := 0) kL_law_28 mX6_end rfl (by decide) rfl h2), h3, (pt_callV (i := 0) kL_law_32 mX7_end rfl (by decide) rfl h4), rfl, trivial⟩
set_option maxRecDepth 100000 in
theorem gL_law_266_1 (l4 r : Int32) (M2 M3 : pt_M) (M : pt_M) (h1 : pt_in (l4 + 1) (pt_L M)) (h2 : pt_Does yX6_place YX6_place [pt_r 2 0, pt_i (pt_X M (pt_nt (l4 + 1)))] M (some (pt_i r)) M2) (h3 : pt_in (l4 + 1) (pt_L M2)) (h4 : pt_Does yX7_place YX7_place [pt_r 7 0, pt_i (pt_X M2 (pt_nt (l4 + 1)))] M2 (some (pt_i r)) M3) :
    pt_Go YL_law (266, [(0, pt_r 51 0), (1, pt_r 2 0), (2, pt_r 7 0), (3, pt_r 50 0), (4, pt_i l4)], [], M)
      (23, [(0, pt_r 51 0), (1, pt_r 2 0), (2, pt_r 7 0), (3, pt_r 50 0), (4, pt_i (l4 + 6))], [], M3) :=
  pt_run_ok tL_law_ok 17 [.inr (2, some (pt_i r), M2), .inr (2, some (pt_i r), M3), .inl true] (P := (pt_in (l4 + 1) (pt_L M)) ∧ pt_Cal YL_law (.invokevirtual 33) [pt_r 2 0, pt_i (pt_X M (pt_nt (l4 + 1)))] M (some (pt_i r)) M2 ∧ (pt_in (l4 + 1) (pt_L M2)) ∧ pt_Cal YL_law (.invokevirtual 36) [pt_r 7 0, pt_i (pt_X M2 (pt_nt (l4 + 1)))] M2 (some (pt_i r)) M3 ∧ (r = r) ∧ True) (by with_unfolding_all rfl) ⟨h1, (pt_callV (i := 0) kL_law_33 mX6_place rfl (by decide) rfl h2), h3, (pt_callV (i := 0) kL_law_36 mX7_place rfl (by decide) rfl h4), rfl, trivial⟩
set_option maxRecDepth 100000 in
theorem gL_law_291_1 (l4 r : Int32) (M2 M3 : pt_M) (M : pt_M) (h1 : pt_Does yX6_line YX6_line [pt_r 2 0] M (some (pt_i r)) M2) (h2 : pt_Does yX7_line YX7_line [pt_r 7 0] M2 (some (pt_i r)) M3) :
    pt_Go YL_law (291, [(0, pt_r 51 0), (1, pt_r 2 0), (2, pt_r 7 0), (3, pt_r 50 0), (4, pt_i l4)], [], M)
      (23, [(0, pt_r 51 0), (1, pt_r 2 0), (2, pt_r 7 0), (3, pt_r 50 0), (4, pt_i (l4 + 6))], [], M3) :=
  pt_run_ok tL_law_ok 7 [.inr (1, some (pt_i r), M2), .inr (1, some (pt_i r), M3), .inl true] (P := pt_Cal YL_law (.invokevirtual 37) [pt_r 2 0] M (some (pt_i r)) M2 ∧ pt_Cal YL_law (.invokevirtual 41) [pt_r 7 0] M2 (some (pt_i r)) M3 ∧ (r = r) ∧ True) (by with_unfolding_all rfl) ⟨(pt_callV (i := 0) kL_law_37 mX6_line rfl (by decide) rfl h1), (pt_callV (i := 0) kL_law_41 mX7_line rfl (by decide) rfl h2), rfl, trivial⟩
set_option maxRecDepth 100000 in
theorem gL_law_304_1 (l4 r : Int32) (M2 M3 : pt_M) (M : pt_M) (h1 : pt_in (l4 + 1) (pt_L M)) (h2 : pt_in (l4 + 2) (pt_L M)) (h3 : pt_Does yX6_table YX6_table [pt_r 2 0, pt_i (pt_X M (pt_nt (l4 + 1))), pt_i (pt_X M (pt_nt (l4 + 2)))] M (some (pt_i r)) M2) (h4 : pt_in (l4 + 1) (pt_L M2)) (h5 : pt_in (l4 + 2) (pt_L M2)) (h6 : pt_Does yX7_table YX7_table [pt_r 7 0, pt_i (pt_X M2 (pt_nt (l4 + 1))), pt_i (pt_X M2 (pt_nt (l4 + 2)))] M2 (some (pt_i r)) M3) :
    pt_Go YL_law (304, [(0, pt_r 51 0), (1, pt_r 2 0), (2, pt_r 7 0), (3, pt_r 50 0), (4, pt_i l4)], [], M)
      (23, [(0, pt_r 51 0), (1, pt_r 2 0), (2, pt_r 7 0), (3, pt_r 50 0), (4, pt_i (l4 + 6))], [], M3) :=
  pt_run_ok tL_law_ok 27 [.inr (3, some (pt_i r), M2), .inr (3, some (pt_i r), M3), .inl true] (P := (pt_in (l4 + 1) (pt_L M)) ∧ (pt_in (l4 + 2) (pt_L M)) ∧ pt_Cal YL_law (.invokevirtual 42) [pt_r 2 0, pt_i (pt_X M (pt_nt (l4 + 1))), pt_i (pt_X M (pt_nt (l4 + 2)))] M (some (pt_i r)) M2 ∧ (pt_in (l4 + 1) (pt_L M2)) ∧ (pt_in (l4 + 2) (pt_L M2)) ∧ pt_Cal YL_law (.invokevirtual 46) [pt_r 7 0, pt_i (pt_X M2 (pt_nt (l4 + 1))), pt_i (pt_X M2 (pt_nt (l4 + 2)))] M2 (some (pt_i r)) M3 ∧ (r = r) ∧ True) (by with_unfolding_all rfl) ⟨h1, h2, (pt_callV (i := 0) kL_law_42 mX6_table rfl (by decide) rfl h3), h4, h5, (pt_callV (i := 0) kL_law_46 mX7_table rfl (by decide) rfl h6), rfl, trivial⟩
set_option maxRecDepth 100000 in
theorem gL_law_341_1 (l4 r : Int32) (M2 M3 : pt_M) (M : pt_M) (h1 : pt_in (l4 + 1) (pt_L M)) (h2 : pt_in (l4 + 2) (pt_L M)) (h3 : pt_in (l4 + 3) (pt_L M)) (h4 : pt_in (l4 + 4) (pt_L M)) (h5 : pt_Does yX6_turn YX6_turn [pt_r 2 0, pt_i (pt_X M (pt_nt (l4 + 1))), pt_i (pt_X M (pt_nt (l4 + 2))), pt_i (pt_X M (pt_nt (l4 + 3))), pt_i (pt_X M (pt_nt (l4 + 4)))] M (some (pt_i r)) M2) (h6 : pt_in (l4 + 1) (pt_L M2)) (h7 : pt_in (l4 + 2) (pt_L M2)) (h8 : pt_in (l4 + 3) (pt_L M2)) (h9 : pt_in (l4 + 4) (pt_L M2)) (h10 : pt_Does yX7_turn YX7_turn [pt_r 7 0, pt_i (pt_X M2 (pt_nt (l4 + 1))), pt_i (pt_X M2 (pt_nt (l4 + 2))), pt_i (pt_X M2 (pt_nt (l4 + 3))), pt_i (pt_X M2 (pt_nt (l4 + 4)))] M2 (some (pt_i r)) M3) :
    pt_Go YL_law (341, [(0, pt_r 51 0), (1, pt_r 2 0), (2, pt_r 7 0), (3, pt_r 50 0), (4, pt_i l4)], [], M)
      (23, [(0, pt_r 51 0), (1, pt_r 2 0), (2, pt_r 7 0), (3, pt_r 50 0), (4, pt_i (l4 + 6))], [], M3) :=
  pt_run_ok tL_law_ok 47 [.inr (5, some (pt_i r), M2), .inr (5, some (pt_i r), M3), .inl true] (P := (pt_in (l4 + 1) (pt_L M)) ∧ (pt_in (l4 + 2) (pt_L M)) ∧ (pt_in (l4 + 3) (pt_L M)) ∧ (pt_in (l4 + 4) (pt_L M)) ∧ pt_Cal YL_law (.invokevirtual 47) [pt_r 2 0, pt_i (pt_X M (pt_nt (l4 + 1))), pt_i (pt_X M (pt_nt (l4 + 2))), pt_i (pt_X M (pt_nt (l4 + 3))), pt_i (pt_X M (pt_nt (l4 + 4)))] M (some (pt_i r)) M2 ∧ (pt_in (l4 + 1) (pt_L M2)) ∧ (pt_in (l4 + 2) (pt_L M2)) ∧ (pt_in (l4 + 3) (pt_L M2)) ∧ (pt_in (l4 + 4) (pt_L M2)) ∧ pt_Cal YL_law (.invokevirtual 51) [pt_r 7 0, pt_i (pt_X M2 (pt_nt (l4 + 1))), pt_i (pt_X M2 (pt_nt (l4 + 2))), pt_i (pt_X M2 (pt_nt (l4 + 3))), pt_i (pt_X M2 (pt_nt (l4 + 4)))] M2 (some (pt_i r)) M3 ∧ (r = r) ∧ True) (by with_unfolding_all rfl) ⟨h1, h2, h3, h4, (pt_callV (i := 0) kL_law_47 mX6_turn rfl (by decide) rfl h5), h6, h7, h8, h9, (pt_callV (i := 0) kL_law_51 mX7_turn rfl (by decide) rfl h10), rfl, trivial⟩
set_option maxRecDepth 100000 in
theorem gL_law_402_1 (l4 r : Int32) (M2 M3 : pt_M) (M : pt_M) (h1 : pt_in (l4 + 1) (pt_L M)) (h2 : pt_in (l4 + 2) (pt_L M)) (h3 : pt_in (l4 + 3) (pt_L M)) (h4 : pt_in (l4 + 4) (pt_L M)) (h5 : pt_Does yX6_flip YX6_flip [pt_r 2 0, pt_i (pt_X M (pt_nt (l4 + 1))), pt_i (pt_X M (pt_nt (l4 + 2))), pt_i (pt_X M (pt_nt (l4 + 3))), pt_i (pt_X M (pt_nt (l4 + 4)))] M (some (pt_i r)) M2) (h6 : pt_in (l4 + 1) (pt_L M2)) (h7 : pt_in (l4 + 2) (pt_L M2)) (h8 : pt_in (l4 + 3) (pt_L M2)) (h9 : pt_in (l4 + 4) (pt_L M2)) (h10 : pt_Does yX7_flip YX7_flip [pt_r 7 0, pt_i (pt_X M2 (pt_nt (l4 + 1))), pt_i (pt_X M2 (pt_nt (l4 + 2))), pt_i (pt_X M2 (pt_nt (l4 + 3))), pt_i (pt_X M2 (pt_nt (l4 + 4)))] M2 (some (pt_i r)) M3) :
    pt_Go YL_law (402, [(0, pt_r 51 0), (1, pt_r 2 0), (2, pt_r 7 0), (3, pt_r 50 0), (4, pt_i l4)], [], M)
      (23, [(0, pt_r 51 0), (1, pt_r 2 0), (2, pt_r 7 0), (3, pt_r 50 0), (4, pt_i (l4 + 6))], [], M3) :=
  pt_run_ok tL_law_ok 47 [.inr (5, some (pt_i r), M2), .inr (5, some (pt_i r), M3), .inl true] (P := (pt_in (l4 + 1) (pt_L M)) ∧ (pt_in (l4 + 2) (pt_L M)) ∧ (pt_in (l4 + 3) (pt_L M)) ∧ (pt_in (l4 + 4) (pt_L M)) ∧ pt_Cal YL_law (.invokevirtual 52) [pt_r 2 0, pt_i (pt_X M (pt_nt (l4 + 1))), pt_i (pt_X M (pt_nt (l4 + 2))), pt_i (pt_X M (pt_nt (l4 + 3))), pt_i (pt_X M (pt_nt (l4 + 4)))] M (some (pt_i r)) M2 ∧ (pt_in (l4 + 1) (pt_L M2)) ∧ (pt_in (l4 + 2) (pt_L M2)) ∧ (pt_in (l4 + 3) (pt_L M2)) ∧ (pt_in (l4 + 4) (pt_L M2)) ∧ pt_Cal YL_law (.invokevirtual 56) [pt_r 7 0, pt_i (pt_X M2 (pt_nt (l4 + 1))), pt_i (pt_X M2 (pt_nt (l4 + 2))), pt_i (pt_X M2 (pt_nt (l4 + 3))), pt_i (pt_X M2 (pt_nt (l4 + 4)))] M2 (some (pt_i r)) M3 ∧ (r = r) ∧ True) (by with_unfolding_all rfl) ⟨h1, h2, h3, h4, (pt_callV (i := 0) kL_law_52 mX6_flip rfl (by decide) rfl h5), h6, h7, h8, h9, (pt_callV (i := 0) kL_law_56 mX7_flip rfl (by decide) rfl h10), rfl, trivial⟩
set_option maxRecDepth 100000 in
theorem gL_law_463_1 (l4 r : Int32) (M2 M3 : pt_M) (M : pt_M) (h1 : pt_in (l4 + 1) (pt_L M)) (h2 : pt_in (l4 + 2) (pt_L M)) (h3 : pt_Does yX6_mirror YX6_mirror [pt_r 2 0, pt_i (pt_X M (pt_nt (l4 + 1))), pt_i (pt_X M (pt_nt (l4 + 2)))] M (some (pt_i r)) M2) (h4 : pt_in (l4 + 1) (pt_L M2)) (h5 : pt_in (l4 + 2) (pt_L M2)) (h6 : pt_Does yX7_mirror YX7_mirror [pt_r 7 0, pt_i (pt_X M2 (pt_nt (l4 + 1))), pt_i (pt_X M2 (pt_nt (l4 + 2)))] M2 (some (pt_i r)) M3) :
    pt_Go YL_law (463, [(0, pt_r 51 0), (1, pt_r 2 0), (2, pt_r 7 0), (3, pt_r 50 0), (4, pt_i l4)], [], M)
      (23, [(0, pt_r 51 0), (1, pt_r 2 0), (2, pt_r 7 0), (3, pt_r 50 0), (4, pt_i (l4 + 6))], [], M3) :=
  pt_run_ok tL_law_ok 27 [.inr (3, some (pt_i r), M2), .inr (3, some (pt_i r), M3), .inl true] (P := (pt_in (l4 + 1) (pt_L M)) ∧ (pt_in (l4 + 2) (pt_L M)) ∧ pt_Cal YL_law (.invokevirtual 57) [pt_r 2 0, pt_i (pt_X M (pt_nt (l4 + 1))), pt_i (pt_X M (pt_nt (l4 + 2)))] M (some (pt_i r)) M2 ∧ (pt_in (l4 + 1) (pt_L M2)) ∧ (pt_in (l4 + 2) (pt_L M2)) ∧ pt_Cal YL_law (.invokevirtual 60) [pt_r 7 0, pt_i (pt_X M2 (pt_nt (l4 + 1))), pt_i (pt_X M2 (pt_nt (l4 + 2)))] M2 (some (pt_i r)) M3 ∧ (r = r) ∧ True) (by with_unfolding_all rfl) ⟨h1, h2, (pt_callV (i := 0) kL_law_57 mX6_mirror rfl (by decide) rfl h3), h4, h5, (pt_callV (i := 0) kL_law_60 mX7_mirror rfl (by decide) rfl h6), rfl, trivial⟩
set_option maxRecDepth 100000 in
theorem gL_law_500_1 (l4 r : Int32) (M2 M3 : pt_M) (M : pt_M) (h1 : pt_in (l4 + 1) (pt_L M)) (h2 : pt_in (l4 + 2) (pt_L M)) (h3 : pt_Does yX6_rename YX6_rename [pt_r 2 0, pt_i (pt_X M (pt_nt (l4 + 1))), pt_i (pt_X M (pt_nt (l4 + 2)))] M (some (pt_i r)) M2) (h4 : pt_in (l4 + 1) (pt_L M2)) (h5 : pt_in (l4 + 2) (pt_L M2)) (h6 : pt_Does yX7_rename YX7_rename [pt_r 7 0, pt_i (pt_X M2 (pt_nt (l4 + 1))), pt_i (pt_X M2 (pt_nt (l4 + 2)))] M2 (some (pt_i r)) M3) :
    pt_Go YL_law (500, [(0, pt_r 51 0), (1, pt_r 2 0), (2, pt_r 7 0), (3, pt_r 50 0), (4, pt_i l4)], [], M)
      (23, [(0, pt_r 51 0), (1, pt_r 2 0), (2, pt_r 7 0), (3, pt_r 50 0), (4, pt_i (l4 + 6))], [], M3) :=
  pt_run_ok tL_law_ok 27 [.inr (3, some (pt_i r), M2), .inr (3, some (pt_i r), M3), .inl true] (P := (pt_in (l4 + 1) (pt_L M)) ∧ (pt_in (l4 + 2) (pt_L M)) ∧ pt_Cal YL_law (.invokevirtual 61) [pt_r 2 0, pt_i (pt_X M (pt_nt (l4 + 1))), pt_i (pt_X M (pt_nt (l4 + 2)))] M (some (pt_i r)) M2 ∧ (pt_in (l4 + 1) (pt_L M2)) ∧ (pt_in (l4 + 2) (pt_L M2)) ∧ pt_Cal YL_law (.invokevirtual 64) [pt_r 7 0, pt_i (pt_X M2 (pt_nt (l4 + 1))), pt_i (pt_X M2 (pt_nt (l4 + 2)))] M2 (some (pt_i r)) M3 ∧ (r = r) ∧ True) (by with_unfolding_all rfl) ⟨h1, h2, (pt_callV (i := 0) kL_law_61 mX6_rename rfl (by decide) rfl h3), h4, h5, (pt_callV (i := 0) kL_law_64 mX7_rename rfl (by decide) rfl h6), rfl, trivial⟩
set_option maxRecDepth 100000 in
theorem gL_law_537_1 (l4 r : Int32) (M2 M3 : pt_M) (M : pt_M) (h1 : pt_in (l4 + 1) (pt_L M)) (h2 : pt_in (l4 + 2) (pt_L M)) (h3 : pt_in (l4 + 3) (pt_L M)) (h4 : pt_Does yX6_without YX6_without [pt_r 2 0, pt_i (pt_X M (pt_nt (l4 + 1))), pt_i (pt_X M (pt_nt (l4 + 2))), pt_i (pt_X M (pt_nt (l4 + 3)))] M (some (pt_i r)) M2) (h5 : pt_in (l4 + 1) (pt_L M2)) (h6 : pt_in (l4 + 2) (pt_L M2)) (h7 : pt_in (l4 + 3) (pt_L M2)) (h8 : pt_Does yX7_without YX7_without [pt_r 7 0, pt_i (pt_X M2 (pt_nt (l4 + 1))), pt_i (pt_X M2 (pt_nt (l4 + 2))), pt_i (pt_X M2 (pt_nt (l4 + 3)))] M2 (some (pt_i r)) M3) :
    pt_Go YL_law (537, [(0, pt_r 51 0), (1, pt_r 2 0), (2, pt_r 7 0), (3, pt_r 50 0), (4, pt_i l4)], [], M)
      (23, [(0, pt_r 51 0), (1, pt_r 2 0), (2, pt_r 7 0), (3, pt_r 50 0), (4, pt_i (l4 + 6))], [], M3) :=
  pt_run_ok tL_law_ok 37 [.inr (4, some (pt_i r), M2), .inr (4, some (pt_i r), M3), .inl true] (P := (pt_in (l4 + 1) (pt_L M)) ∧ (pt_in (l4 + 2) (pt_L M)) ∧ (pt_in (l4 + 3) (pt_L M)) ∧ pt_Cal YL_law (.invokevirtual 65) [pt_r 2 0, pt_i (pt_X M (pt_nt (l4 + 1))), pt_i (pt_X M (pt_nt (l4 + 2))), pt_i (pt_X M (pt_nt (l4 + 3)))] M (some (pt_i r)) M2 ∧ (pt_in (l4 + 1) (pt_L M2)) ∧ (pt_in (l4 + 2) (pt_L M2)) ∧ (pt_in (l4 + 3) (pt_L M2)) ∧ pt_Cal YL_law (.invokevirtual 69) [pt_r 7 0, pt_i (pt_X M2 (pt_nt (l4 + 1))), pt_i (pt_X M2 (pt_nt (l4 + 2))), pt_i (pt_X M2 (pt_nt (l4 + 3)))] M2 (some (pt_i r)) M3 ∧ (r = r) ∧ True) (by with_unfolding_all rfl) ⟨h1, h2, h3, (pt_callV (i := 0) kL_law_65 mX6_without rfl (by decide) rfl h4), h5, h6, h7, (pt_callV (i := 0) kL_law_69 mX7_without rfl (by decide) rfl h8), rfl, trivial⟩
set_option maxRecDepth 100000 in
theorem gL_law_586_1 (l4 r : Int32) (M2 M3 : pt_M) (M : pt_M) (h1 : pt_in (l4 + 1) (pt_L M)) (h2 : pt_Does yX6_lawful YX6_lawful [pt_r 2 0, pt_i (pt_X M (pt_nt (l4 + 1)))] M (some (pt_i r)) M2) (h3 : pt_in (l4 + 1) (pt_L M2)) (h4 : pt_Does yX7_lawful YX7_lawful [pt_r 7 0, pt_i (pt_X M2 (pt_nt (l4 + 1)))] M2 (some (pt_i r)) M3) :
    pt_Go YL_law (586, [(0, pt_r 51 0), (1, pt_r 2 0), (2, pt_r 7 0), (3, pt_r 50 0), (4, pt_i l4)], [], M)
      (23, [(0, pt_r 51 0), (1, pt_r 2 0), (2, pt_r 7 0), (3, pt_r 50 0), (4, pt_i (l4 + 6))], [], M3) :=
  pt_run_ok tL_law_ok 17 [.inr (2, some (pt_i r), M2), .inr (2, some (pt_i r), M3), .inl true] (P := (pt_in (l4 + 1) (pt_L M)) ∧ pt_Cal YL_law (.invokevirtual 70) [pt_r 2 0, pt_i (pt_X M (pt_nt (l4 + 1)))] M (some (pt_i r)) M2 ∧ (pt_in (l4 + 1) (pt_L M2)) ∧ pt_Cal YL_law (.invokevirtual 73) [pt_r 7 0, pt_i (pt_X M2 (pt_nt (l4 + 1)))] M2 (some (pt_i r)) M3 ∧ (r = r) ∧ True) (by with_unfolding_all rfl) ⟨h1, (pt_callV (i := 0) kL_law_70 mX6_lawful rfl (by decide) rfl h2), h3, (pt_callV (i := 0) kL_law_73 mX7_lawful rfl (by decide) rfl h4), rfl, trivial⟩
set_option maxRecDepth 100000 in
theorem gL_law_611_1 (l4 r : Int32) (M2 M3 : pt_M) (M : pt_M) (h1 : pt_in (l4 + 1) (pt_L M)) (h2 : pt_Does yX6_why YX6_why [pt_r 2 0, pt_i (pt_X M (pt_nt (l4 + 1)))] M (some (pt_i r)) M2) (h3 : pt_in (l4 + 1) (pt_L M2)) (h4 : pt_Does yX7_why YX7_why [pt_r 7 0, pt_i (pt_X M2 (pt_nt (l4 + 1)))] M2 (some (pt_i r)) M3) :
    pt_Go YL_law (611, [(0, pt_r 51 0), (1, pt_r 2 0), (2, pt_r 7 0), (3, pt_r 50 0), (4, pt_i l4)], [], M)
      (23, [(0, pt_r 51 0), (1, pt_r 2 0), (2, pt_r 7 0), (3, pt_r 50 0), (4, pt_i (l4 + 6))], [], M3) :=
  pt_run_ok tL_law_ok 17 [.inr (2, some (pt_i r), M2), .inr (2, some (pt_i r), M3), .inl true] (P := (pt_in (l4 + 1) (pt_L M)) ∧ pt_Cal YL_law (.invokevirtual 74) [pt_r 2 0, pt_i (pt_X M (pt_nt (l4 + 1)))] M (some (pt_i r)) M2 ∧ (pt_in (l4 + 1) (pt_L M2)) ∧ pt_Cal YL_law (.invokevirtual 77) [pt_r 7 0, pt_i (pt_X M2 (pt_nt (l4 + 1)))] M2 (some (pt_i r)) M3 ∧ (r = r) ∧ True) (by with_unfolding_all rfl) ⟨h1, (pt_callV (i := 0) kL_law_74 mX6_why rfl (by decide) rfl h2), h3, (pt_callV (i := 0) kL_law_77 mX7_why rfl (by decide) rfl h4), rfl, trivial⟩
set_option maxRecDepth 100000 in
theorem gL_law_636_1 (l4 r : Int32) (M2 M3 : pt_M) (M : pt_M) (h1 : pt_in (l4 + 1) (pt_L M)) (h2 : pt_Does yX6_rim YX6_rim [pt_r 2 0, pt_i (pt_X M (pt_nt (l4 + 1)))] M (some (pt_i r)) M2) (h3 : pt_in (l4 + 1) (pt_L M2)) (h4 : pt_Does yX7_rim YX7_rim [pt_r 7 0, pt_i (pt_X M2 (pt_nt (l4 + 1)))] M2 (some (pt_i r)) M3) :
    pt_Go YL_law (636, [(0, pt_r 51 0), (1, pt_r 2 0), (2, pt_r 7 0), (3, pt_r 50 0), (4, pt_i l4)], [], M)
      (23, [(0, pt_r 51 0), (1, pt_r 2 0), (2, pt_r 7 0), (3, pt_r 50 0), (4, pt_i (l4 + 6))], [], M3) :=
  pt_run_ok tL_law_ok 17 [.inr (2, some (pt_i r), M2), .inr (2, some (pt_i r), M3), .inl true] (P := (pt_in (l4 + 1) (pt_L M)) ∧ pt_Cal YL_law (.invokevirtual 78) [pt_r 2 0, pt_i (pt_X M (pt_nt (l4 + 1)))] M (some (pt_i r)) M2 ∧ (pt_in (l4 + 1) (pt_L M2)) ∧ pt_Cal YL_law (.invokevirtual 81) [pt_r 7 0, pt_i (pt_X M2 (pt_nt (l4 + 1)))] M2 (some (pt_i r)) M3 ∧ (r = r) ∧ True) (by with_unfolding_all rfl) ⟨h1, (pt_callV (i := 0) kL_law_78 mX6_rim rfl (by decide) rfl h2), h3, (pt_callV (i := 0) kL_law_81 mX7_rim rfl (by decide) rfl h4), rfl, trivial⟩
set_option maxRecDepth 100000 in
theorem gL_law_729_1 (l4 r : Int32) (M2 M3 : pt_M) (M : pt_M) (h1 : pt_in (l4 + 1) (pt_L M)) (h2 : pt_in (l4 + 2) (pt_L M)) (h3 : pt_Does yX6_layer YX6_layer [pt_r 2 0, pt_i (pt_X M (pt_nt (l4 + 1))), pt_i (pt_X M (pt_nt (l4 + 2)))] M (some (pt_i r)) M2) (h4 : pt_in (l4 + 1) (pt_L M2)) (h5 : pt_in (l4 + 2) (pt_L M2)) (h6 : pt_Does yX7_layer YX7_layer [pt_r 7 0, pt_i (pt_X M2 (pt_nt (l4 + 1))), pt_i (pt_X M2 (pt_nt (l4 + 2)))] M2 (some (pt_i r)) M3) :
    pt_Go YL_law (729, [(0, pt_r 51 0), (1, pt_r 2 0), (2, pt_r 7 0), (3, pt_r 50 0), (4, pt_i l4)], [], M)
      (23, [(0, pt_r 51 0), (1, pt_r 2 0), (2, pt_r 7 0), (3, pt_r 50 0), (4, pt_i (l4 + 6))], [], M3) :=
  pt_run_ok tL_law_ok 27 [.inr (3, some (pt_i r), M2), .inr (3, some (pt_i r), M3), .inl true] (P := (pt_in (l4 + 1) (pt_L M)) ∧ (pt_in (l4 + 2) (pt_L M)) ∧ pt_Cal YL_law (.invokevirtual 91) [pt_r 2 0, pt_i (pt_X M (pt_nt (l4 + 1))), pt_i (pt_X M (pt_nt (l4 + 2)))] M (some (pt_i r)) M2 ∧ (pt_in (l4 + 1) (pt_L M2)) ∧ (pt_in (l4 + 2) (pt_L M2)) ∧ pt_Cal YL_law (.invokevirtual 94) [pt_r 7 0, pt_i (pt_X M2 (pt_nt (l4 + 1))), pt_i (pt_X M2 (pt_nt (l4 + 2)))] M2 (some (pt_i r)) M3 ∧ (r = r) ∧ True) (by with_unfolding_all rfl) ⟨h1, h2, (pt_callV (i := 0) kL_law_91 mX6_layer rfl (by decide) rfl h3), h4, h5, (pt_callV (i := 0) kL_law_94 mX7_layer rfl (by decide) rfl h6), rfl, trivial⟩
set_option maxRecDepth 100000 in
theorem gL_law_766_1 (l4 r : Int32) (M2 M3 : pt_M) (M : pt_M) (h1 : pt_in (l4 + 1) (pt_L M)) (h2 : pt_Does yX6_code YX6_code [pt_r 2 0, pt_i (pt_X M (pt_nt (l4 + 1)))] M (some (pt_i r)) M2) (h3 : pt_in (l4 + 1) (pt_L M2)) (h4 : pt_Does yX7_code YX7_code [pt_r 7 0, pt_i (pt_X M2 (pt_nt (l4 + 1)))] M2 (some (pt_i r)) M3) :
    pt_Go YL_law (766, [(0, pt_r 51 0), (1, pt_r 2 0), (2, pt_r 7 0), (3, pt_r 50 0), (4, pt_i l4)], [], M)
      (23, [(0, pt_r 51 0), (1, pt_r 2 0), (2, pt_r 7 0), (3, pt_r 50 0), (4, pt_i (l4 + 6))], [], M3) :=
  pt_run_ok tL_law_ok 17 [.inr (2, some (pt_i r), M2), .inr (2, some (pt_i r), M3), .inl true] (P := (pt_in (l4 + 1) (pt_L M)) ∧ pt_Cal YL_law (.invokevirtual 95) [pt_r 2 0, pt_i (pt_X M (pt_nt (l4 + 1)))] M (some (pt_i r)) M2 ∧ (pt_in (l4 + 1) (pt_L M2)) ∧ pt_Cal YL_law (.invokevirtual 98) [pt_r 7 0, pt_i (pt_X M2 (pt_nt (l4 + 1)))] M2 (some (pt_i r)) M3 ∧ (r = r) ∧ True) (by with_unfolding_all rfl) ⟨h1, (pt_callV (i := 0) kL_law_95 mX6_code rfl (by decide) rfl h2), h3, (pt_callV (i := 0) kL_law_98 mX7_code rfl (by decide) rfl h4), rfl, trivial⟩
set_option maxRecDepth 100000 in
theorem gL_law_791_1 (l4 r : Int32) (M2 M3 : pt_M) (M : pt_M) (h1 : pt_in (l4 + 1) (pt_L M)) (h2 : pt_in (l4 + 2) (pt_L M)) (h3 : pt_Does yX6_named YX6_named [pt_r 2 0, pt_i (pt_X M (pt_nt (l4 + 1))), pt_i (pt_X M (pt_nt (l4 + 2)))] M (some (pt_i r)) M2) (h4 : pt_in (l4 + 1) (pt_L M2)) (h5 : pt_in (l4 + 2) (pt_L M2)) (h6 : pt_Does yX7_named YX7_named [pt_r 7 0, pt_i (pt_X M2 (pt_nt (l4 + 1))), pt_i (pt_X M2 (pt_nt (l4 + 2)))] M2 (some (pt_i r)) M3) :
    pt_Go YL_law (791, [(0, pt_r 51 0), (1, pt_r 2 0), (2, pt_r 7 0), (3, pt_r 50 0), (4, pt_i l4)], [], M)
      (23, [(0, pt_r 51 0), (1, pt_r 2 0), (2, pt_r 7 0), (3, pt_r 50 0), (4, pt_i (l4 + 6))], [], M3) :=
  pt_run_ok tL_law_ok 27 [.inr (3, some (pt_i r), M2), .inr (3, some (pt_i r), M3), .inl true] (P := (pt_in (l4 + 1) (pt_L M)) ∧ (pt_in (l4 + 2) (pt_L M)) ∧ pt_Cal YL_law (.invokevirtual 99) [pt_r 2 0, pt_i (pt_X M (pt_nt (l4 + 1))), pt_i (pt_X M (pt_nt (l4 + 2)))] M (some (pt_i r)) M2 ∧ (pt_in (l4 + 1) (pt_L M2)) ∧ (pt_in (l4 + 2) (pt_L M2)) ∧ pt_Cal YL_law (.invokevirtual 102) [pt_r 7 0, pt_i (pt_X M2 (pt_nt (l4 + 1))), pt_i (pt_X M2 (pt_nt (l4 + 2)))] M2 (some (pt_i r)) M3 ∧ (r = r) ∧ True) (by with_unfolding_all rfl) ⟨h1, h2, (pt_callV (i := 0) kL_law_99 mX6_named rfl (by decide) rfl h3), h4, h5, (pt_callV (i := 0) kL_law_102 mX7_named rfl (by decide) rfl h6), rfl, trivial⟩
set_option maxRecDepth 100000 in
theorem gL_law_828_1 (l4 r : Int32) (M2 M3 : pt_M) (M : pt_M) (h1 : pt_in (l4 + 1) (pt_L M)) (h2 : pt_in (l4 + 2) (pt_L M)) (h3 : pt_Does yX6_like YX6_like [pt_r 2 0, pt_i (pt_X M (pt_nt (l4 + 1))), pt_i (pt_X M (pt_nt (l4 + 2)))] M (some (pt_i r)) M2) (h4 : pt_in (l4 + 1) (pt_L M2)) (h5 : pt_in (l4 + 2) (pt_L M2)) (h6 : pt_Does yX7_like YX7_like [pt_r 7 0, pt_i (pt_X M2 (pt_nt (l4 + 1))), pt_i (pt_X M2 (pt_nt (l4 + 2)))] M2 (some (pt_i r)) M3) :
    pt_Go YL_law (828, [(0, pt_r 51 0), (1, pt_r 2 0), (2, pt_r 7 0), (3, pt_r 50 0), (4, pt_i l4)], [], M)
      (23, [(0, pt_r 51 0), (1, pt_r 2 0), (2, pt_r 7 0), (3, pt_r 50 0), (4, pt_i (l4 + 6))], [], M3) :=
  pt_run_ok tL_law_ok 27 [.inr (3, some (pt_i r), M2), .inr (3, some (pt_i r), M3), .inl true] (P := (pt_in (l4 + 1) (pt_L M)) ∧ (pt_in (l4 + 2) (pt_L M)) ∧ pt_Cal YL_law (.invokevirtual 103) [pt_r 2 0, pt_i (pt_X M (pt_nt (l4 + 1))), pt_i (pt_X M (pt_nt (l4 + 2)))] M (some (pt_i r)) M2 ∧ (pt_in (l4 + 1) (pt_L M2)) ∧ (pt_in (l4 + 2) (pt_L M2)) ∧ pt_Cal YL_law (.invokevirtual 106) [pt_r 7 0, pt_i (pt_X M2 (pt_nt (l4 + 1))), pt_i (pt_X M2 (pt_nt (l4 + 2)))] M2 (some (pt_i r)) M3 ∧ (r = r) ∧ True) (by with_unfolding_all rfl) ⟨h1, h2, (pt_callV (i := 0) kL_law_103 mX6_like rfl (by decide) rfl h3), h4, h5, (pt_callV (i := 0) kL_law_106 mX7_like rfl (by decide) rfl h6), rfl, trivial⟩
set_option maxRecDepth 100000 in
theorem gL_law_865_1 (l4 r : Int32) (M2 M3 : pt_M) (M : pt_M) (h1 : pt_in (l4 + 1) (pt_L M)) (h2 : pt_in (l4 + 2) (pt_L M)) (h3 : pt_Does yX6_swept YX6_swept [pt_r 2 0, pt_i (pt_X M (pt_nt (l4 + 1))), pt_i (pt_X M (pt_nt (l4 + 2)))] M (some (pt_i r)) M2) (h4 : pt_in (l4 + 1) (pt_L M2)) (h5 : pt_in (l4 + 2) (pt_L M2)) (h6 : pt_Does yX7_swept YX7_swept [pt_r 7 0, pt_i (pt_X M2 (pt_nt (l4 + 1))), pt_i (pt_X M2 (pt_nt (l4 + 2)))] M2 (some (pt_i r)) M3) :
    pt_Go YL_law (865, [(0, pt_r 51 0), (1, pt_r 2 0), (2, pt_r 7 0), (3, pt_r 50 0), (4, pt_i l4)], [], M)
      (23, [(0, pt_r 51 0), (1, pt_r 2 0), (2, pt_r 7 0), (3, pt_r 50 0), (4, pt_i (l4 + 6))], [], M3) :=
  pt_run_ok tL_law_ok 27 [.inr (3, some (pt_i r), M2), .inr (3, some (pt_i r), M3), .inl true] (P := (pt_in (l4 + 1) (pt_L M)) ∧ (pt_in (l4 + 2) (pt_L M)) ∧ pt_Cal YL_law (.invokevirtual 107) [pt_r 2 0, pt_i (pt_X M (pt_nt (l4 + 1))), pt_i (pt_X M (pt_nt (l4 + 2)))] M (some (pt_i r)) M2 ∧ (pt_in (l4 + 1) (pt_L M2)) ∧ (pt_in (l4 + 2) (pt_L M2)) ∧ pt_Cal YL_law (.invokevirtual 110) [pt_r 7 0, pt_i (pt_X M2 (pt_nt (l4 + 1))), pt_i (pt_X M2 (pt_nt (l4 + 2)))] M2 (some (pt_i r)) M3 ∧ (r = r) ∧ True) (by with_unfolding_all rfl) ⟨h1, h2, (pt_callV (i := 0) kL_law_107 mX6_swept rfl (by decide) rfl h3), h4, h5, (pt_callV (i := 0) kL_law_110 mX7_swept rfl (by decide) rfl h6), rfl, trivial⟩
set_option maxRecDepth 100000 in
theorem gL_law_902_1 (l4 r : Int32) (M2 M3 : pt_M) (M : pt_M) (h1 : pt_in (l4 + 1) (pt_L M)) (h2 : pt_Does yX6_sweep YX6_sweep [pt_r 2 0, pt_i (pt_X M (pt_nt (l4 + 1)))] M (some (pt_i r)) M2) (h3 : pt_in (l4 + 1) (pt_L M2)) (h4 : pt_Does yX7_sweep YX7_sweep [pt_r 7 0, pt_i (pt_X M2 (pt_nt (l4 + 1)))] M2 (some (pt_i r)) M3) :
    pt_Go YL_law (902, [(0, pt_r 51 0), (1, pt_r 2 0), (2, pt_r 7 0), (3, pt_r 50 0), (4, pt_i l4)], [], M)
      (23, [(0, pt_r 51 0), (1, pt_r 2 0), (2, pt_r 7 0), (3, pt_r 50 0), (4, pt_i (l4 + 6))], [], M3) :=
  pt_run_ok tL_law_ok 17 [.inr (2, some (pt_i r), M2), .inr (2, some (pt_i r), M3), .inl true] (P := (pt_in (l4 + 1) (pt_L M)) ∧ pt_Cal YL_law (.invokevirtual 111) [pt_r 2 0, pt_i (pt_X M (pt_nt (l4 + 1)))] M (some (pt_i r)) M2 ∧ (pt_in (l4 + 1) (pt_L M2)) ∧ pt_Cal YL_law (.invokevirtual 114) [pt_r 7 0, pt_i (pt_X M2 (pt_nt (l4 + 1)))] M2 (some (pt_i r)) M3 ∧ (r = r) ∧ True) (by with_unfolding_all rfl) ⟨h1, (pt_callV (i := 0) kL_law_111 mX6_sweep rfl (by decide) rfl h2), h3, (pt_callV (i := 0) kL_law_114 mX7_sweep rfl (by decide) rfl h4), rfl, trivial⟩
set_option maxRecDepth 100000 in
theorem gL_law_983_1 (l4 r : Int32) (M2 M3 : pt_M) (M : pt_M) (h1 : pt_in (l4 + 1) (pt_L M)) (h2 : pt_in (l4 + 2) (pt_L M)) (h3 : pt_in (l4 + 3) (pt_L M)) (h4 : ¬ (pt_X M (pt_nt (l4 + 3))) = 0) (h5 : pt_Does yX6_figures YX6_figures [pt_r 2 0, pt_i (pt_X M (pt_nt (l4 + 1))), pt_i (pt_X M (pt_nt (l4 + 2))), pt_i 1] M (some (pt_i r)) M2) (h6 : pt_in (l4 + 1) (pt_L M2)) (h7 : pt_in (l4 + 2) (pt_L M2)) (h8 : pt_in (l4 + 3) (pt_L M2)) (h9 : ¬ (pt_X M2 (pt_nt (l4 + 3))) = 0) (h10 : pt_Does yX7_figures YX7_figures [pt_r 7 0, pt_i (pt_X M2 (pt_nt (l4 + 1))), pt_i (pt_X M2 (pt_nt (l4 + 2))), pt_i 1] M2 (some (pt_i r)) M3) :
    pt_Go YL_law (983, [(0, pt_r 51 0), (1, pt_r 2 0), (2, pt_r 7 0), (3, pt_r 50 0), (4, pt_i l4)], [], M)
      (23, [(0, pt_r 51 0), (1, pt_r 2 0), (2, pt_r 7 0), (3, pt_r 50 0), (4, pt_i (l4 + 6))], [], M3) :=
  pt_run_ok tL_law_ok 43 [.inl false, .inr (4, some (pt_i r), M2), .inl false, .inr (4, some (pt_i r), M3), .inl true] (P := (pt_in (l4 + 1) (pt_L M)) ∧ (pt_in (l4 + 2) (pt_L M)) ∧ (pt_in (l4 + 3) (pt_L M)) ∧ (¬ (pt_X M (pt_nt (l4 + 3))) = 0) ∧ pt_Cal YL_law (.invokevirtual 119) [pt_r 2 0, pt_i (pt_X M (pt_nt (l4 + 1))), pt_i (pt_X M (pt_nt (l4 + 2))), pt_i 1] M (some (pt_i r)) M2 ∧ (pt_in (l4 + 1) (pt_L M2)) ∧ (pt_in (l4 + 2) (pt_L M2)) ∧ (pt_in (l4 + 3) (pt_L M2)) ∧ (¬ (pt_X M2 (pt_nt (l4 + 3))) = 0) ∧ pt_Cal YL_law (.invokevirtual 123) [pt_r 7 0, pt_i (pt_X M2 (pt_nt (l4 + 1))), pt_i (pt_X M2 (pt_nt (l4 + 2))), pt_i 1] M2 (some (pt_i r)) M3 ∧ (r = r) ∧ True) (by with_unfolding_all rfl) ⟨h1, h2, h3, h4, (pt_callV (i := 0) kL_law_119 mX6_figures rfl (by decide) rfl h5), h6, h7, h8, h9, (pt_callV (i := 0) kL_law_123 mX7_figures rfl (by decide) rfl h10), rfl, trivial⟩
set_option maxRecDepth 100000 in
theorem gL_law_983_2 (l4 r : Int32) (M2 M3 : pt_M) (M : pt_M) (h1 : pt_in (l4 + 1) (pt_L M)) (h2 : pt_in (l4 + 2) (pt_L M)) (h3 : pt_in (l4 + 3) (pt_L M)) (h4 : ¬ (pt_X M (pt_nt (l4 + 3))) = 0) (h5 : pt_Does yX6_figures YX6_figures [pt_r 2 0, pt_i (pt_X M (pt_nt (l4 + 1))), pt_i (pt_X M (pt_nt (l4 + 2))), pt_i 1] M (some (pt_i r)) M2) (h6 : pt_in (l4 + 1) (pt_L M2)) (h7 : pt_in (l4 + 2) (pt_L M2)) (h8 : pt_in (l4 + 3) (pt_L M2)) (h9 : (pt_X M2 (pt_nt (l4 + 3))) = 0) (h10 : pt_Does yX7_figures YX7_figures [pt_r 7 0, pt_i (pt_X M2 (pt_nt (l4 + 1))), pt_i (pt_X M2 (pt_nt (l4 + 2))), pt_i 0] M2 (some (pt_i r)) M3) :
    pt_Go YL_law (983, [(0, pt_r 51 0), (1, pt_r 2 0), (2, pt_r 7 0), (3, pt_r 50 0), (4, pt_i l4)], [], M)
      (23, [(0, pt_r 51 0), (1, pt_r 2 0), (2, pt_r 7 0), (3, pt_r 50 0), (4, pt_i (l4 + 6))], [], M3) :=
  pt_run_ok tL_law_ok 42 [.inl false, .inr (4, some (pt_i r), M2), .inl true, .inr (4, some (pt_i r), M3), .inl true] (P := (pt_in (l4 + 1) (pt_L M)) ∧ (pt_in (l4 + 2) (pt_L M)) ∧ (pt_in (l4 + 3) (pt_L M)) ∧ (¬ (pt_X M (pt_nt (l4 + 3))) = 0) ∧ pt_Cal YL_law (.invokevirtual 119) [pt_r 2 0, pt_i (pt_X M (pt_nt (l4 + 1))), pt_i (pt_X M (pt_nt (l4 + 2))), pt_i 1] M (some (pt_i r)) M2 ∧ (pt_in (l4 + 1) (pt_L M2)) ∧ (pt_in (l4 + 2) (pt_L M2)) ∧ (pt_in (l4 + 3) (pt_L M2)) ∧ ((pt_X M2 (pt_nt (l4 + 3))) = 0) ∧ pt_Cal YL_law (.invokevirtual 123) [pt_r 7 0, pt_i (pt_X M2 (pt_nt (l4 + 1))), pt_i (pt_X M2 (pt_nt (l4 + 2))), pt_i 0] M2 (some (pt_i r)) M3 ∧ (r = r) ∧ True) (by with_unfolding_all rfl) ⟨h1, h2, h3, h4, (pt_callV (i := 0) kL_law_119 mX6_figures rfl (by decide) rfl h5), h6, h7, h8, h9, (pt_callV (i := 0) kL_law_123 mX7_figures rfl (by decide) rfl h10), rfl, trivial⟩
set_option maxRecDepth 100000 in
theorem gL_law_983_3 (l4 r : Int32) (M2 M3 : pt_M) (M : pt_M) (h1 : pt_in (l4 + 1) (pt_L M)) (h2 : pt_in (l4 + 2) (pt_L M)) (h3 : pt_in (l4 + 3) (pt_L M)) (h4 : (pt_X M (pt_nt (l4 + 3))) = 0) (h5 : pt_Does yX6_figures YX6_figures [pt_r 2 0, pt_i (pt_X M (pt_nt (l4 + 1))), pt_i (pt_X M (pt_nt (l4 + 2))), pt_i 0] M (some (pt_i r)) M2) (h6 : pt_in (l4 + 1) (pt_L M2)) (h7 : pt_in (l4 + 2) (pt_L M2)) (h8 : pt_in (l4 + 3) (pt_L M2)) (h9 : ¬ (pt_X M2 (pt_nt (l4 + 3))) = 0) (h10 : pt_Does yX7_figures YX7_figures [pt_r 7 0, pt_i (pt_X M2 (pt_nt (l4 + 1))), pt_i (pt_X M2 (pt_nt (l4 + 2))), pt_i 1] M2 (some (pt_i r)) M3) :
    pt_Go YL_law (983, [(0, pt_r 51 0), (1, pt_r 2 0), (2, pt_r 7 0), (3, pt_r 50 0), (4, pt_i l4)], [], M)
      (23, [(0, pt_r 51 0), (1, pt_r 2 0), (2, pt_r 7 0), (3, pt_r 50 0), (4, pt_i (l4 + 6))], [], M3) :=
  pt_run_ok tL_law_ok 42 [.inl true, .inr (4, some (pt_i r), M2), .inl false, .inr (4, some (pt_i r), M3), .inl true] (P := (pt_in (l4 + 1) (pt_L M)) ∧ (pt_in (l4 + 2) (pt_L M)) ∧ (pt_in (l4 + 3) (pt_L M)) ∧ ((pt_X M (pt_nt (l4 + 3))) = 0) ∧ pt_Cal YL_law (.invokevirtual 119) [pt_r 2 0, pt_i (pt_X M (pt_nt (l4 + 1))), pt_i (pt_X M (pt_nt (l4 + 2))), pt_i 0] M (some (pt_i r)) M2 ∧ (pt_in (l4 + 1) (pt_L M2)) ∧ (pt_in (l4 + 2) (pt_L M2)) ∧ (pt_in (l4 + 3) (pt_L M2)) ∧ (¬ (pt_X M2 (pt_nt (l4 + 3))) = 0) ∧ pt_Cal YL_law (.invokevirtual 123) [pt_r 7 0, pt_i (pt_X M2 (pt_nt (l4 + 1))), pt_i (pt_X M2 (pt_nt (l4 + 2))), pt_i 1] M2 (some (pt_i r)) M3 ∧ (r = r) ∧ True) (by with_unfolding_all rfl) ⟨h1, h2, h3, h4, (pt_callV (i := 0) kL_law_119 mX6_figures rfl (by decide) rfl h5), h6, h7, h8, h9, (pt_callV (i := 0) kL_law_123 mX7_figures rfl (by decide) rfl h10), rfl, trivial⟩
set_option maxRecDepth 100000 in
theorem gL_law_983_4 (l4 r : Int32) (M2 M3 : pt_M) (M : pt_M) (h1 : pt_in (l4 + 1) (pt_L M)) (h2 : pt_in (l4 + 2) (pt_L M)) (h3 : pt_in (l4 + 3) (pt_L M)) (h4 : (pt_X M (pt_nt (l4 + 3))) = 0) (h5 : pt_Does yX6_figures YX6_figures [pt_r 2 0, pt_i (pt_X M (pt_nt (l4 + 1))), pt_i (pt_X M (pt_nt (l4 + 2))), pt_i 0] M (some (pt_i r)) M2) (h6 : pt_in (l4 + 1) (pt_L M2)) (h7 : pt_in (l4 + 2) (pt_L M2)) (h8 : pt_in (l4 + 3) (pt_L M2)) (h9 : (pt_X M2 (pt_nt (l4 + 3))) = 0) (h10 : pt_Does yX7_figures YX7_figures [pt_r 7 0, pt_i (pt_X M2 (pt_nt (l4 + 1))), pt_i (pt_X M2 (pt_nt (l4 + 2))), pt_i 0] M2 (some (pt_i r)) M3) :
    pt_Go YL_law (983, [(0, pt_r 51 0), (1, pt_r 2 0), (2, pt_r 7 0), (3, pt_r 50 0), (4, pt_i l4)], [], M)
      (23, [(0, pt_r 51 0), (1, pt_r 2 0), (2, pt_r 7 0), (3, pt_r 50 0), (4, pt_i (l4 + 6))], [], M3) :=
  pt_run_ok tL_law_ok 41 [.inl true, .inr (4, some (pt_i r), M2), .inl true, .inr (4, some (pt_i r), M3), .inl true] (P := (pt_in (l4 + 1) (pt_L M)) ∧ (pt_in (l4 + 2) (pt_L M)) ∧ (pt_in (l4 + 3) (pt_L M)) ∧ ((pt_X M (pt_nt (l4 + 3))) = 0) ∧ pt_Cal YL_law (.invokevirtual 119) [pt_r 2 0, pt_i (pt_X M (pt_nt (l4 + 1))), pt_i (pt_X M (pt_nt (l4 + 2))), pt_i 0] M (some (pt_i r)) M2 ∧ (pt_in (l4 + 1) (pt_L M2)) ∧ (pt_in (l4 + 2) (pt_L M2)) ∧ (pt_in (l4 + 3) (pt_L M2)) ∧ ((pt_X M2 (pt_nt (l4 + 3))) = 0) ∧ pt_Cal YL_law (.invokevirtual 123) [pt_r 7 0, pt_i (pt_X M2 (pt_nt (l4 + 1))), pt_i (pt_X M2 (pt_nt (l4 + 2))), pt_i 0] M2 (some (pt_i r)) M3 ∧ (r = r) ∧ True) (by with_unfolding_all rfl) ⟨h1, h2, h3, h4, (pt_callV (i := 0) kL_law_119 mX6_figures rfl (by decide) rfl h5), h6, h7, h8, h9, (pt_callV (i := 0) kL_law_123 mX7_figures rfl (by decide) rfl h10), rfl, trivial⟩
set_option maxRecDepth 100000 in
theorem gL_law_1048_1 (l4 r : Int32) (M2 M3 : pt_M) (M : pt_M) (h1 : pt_in (l4 + 1) (pt_L M)) (h2 : pt_in (l4 + 2) (pt_L M)) (h3 : pt_Does yX6_lines YX6_lines [pt_r 2 0, pt_i (pt_X M (pt_nt (l4 + 1))), pt_i (pt_X M (pt_nt (l4 + 2)))] M (some (pt_i r)) M2) (h4 : pt_in (l4 + 1) (pt_L M2)) (h5 : pt_in (l4 + 2) (pt_L M2)) (h6 : pt_Does yX7_lines YX7_lines [pt_r 7 0, pt_i (pt_X M2 (pt_nt (l4 + 1))), pt_i (pt_X M2 (pt_nt (l4 + 2)))] M2 (some (pt_i r)) M3) :
    pt_Go YL_law (1048, [(0, pt_r 51 0), (1, pt_r 2 0), (2, pt_r 7 0), (3, pt_r 50 0), (4, pt_i l4)], [], M)
      (23, [(0, pt_r 51 0), (1, pt_r 2 0), (2, pt_r 7 0), (3, pt_r 50 0), (4, pt_i (l4 + 6))], [], M3) :=
  pt_run_ok tL_law_ok 27 [.inr (3, some (pt_i r), M2), .inr (3, some (pt_i r), M3), .inl true] (P := (pt_in (l4 + 1) (pt_L M)) ∧ (pt_in (l4 + 2) (pt_L M)) ∧ pt_Cal YL_law (.invokevirtual 124) [pt_r 2 0, pt_i (pt_X M (pt_nt (l4 + 1))), pt_i (pt_X M (pt_nt (l4 + 2)))] M (some (pt_i r)) M2 ∧ (pt_in (l4 + 1) (pt_L M2)) ∧ (pt_in (l4 + 2) (pt_L M2)) ∧ pt_Cal YL_law (.invokevirtual 127) [pt_r 7 0, pt_i (pt_X M2 (pt_nt (l4 + 1))), pt_i (pt_X M2 (pt_nt (l4 + 2)))] M2 (some (pt_i r)) M3 ∧ (r = r) ∧ True) (by with_unfolding_all rfl) ⟨h1, h2, (pt_callV (i := 0) kL_law_124 mX6_lines rfl (by decide) rfl h3), h4, h5, (pt_callV (i := 0) kL_law_127 mX7_lines rfl (by decide) rfl h6), rfl, trivial⟩
set_option maxRecDepth 100000 in
theorem gL_law_1085_1 (l4 r : Int32) (M2 M3 : pt_M) (M : pt_M) (h1 : pt_in (l4 + 1) (pt_L M)) (h2 : pt_in (l4 + 2) (pt_L M)) (h3 : pt_in (l4 + 3) (pt_L M)) (h4 : pt_in (l4 + 4) (pt_L M)) (h5 : pt_in (l4 + 5) (pt_L M)) (h6 : pt_Does yX6_inside YX6_inside [pt_r 2 0, pt_i (pt_X M (pt_nt (l4 + 1))), pt_i (pt_X M (pt_nt (l4 + 2))), pt_i (pt_X M (pt_nt (l4 + 3))), pt_i (pt_X M (pt_nt (l4 + 4))), pt_i (pt_X M (pt_nt (l4 + 5)))] M (some (pt_i r)) M2) (h7 : pt_in (l4 + 1) (pt_L M2)) (h8 : pt_in (l4 + 2) (pt_L M2)) (h9 : pt_in (l4 + 3) (pt_L M2)) (h10 : pt_in (l4 + 4) (pt_L M2)) (h11 : pt_in (l4 + 5) (pt_L M2)) (h12 : pt_Does yX7_inside YX7_inside [pt_r 7 0, pt_i (pt_X M2 (pt_nt (l4 + 1))), pt_i (pt_X M2 (pt_nt (l4 + 2))), pt_i (pt_X M2 (pt_nt (l4 + 3))), pt_i (pt_X M2 (pt_nt (l4 + 4))), pt_i (pt_X M2 (pt_nt (l4 + 5)))] M2 (some (pt_i r)) M3) :
    pt_Go YL_law (1085, [(0, pt_r 51 0), (1, pt_r 2 0), (2, pt_r 7 0), (3, pt_r 50 0), (4, pt_i l4)], [], M)
      (23, [(0, pt_r 51 0), (1, pt_r 2 0), (2, pt_r 7 0), (3, pt_r 50 0), (4, pt_i (l4 + 6))], [], M3) :=
  pt_run_ok tL_law_ok 57 [.inr (6, some (pt_i r), M2), .inr (6, some (pt_i r), M3), .inl true] (P := (pt_in (l4 + 1) (pt_L M)) ∧ (pt_in (l4 + 2) (pt_L M)) ∧ (pt_in (l4 + 3) (pt_L M)) ∧ (pt_in (l4 + 4) (pt_L M)) ∧ (pt_in (l4 + 5) (pt_L M)) ∧ pt_Cal YL_law (.invokevirtual 128) [pt_r 2 0, pt_i (pt_X M (pt_nt (l4 + 1))), pt_i (pt_X M (pt_nt (l4 + 2))), pt_i (pt_X M (pt_nt (l4 + 3))), pt_i (pt_X M (pt_nt (l4 + 4))), pt_i (pt_X M (pt_nt (l4 + 5)))] M (some (pt_i r)) M2 ∧ (pt_in (l4 + 1) (pt_L M2)) ∧ (pt_in (l4 + 2) (pt_L M2)) ∧ (pt_in (l4 + 3) (pt_L M2)) ∧ (pt_in (l4 + 4) (pt_L M2)) ∧ (pt_in (l4 + 5) (pt_L M2)) ∧ pt_Cal YL_law (.invokevirtual 131) [pt_r 7 0, pt_i (pt_X M2 (pt_nt (l4 + 1))), pt_i (pt_X M2 (pt_nt (l4 + 2))), pt_i (pt_X M2 (pt_nt (l4 + 3))), pt_i (pt_X M2 (pt_nt (l4 + 4))), pt_i (pt_X M2 (pt_nt (l4 + 5)))] M2 (some (pt_i r)) M3 ∧ (r = r) ∧ True) (by with_unfolding_all rfl) ⟨h1, h2, h3, h4, h5, (pt_callV (i := 0) kL_law_128 mX6_inside rfl (by decide) rfl h6), h7, h8, h9, h10, h11, (pt_callV (i := 0) kL_law_131 mX7_inside rfl (by decide) rfl h12), rfl, trivial⟩
set_option maxRecDepth 100000 in
theorem gL_law_1158_1 (l4 r : Int32) (M2 M3 : pt_M) (M : pt_M) (h1 : pt_in (l4 + 1) (pt_L M)) (h2 : pt_Does yX6_kinds YX6_kinds [pt_r 2 0, pt_i (pt_X M (pt_nt (l4 + 1)))] M (some (pt_i r)) M2) (h3 : pt_in (l4 + 1) (pt_L M2)) (h4 : pt_Does yX7_kinds YX7_kinds [pt_r 7 0, pt_i (pt_X M2 (pt_nt (l4 + 1)))] M2 (some (pt_i r)) M3) :
    pt_Go YL_law (1158, [(0, pt_r 51 0), (1, pt_r 2 0), (2, pt_r 7 0), (3, pt_r 50 0), (4, pt_i l4)], [], M)
      (23, [(0, pt_r 51 0), (1, pt_r 2 0), (2, pt_r 7 0), (3, pt_r 50 0), (4, pt_i (l4 + 6))], [], M3) :=
  pt_run_ok tL_law_ok 17 [.inr (2, some (pt_i r), M2), .inr (2, some (pt_i r), M3), .inl true] (P := (pt_in (l4 + 1) (pt_L M)) ∧ pt_Cal YL_law (.invokevirtual 132) [pt_r 2 0, pt_i (pt_X M (pt_nt (l4 + 1)))] M (some (pt_i r)) M2 ∧ (pt_in (l4 + 1) (pt_L M2)) ∧ pt_Cal YL_law (.invokevirtual 135) [pt_r 7 0, pt_i (pt_X M2 (pt_nt (l4 + 1)))] M2 (some (pt_i r)) M3 ∧ (r = r) ∧ True) (by with_unfolding_all rfl) ⟨h1, (pt_callV (i := 0) kL_law_132 mX6_kinds rfl (by decide) rfl h2), h3, (pt_callV (i := 0) kL_law_135 mX7_kinds rfl (by decide) rfl h4), rfl, trivial⟩
set_option maxRecDepth 100000 in
theorem gL_law_1183_1 (l4 r : Int32) (M2 M3 : pt_M) (M : pt_M) (h1 : pt_in (l4 + 1) (pt_L M)) (h2 : pt_in (l4 + 2) (pt_L M)) (h3 : pt_in (l4 + 3) (pt_L M)) (h4 : pt_Does yX6_kind YX6_kind [pt_r 2 0, pt_i (pt_X M (pt_nt (l4 + 1))), pt_i (pt_X M (pt_nt (l4 + 2))), pt_i (pt_X M (pt_nt (l4 + 3)))] M (some (pt_i r)) M2) (h5 : pt_in (l4 + 1) (pt_L M2)) (h6 : pt_in (l4 + 2) (pt_L M2)) (h7 : pt_in (l4 + 3) (pt_L M2)) (h8 : pt_Does yX7_kind YX7_kind [pt_r 7 0, pt_i (pt_X M2 (pt_nt (l4 + 1))), pt_i (pt_X M2 (pt_nt (l4 + 2))), pt_i (pt_X M2 (pt_nt (l4 + 3)))] M2 (some (pt_i r)) M3) :
    pt_Go YL_law (1183, [(0, pt_r 51 0), (1, pt_r 2 0), (2, pt_r 7 0), (3, pt_r 50 0), (4, pt_i l4)], [], M)
      (23, [(0, pt_r 51 0), (1, pt_r 2 0), (2, pt_r 7 0), (3, pt_r 50 0), (4, pt_i (l4 + 6))], [], M3) :=
  pt_run_ok tL_law_ok 37 [.inr (4, some (pt_i r), M2), .inr (4, some (pt_i r), M3), .inl true] (P := (pt_in (l4 + 1) (pt_L M)) ∧ (pt_in (l4 + 2) (pt_L M)) ∧ (pt_in (l4 + 3) (pt_L M)) ∧ pt_Cal YL_law (.invokevirtual 136) [pt_r 2 0, pt_i (pt_X M (pt_nt (l4 + 1))), pt_i (pt_X M (pt_nt (l4 + 2))), pt_i (pt_X M (pt_nt (l4 + 3)))] M (some (pt_i r)) M2 ∧ (pt_in (l4 + 1) (pt_L M2)) ∧ (pt_in (l4 + 2) (pt_L M2)) ∧ (pt_in (l4 + 3) (pt_L M2)) ∧ pt_Cal YL_law (.invokevirtual 139) [pt_r 7 0, pt_i (pt_X M2 (pt_nt (l4 + 1))), pt_i (pt_X M2 (pt_nt (l4 + 2))), pt_i (pt_X M2 (pt_nt (l4 + 3)))] M2 (some (pt_i r)) M3 ∧ (r = r) ∧ True) (by with_unfolding_all rfl) ⟨h1, h2, h3, (pt_callV (i := 0) kL_law_136 mX6_kind rfl (by decide) rfl h4), h5, h6, h7, (pt_callV (i := 0) kL_law_139 mX7_kind rfl (by decide) rfl h8), rfl, trivial⟩
set_option maxRecDepth 100000 in
theorem gL_law_1232_1 (l4 r : Int32) (M2 M3 : pt_M) (M : pt_M) (h1 : pt_in (l4 + 1) (pt_L M)) (h2 : pt_Does yX6_which YX6_which [pt_r 2 0, pt_i (pt_X M (pt_nt (l4 + 1)))] M (some (pt_i r)) M2) (h3 : pt_in (l4 + 1) (pt_L M2)) (h4 : pt_Does yX7_which YX7_which [pt_r 7 0, pt_i (pt_X M2 (pt_nt (l4 + 1)))] M2 (some (pt_i r)) M3) :
    pt_Go YL_law (1232, [(0, pt_r 51 0), (1, pt_r 2 0), (2, pt_r 7 0), (3, pt_r 50 0), (4, pt_i l4)], [], M)
      (23, [(0, pt_r 51 0), (1, pt_r 2 0), (2, pt_r 7 0), (3, pt_r 50 0), (4, pt_i (l4 + 6))], [], M3) :=
  pt_run_ok tL_law_ok 17 [.inr (2, some (pt_i r), M2), .inr (2, some (pt_i r), M3), .inl true] (P := (pt_in (l4 + 1) (pt_L M)) ∧ pt_Cal YL_law (.invokevirtual 140) [pt_r 2 0, pt_i (pt_X M (pt_nt (l4 + 1)))] M (some (pt_i r)) M2 ∧ (pt_in (l4 + 1) (pt_L M2)) ∧ pt_Cal YL_law (.invokevirtual 143) [pt_r 7 0, pt_i (pt_X M2 (pt_nt (l4 + 1)))] M2 (some (pt_i r)) M3 ∧ (r = r) ∧ True) (by with_unfolding_all rfl) ⟨h1, (pt_callV (i := 0) kL_law_140 mX6_which rfl (by decide) rfl h2), h3, (pt_callV (i := 0) kL_law_143 mX7_which rfl (by decide) rfl h4), rfl, trivial⟩
set_option maxRecDepth 100000 in
theorem gL_law_1257_1 (l4 r : Int32) (M2 M3 : pt_M) (M : pt_M) (h1 : pt_in (l4 + 1) (pt_L M)) (h2 : pt_Does yX6_points YX6_points [pt_r 2 0, pt_i (pt_X M (pt_nt (l4 + 1)))] M (some (pt_i r)) M2) (h3 : pt_in (l4 + 1) (pt_L M2)) (h4 : pt_Does yX7_points YX7_points [pt_r 7 0, pt_i (pt_X M2 (pt_nt (l4 + 1)))] M2 (some (pt_i r)) M3) :
    pt_Go YL_law (1257, [(0, pt_r 51 0), (1, pt_r 2 0), (2, pt_r 7 0), (3, pt_r 50 0), (4, pt_i l4)], [], M)
      (23, [(0, pt_r 51 0), (1, pt_r 2 0), (2, pt_r 7 0), (3, pt_r 50 0), (4, pt_i (l4 + 6))], [], M3) :=
  pt_run_ok tL_law_ok 17 [.inr (2, some (pt_i r), M2), .inr (2, some (pt_i r), M3), .inl true] (P := (pt_in (l4 + 1) (pt_L M)) ∧ pt_Cal YL_law (.invokevirtual 144) [pt_r 2 0, pt_i (pt_X M (pt_nt (l4 + 1)))] M (some (pt_i r)) M2 ∧ (pt_in (l4 + 1) (pt_L M2)) ∧ pt_Cal YL_law (.invokevirtual 147) [pt_r 7 0, pt_i (pt_X M2 (pt_nt (l4 + 1)))] M2 (some (pt_i r)) M3 ∧ (r = r) ∧ True) (by with_unfolding_all rfl) ⟨h1, (pt_callV (i := 0) kL_law_144 mX6_points rfl (by decide) rfl h2), h3, (pt_callV (i := 0) kL_law_147 mX7_points rfl (by decide) rfl h4), rfl, trivial⟩
set_option maxRecDepth 100000 in
theorem gL_law_1282_1 (l4 r : Int32) (M2 M3 : pt_M) (M : pt_M) :
    pt_Go YL_law (1282, [(0, pt_r 51 0), (1, pt_r 2 0), (2, pt_r 7 0), (3, pt_r 50 0), (4, pt_i l4)], [], M)
      (23, [(0, pt_r 51 0), (1, pt_r 2 0), (2, pt_r 7 0), (3, pt_r 50 0), (4, pt_i (l4 + 6))], [], M) :=
  pt_run_ok tL_law_ok 2 [] (P := True) (by with_unfolding_all rfl) trivial
theorem dL_law_40 : decode cL_law 40 = .ok (.tableswitch 1242 0 27 #[128, 201, 226, 251, 264, 301, 362, 423, 460, 497, 546, 571, 596, 621, 689, 726, 751, 788, 825, 862, 887, 943, 1008, 1045, 1118, 1143, 1192, 1217], 128) := by decide +kernel
theorem ts_0 {L : List (Nat × pt_V)} {M : pt_M} : pt_Go YL_law (40, L, [pt_i 0], M) (168, L, [], M) := by
  intro p l e s m args below meth c D ad cA A cells slots Q hC hA H locs ls g1 g2 g3 g4
  exact lv_tableIn hC.1 hC.2.1 dL_law_40 (by decide) (by decide) (off := 128) rfl rfl (hA H locs ls g1 g2 g3 g4)
theorem ts_1 {L : List (Nat × pt_V)} {M : pt_M} : pt_Go YL_law (40, L, [pt_i 1], M) (241, L, [], M) := by
  intro p l e s m args below meth c D ad cA A cells slots Q hC hA H locs ls g1 g2 g3 g4
  exact lv_tableIn hC.1 hC.2.1 dL_law_40 (by decide) (by decide) (off := 201) rfl rfl (hA H locs ls g1 g2 g3 g4)
theorem ts_2 {L : List (Nat × pt_V)} {M : pt_M} : pt_Go YL_law (40, L, [pt_i 2], M) (266, L, [], M) := by
  intro p l e s m args below meth c D ad cA A cells slots Q hC hA H locs ls g1 g2 g3 g4
  exact lv_tableIn hC.1 hC.2.1 dL_law_40 (by decide) (by decide) (off := 226) rfl rfl (hA H locs ls g1 g2 g3 g4)
theorem ts_3 {L : List (Nat × pt_V)} {M : pt_M} : pt_Go YL_law (40, L, [pt_i 3], M) (291, L, [], M) := by
  intro p l e s m args below meth c D ad cA A cells slots Q hC hA H locs ls g1 g2 g3 g4
  exact lv_tableIn hC.1 hC.2.1 dL_law_40 (by decide) (by decide) (off := 251) rfl rfl (hA H locs ls g1 g2 g3 g4)
theorem ts_4 {L : List (Nat × pt_V)} {M : pt_M} : pt_Go YL_law (40, L, [pt_i 4], M) (304, L, [], M) := by
  intro p l e s m args below meth c D ad cA A cells slots Q hC hA H locs ls g1 g2 g3 g4
  exact lv_tableIn hC.1 hC.2.1 dL_law_40 (by decide) (by decide) (off := 264) rfl rfl (hA H locs ls g1 g2 g3 g4)
theorem ts_5 {L : List (Nat × pt_V)} {M : pt_M} : pt_Go YL_law (40, L, [pt_i 5], M) (341, L, [], M) := by
  intro p l e s m args below meth c D ad cA A cells slots Q hC hA H locs ls g1 g2 g3 g4
  exact lv_tableIn hC.1 hC.2.1 dL_law_40 (by decide) (by decide) (off := 301) rfl rfl (hA H locs ls g1 g2 g3 g4)
theorem ts_6 {L : List (Nat × pt_V)} {M : pt_M} : pt_Go YL_law (40, L, [pt_i 6], M) (402, L, [], M) := by
  intro p l e s m args below meth c D ad cA A cells slots Q hC hA H locs ls g1 g2 g3 g4
  exact lv_tableIn hC.1 hC.2.1 dL_law_40 (by decide) (by decide) (off := 362) rfl rfl (hA H locs ls g1 g2 g3 g4)
theorem ts_7 {L : List (Nat × pt_V)} {M : pt_M} : pt_Go YL_law (40, L, [pt_i 7], M) (463, L, [], M) := by
  intro p l e s m args below meth c D ad cA A cells slots Q hC hA H locs ls g1 g2 g3 g4
  exact lv_tableIn hC.1 hC.2.1 dL_law_40 (by decide) (by decide) (off := 423) rfl rfl (hA H locs ls g1 g2 g3 g4)
theorem ts_8 {L : List (Nat × pt_V)} {M : pt_M} : pt_Go YL_law (40, L, [pt_i 8], M) (500, L, [], M) := by
  intro p l e s m args below meth c D ad cA A cells slots Q hC hA H locs ls g1 g2 g3 g4
  exact lv_tableIn hC.1 hC.2.1 dL_law_40 (by decide) (by decide) (off := 460) rfl rfl (hA H locs ls g1 g2 g3 g4)
theorem ts_9 {L : List (Nat × pt_V)} {M : pt_M} : pt_Go YL_law (40, L, [pt_i 9], M) (537, L, [], M) := by
  intro p l e s m args below meth c D ad cA A cells slots Q hC hA H locs ls g1 g2 g3 g4
  exact lv_tableIn hC.1 hC.2.1 dL_law_40 (by decide) (by decide) (off := 497) rfl rfl (hA H locs ls g1 g2 g3 g4)
theorem ts_10 {L : List (Nat × pt_V)} {M : pt_M} : pt_Go YL_law (40, L, [pt_i 10], M) (586, L, [], M) := by
  intro p l e s m args below meth c D ad cA A cells slots Q hC hA H locs ls g1 g2 g3 g4
  exact lv_tableIn hC.1 hC.2.1 dL_law_40 (by decide) (by decide) (off := 546) rfl rfl (hA H locs ls g1 g2 g3 g4)
theorem ts_11 {L : List (Nat × pt_V)} {M : pt_M} : pt_Go YL_law (40, L, [pt_i 11], M) (611, L, [], M) := by
  intro p l e s m args below meth c D ad cA A cells slots Q hC hA H locs ls g1 g2 g3 g4
  exact lv_tableIn hC.1 hC.2.1 dL_law_40 (by decide) (by decide) (off := 571) rfl rfl (hA H locs ls g1 g2 g3 g4)
theorem ts_12 {L : List (Nat × pt_V)} {M : pt_M} : pt_Go YL_law (40, L, [pt_i 12], M) (636, L, [], M) := by
  intro p l e s m args below meth c D ad cA A cells slots Q hC hA H locs ls g1 g2 g3 g4
  exact lv_tableIn hC.1 hC.2.1 dL_law_40 (by decide) (by decide) (off := 596) rfl rfl (hA H locs ls g1 g2 g3 g4)
theorem ts_13 {L : List (Nat × pt_V)} {M : pt_M} : pt_Go YL_law (40, L, [pt_i 13], M) (661, L, [], M) := by
  intro p l e s m args below meth c D ad cA A cells slots Q hC hA H locs ls g1 g2 g3 g4
  exact lv_tableIn hC.1 hC.2.1 dL_law_40 (by decide) (by decide) (off := 621) rfl rfl (hA H locs ls g1 g2 g3 g4)
theorem ts_14 {L : List (Nat × pt_V)} {M : pt_M} : pt_Go YL_law (40, L, [pt_i 14], M) (729, L, [], M) := by
  intro p l e s m args below meth c D ad cA A cells slots Q hC hA H locs ls g1 g2 g3 g4
  exact lv_tableIn hC.1 hC.2.1 dL_law_40 (by decide) (by decide) (off := 689) rfl rfl (hA H locs ls g1 g2 g3 g4)
theorem ts_15 {L : List (Nat × pt_V)} {M : pt_M} : pt_Go YL_law (40, L, [pt_i 15], M) (766, L, [], M) := by
  intro p l e s m args below meth c D ad cA A cells slots Q hC hA H locs ls g1 g2 g3 g4
  exact lv_tableIn hC.1 hC.2.1 dL_law_40 (by decide) (by decide) (off := 726) rfl rfl (hA H locs ls g1 g2 g3 g4)
theorem ts_16 {L : List (Nat × pt_V)} {M : pt_M} : pt_Go YL_law (40, L, [pt_i 16], M) (791, L, [], M) := by
  intro p l e s m args below meth c D ad cA A cells slots Q hC hA H locs ls g1 g2 g3 g4
  exact lv_tableIn hC.1 hC.2.1 dL_law_40 (by decide) (by decide) (off := 751) rfl rfl (hA H locs ls g1 g2 g3 g4)
theorem ts_17 {L : List (Nat × pt_V)} {M : pt_M} : pt_Go YL_law (40, L, [pt_i 17], M) (828, L, [], M) := by
  intro p l e s m args below meth c D ad cA A cells slots Q hC hA H locs ls g1 g2 g3 g4
  exact lv_tableIn hC.1 hC.2.1 dL_law_40 (by decide) (by decide) (off := 788) rfl rfl (hA H locs ls g1 g2 g3 g4)
theorem ts_18 {L : List (Nat × pt_V)} {M : pt_M} : pt_Go YL_law (40, L, [pt_i 18], M) (865, L, [], M) := by
  intro p l e s m args below meth c D ad cA A cells slots Q hC hA H locs ls g1 g2 g3 g4
  exact lv_tableIn hC.1 hC.2.1 dL_law_40 (by decide) (by decide) (off := 825) rfl rfl (hA H locs ls g1 g2 g3 g4)
theorem ts_19 {L : List (Nat × pt_V)} {M : pt_M} : pt_Go YL_law (40, L, [pt_i 19], M) (902, L, [], M) := by
  intro p l e s m args below meth c D ad cA A cells slots Q hC hA H locs ls g1 g2 g3 g4
  exact lv_tableIn hC.1 hC.2.1 dL_law_40 (by decide) (by decide) (off := 862) rfl rfl (hA H locs ls g1 g2 g3 g4)
theorem ts_20 {L : List (Nat × pt_V)} {M : pt_M} : pt_Go YL_law (40, L, [pt_i 20], M) (927, L, [], M) := by
  intro p l e s m args below meth c D ad cA A cells slots Q hC hA H locs ls g1 g2 g3 g4
  exact lv_tableIn hC.1 hC.2.1 dL_law_40 (by decide) (by decide) (off := 887) rfl rfl (hA H locs ls g1 g2 g3 g4)
theorem ts_21 {L : List (Nat × pt_V)} {M : pt_M} : pt_Go YL_law (40, L, [pt_i 21], M) (983, L, [], M) := by
  intro p l e s m args below meth c D ad cA A cells slots Q hC hA H locs ls g1 g2 g3 g4
  exact lv_tableIn hC.1 hC.2.1 dL_law_40 (by decide) (by decide) (off := 943) rfl rfl (hA H locs ls g1 g2 g3 g4)
theorem ts_22 {L : List (Nat × pt_V)} {M : pt_M} : pt_Go YL_law (40, L, [pt_i 22], M) (1048, L, [], M) := by
  intro p l e s m args below meth c D ad cA A cells slots Q hC hA H locs ls g1 g2 g3 g4
  exact lv_tableIn hC.1 hC.2.1 dL_law_40 (by decide) (by decide) (off := 1008) rfl rfl (hA H locs ls g1 g2 g3 g4)
theorem ts_23 {L : List (Nat × pt_V)} {M : pt_M} : pt_Go YL_law (40, L, [pt_i 23], M) (1085, L, [], M) := by
  intro p l e s m args below meth c D ad cA A cells slots Q hC hA H locs ls g1 g2 g3 g4
  exact lv_tableIn hC.1 hC.2.1 dL_law_40 (by decide) (by decide) (off := 1045) rfl rfl (hA H locs ls g1 g2 g3 g4)
theorem ts_24 {L : List (Nat × pt_V)} {M : pt_M} : pt_Go YL_law (40, L, [pt_i 24], M) (1158, L, [], M) := by
  intro p l e s m args below meth c D ad cA A cells slots Q hC hA H locs ls g1 g2 g3 g4
  exact lv_tableIn hC.1 hC.2.1 dL_law_40 (by decide) (by decide) (off := 1118) rfl rfl (hA H locs ls g1 g2 g3 g4)
theorem ts_25 {L : List (Nat × pt_V)} {M : pt_M} : pt_Go YL_law (40, L, [pt_i 25], M) (1183, L, [], M) := by
  intro p l e s m args below meth c D ad cA A cells slots Q hC hA H locs ls g1 g2 g3 g4
  exact lv_tableIn hC.1 hC.2.1 dL_law_40 (by decide) (by decide) (off := 1143) rfl rfl (hA H locs ls g1 g2 g3 g4)
theorem ts_26 {L : List (Nat × pt_V)} {M : pt_M} : pt_Go YL_law (40, L, [pt_i 26], M) (1232, L, [], M) := by
  intro p l e s m args below meth c D ad cA A cells slots Q hC hA H locs ls g1 g2 g3 g4
  exact lv_tableIn hC.1 hC.2.1 dL_law_40 (by decide) (by decide) (off := 1192) rfl rfl (hA H locs ls g1 g2 g3 g4)
theorem ts_27 {L : List (Nat × pt_V)} {M : pt_M} : pt_Go YL_law (40, L, [pt_i 27], M) (1257, L, [], M) := by
  intro p l e s m args below meth c D ad cA A cells slots Q hC hA H locs ls g1 g2 g3 g4
  exact lv_tableIn hC.1 hC.2.1 dL_law_40 (by decide) (by decide) (off := 1217) rfl rfl (hA H locs ls g1 g2 g3 g4)
theorem ts_28 {L : List (Nat × pt_V)} {M : pt_M} : pt_Go YL_law (40, L, [pt_i 28], M) (1282, L, [], M) := by
  intro p l e s m args below meth c D ad cA A cells slots Q hC hA H locs ls g1 g2 g3 g4
  exact lv_tableOut hC.1 hC.2.1 dL_law_40 (by decide) rfl (hA H locs ls g1 g2 g3 g4)
theorem ts_29 {L : List (Nat × pt_V)} {M : pt_M} : pt_Go YL_law (40, L, [pt_i 29], M) (1282, L, [], M) := by
  intro p l e s m args below meth c D ad cA A cells slots Q hC hA H locs ls g1 g2 g3 g4
  exact lv_tableOut hC.1 hC.2.1 dL_law_40 (by decide) rfl (hA H locs ls g1 g2 g3 g4)
theorem ts_30 {L : List (Nat × pt_V)} {M : pt_M} : pt_Go YL_law (40, L, [pt_i 30], M) (1282, L, [], M) := by
  intro p l e s m args below meth c D ad cA A cells slots Q hC hA H locs ls g1 g2 g3 g4
  exact lv_tableOut hC.1 hC.2.1 dL_law_40 (by decide) rfl (hA H locs ls g1 g2 g3 g4)
theorem ts_31 {L : List (Nat × pt_V)} {M : pt_M} : pt_Go YL_law (40, L, [pt_i 31], M) (1282, L, [], M) := by
  intro p l e s m args below meth c D ad cA A cells slots Q hC hA H locs ls g1 g2 g3 g4
  exact lv_tableOut hC.1 hC.2.1 dL_law_40 (by decide) rfl (hA H locs ls g1 g2 g3 g4)
theorem it_feed {M : pt_M} {l4 : Int32} (h : IV_P M) (h1 : pt_in (l4 + 1) (pt_L M)) (h2 : pt_in (l4 + 2) (pt_L M)) (h3 : pt_in (l4 + 3) (pt_L M)) (h4 : pt_in (l4 + 4) (pt_L M)) (h5 : pt_in (l4 + 5) (pt_L M)) : ∃ M', IV_P M' ∧ M'.2.2.2.2 = M.2.2.2.2 ∧ pt_Go YL_law (168, [(0, pt_r 51 0), (1, pt_r 2 0), (2, pt_r 7 0), (3, pt_r 50 0), (4, pt_i l4)], [], M) (23, [(0, pt_r 51 0), (1, pt_r 2 0), (2, pt_r 7 0), (3, pt_r 50 0), (4, pt_i (l4 + 6))], [], M') := by
  obtain ⟨M1, M2, r, d1, d2, hI⟩ := op_feed h (pt_X M (pt_nt (l4 + 1))) (pt_X M (pt_nt (l4 + 2))) (pt_X M (pt_nt (l4 + 3))) (pt_X M (pt_nt (l4 + 4))) (pt_X M (pt_nt (l4 + 5)))
  have e1 : M1.2.2.2.2 = M.2.2.2.2 := dX_x5 d1
  have e2 : M2.2.2.2.2 = M1.2.2.2.2 := dX_x5 d2
  have eL : pt_L M1 = pt_L M := congrArg (fun z => z.1) e1
  have eX : pt_X M1 = pt_X M := congrArg (fun z => z.2) e1
  exact ⟨M2, hI, e2.trans e1, gL_law_168_1 l4 r M1 M2 M h1 h2 h3 h4 h5 d1 (by rw [eL]; exact h1) (by rw [eL]; exact h2) (by rw [eL]; exact h3) (by rw [eL]; exact h4) (by rw [eL]; exact h5) (by rw [eX]; exact d2)⟩
theorem it_end {M : pt_M} {l4 : Int32} (h : IV_P M) (h1 : pt_in (l4 + 1) (pt_L M)) (h2 : pt_in (l4 + 2) (pt_L M)) (h3 : pt_in (l4 + 3) (pt_L M)) (h4 : pt_in (l4 + 4) (pt_L M)) (h5 : pt_in (l4 + 5) (pt_L M)) : ∃ M', IV_P M' ∧ M'.2.2.2.2 = M.2.2.2.2 ∧ pt_Go YL_law (241, [(0, pt_r 51 0), (1, pt_r 2 0), (2, pt_r 7 0), (3, pt_r 50 0), (4, pt_i l4)], [], M) (23, [(0, pt_r 51 0), (1, pt_r 2 0), (2, pt_r 7 0), (3, pt_r 50 0), (4, pt_i (l4 + 6))], [], M') := by
  obtain ⟨M1, M2, r, d1, d2, hI⟩ := op_end h (pt_X M (pt_nt (l4 + 1)))
  have e1 : M1.2.2.2.2 = M.2.2.2.2 := dX_x5 d1
  have e2 : M2.2.2.2.2 = M1.2.2.2.2 := dX_x5 d2
  have eL : pt_L M1 = pt_L M := congrArg (fun z => z.1) e1
  have eX : pt_X M1 = pt_X M := congrArg (fun z => z.2) e1
  exact ⟨M2, hI, e2.trans e1, gL_law_241_1 l4 r M1 M2 M h1 d1 (by rw [eL]; exact h1) (by rw [eX]; exact d2)⟩
theorem it_place {M : pt_M} {l4 : Int32} (h : IV_P M) (h1 : pt_in (l4 + 1) (pt_L M)) (h2 : pt_in (l4 + 2) (pt_L M)) (h3 : pt_in (l4 + 3) (pt_L M)) (h4 : pt_in (l4 + 4) (pt_L M)) (h5 : pt_in (l4 + 5) (pt_L M)) : ∃ M', IV_P M' ∧ M'.2.2.2.2 = M.2.2.2.2 ∧ pt_Go YL_law (266, [(0, pt_r 51 0), (1, pt_r 2 0), (2, pt_r 7 0), (3, pt_r 50 0), (4, pt_i l4)], [], M) (23, [(0, pt_r 51 0), (1, pt_r 2 0), (2, pt_r 7 0), (3, pt_r 50 0), (4, pt_i (l4 + 6))], [], M') := by
  obtain ⟨M1, M2, r, d1, d2, hI⟩ := op_place h (pt_X M (pt_nt (l4 + 1)))
  have e1 : M1.2.2.2.2 = M.2.2.2.2 := dX_x5 d1
  have e2 : M2.2.2.2.2 = M1.2.2.2.2 := dX_x5 d2
  have eL : pt_L M1 = pt_L M := congrArg (fun z => z.1) e1
  have eX : pt_X M1 = pt_X M := congrArg (fun z => z.2) e1
  exact ⟨M2, hI, e2.trans e1, gL_law_266_1 l4 r M1 M2 M h1 d1 (by rw [eL]; exact h1) (by rw [eX]; exact d2)⟩
theorem it_line {M : pt_M} {l4 : Int32} (h : IV_P M) (h1 : pt_in (l4 + 1) (pt_L M)) (h2 : pt_in (l4 + 2) (pt_L M)) (h3 : pt_in (l4 + 3) (pt_L M)) (h4 : pt_in (l4 + 4) (pt_L M)) (h5 : pt_in (l4 + 5) (pt_L M)) : ∃ M', IV_P M' ∧ M'.2.2.2.2 = M.2.2.2.2 ∧ pt_Go YL_law (291, [(0, pt_r 51 0), (1, pt_r 2 0), (2, pt_r 7 0), (3, pt_r 50 0), (4, pt_i l4)], [], M) (23, [(0, pt_r 51 0), (1, pt_r 2 0), (2, pt_r 7 0), (3, pt_r 50 0), (4, pt_i (l4 + 6))], [], M') := by
  obtain ⟨M1, M2, r, d1, d2, hI⟩ := op_line h
  have e1 : M1.2.2.2.2 = M.2.2.2.2 := dX_x5 d1
  have e2 : M2.2.2.2.2 = M1.2.2.2.2 := dX_x5 d2
  have eL : pt_L M1 = pt_L M := congrArg (fun z => z.1) e1
  have eX : pt_X M1 = pt_X M := congrArg (fun z => z.2) e1
  exact ⟨M2, hI, e2.trans e1, gL_law_291_1 l4 r M1 M2 M d1 (by rw [eX]; exact d2)⟩
theorem it_table {M : pt_M} {l4 : Int32} (h : IV_P M) (h1 : pt_in (l4 + 1) (pt_L M)) (h2 : pt_in (l4 + 2) (pt_L M)) (h3 : pt_in (l4 + 3) (pt_L M)) (h4 : pt_in (l4 + 4) (pt_L M)) (h5 : pt_in (l4 + 5) (pt_L M)) : ∃ M', IV_P M' ∧ M'.2.2.2.2 = M.2.2.2.2 ∧ pt_Go YL_law (304, [(0, pt_r 51 0), (1, pt_r 2 0), (2, pt_r 7 0), (3, pt_r 50 0), (4, pt_i l4)], [], M) (23, [(0, pt_r 51 0), (1, pt_r 2 0), (2, pt_r 7 0), (3, pt_r 50 0), (4, pt_i (l4 + 6))], [], M') := by
  obtain ⟨M1, M2, r, d1, d2, hI⟩ := op_table h (pt_X M (pt_nt (l4 + 1))) (pt_X M (pt_nt (l4 + 2)))
  have e1 : M1.2.2.2.2 = M.2.2.2.2 := dX_x5 d1
  have e2 : M2.2.2.2.2 = M1.2.2.2.2 := dX_x5 d2
  have eL : pt_L M1 = pt_L M := congrArg (fun z => z.1) e1
  have eX : pt_X M1 = pt_X M := congrArg (fun z => z.2) e1
  exact ⟨M2, hI, e2.trans e1, gL_law_304_1 l4 r M1 M2 M h1 h2 d1 (by rw [eL]; exact h1) (by rw [eL]; exact h2) (by rw [eX]; exact d2)⟩
theorem it_turn {M : pt_M} {l4 : Int32} (h : IV_P M) (h1 : pt_in (l4 + 1) (pt_L M)) (h2 : pt_in (l4 + 2) (pt_L M)) (h3 : pt_in (l4 + 3) (pt_L M)) (h4 : pt_in (l4 + 4) (pt_L M)) (h5 : pt_in (l4 + 5) (pt_L M)) : ∃ M', IV_P M' ∧ M'.2.2.2.2 = M.2.2.2.2 ∧ pt_Go YL_law (341, [(0, pt_r 51 0), (1, pt_r 2 0), (2, pt_r 7 0), (3, pt_r 50 0), (4, pt_i l4)], [], M) (23, [(0, pt_r 51 0), (1, pt_r 2 0), (2, pt_r 7 0), (3, pt_r 50 0), (4, pt_i (l4 + 6))], [], M') := by
  obtain ⟨M1, M2, r, d1, d2, hI⟩ := op_turn h (pt_X M (pt_nt (l4 + 1))) (pt_X M (pt_nt (l4 + 2))) (pt_X M (pt_nt (l4 + 3))) (pt_X M (pt_nt (l4 + 4)))
  have e1 : M1.2.2.2.2 = M.2.2.2.2 := dX_x5 d1
  have e2 : M2.2.2.2.2 = M1.2.2.2.2 := dX_x5 d2
  have eL : pt_L M1 = pt_L M := congrArg (fun z => z.1) e1
  have eX : pt_X M1 = pt_X M := congrArg (fun z => z.2) e1
  exact ⟨M2, hI, e2.trans e1, gL_law_341_1 l4 r M1 M2 M h1 h2 h3 h4 d1 (by rw [eL]; exact h1) (by rw [eL]; exact h2) (by rw [eL]; exact h3) (by rw [eL]; exact h4) (by rw [eX]; exact d2)⟩
theorem it_flip {M : pt_M} {l4 : Int32} (h : IV_P M) (h1 : pt_in (l4 + 1) (pt_L M)) (h2 : pt_in (l4 + 2) (pt_L M)) (h3 : pt_in (l4 + 3) (pt_L M)) (h4 : pt_in (l4 + 4) (pt_L M)) (h5 : pt_in (l4 + 5) (pt_L M)) : ∃ M', IV_P M' ∧ M'.2.2.2.2 = M.2.2.2.2 ∧ pt_Go YL_law (402, [(0, pt_r 51 0), (1, pt_r 2 0), (2, pt_r 7 0), (3, pt_r 50 0), (4, pt_i l4)], [], M) (23, [(0, pt_r 51 0), (1, pt_r 2 0), (2, pt_r 7 0), (3, pt_r 50 0), (4, pt_i (l4 + 6))], [], M') := by
  obtain ⟨M1, M2, r, d1, d2, hI⟩ := op_flip h (pt_X M (pt_nt (l4 + 1))) (pt_X M (pt_nt (l4 + 2))) (pt_X M (pt_nt (l4 + 3))) (pt_X M (pt_nt (l4 + 4)))
  have e1 : M1.2.2.2.2 = M.2.2.2.2 := dX_x5 d1
  have e2 : M2.2.2.2.2 = M1.2.2.2.2 := dX_x5 d2
  have eL : pt_L M1 = pt_L M := congrArg (fun z => z.1) e1
  have eX : pt_X M1 = pt_X M := congrArg (fun z => z.2) e1
  exact ⟨M2, hI, e2.trans e1, gL_law_402_1 l4 r M1 M2 M h1 h2 h3 h4 d1 (by rw [eL]; exact h1) (by rw [eL]; exact h2) (by rw [eL]; exact h3) (by rw [eL]; exact h4) (by rw [eX]; exact d2)⟩
theorem it_mirror {M : pt_M} {l4 : Int32} (h : IV_P M) (h1 : pt_in (l4 + 1) (pt_L M)) (h2 : pt_in (l4 + 2) (pt_L M)) (h3 : pt_in (l4 + 3) (pt_L M)) (h4 : pt_in (l4 + 4) (pt_L M)) (h5 : pt_in (l4 + 5) (pt_L M)) : ∃ M', IV_P M' ∧ M'.2.2.2.2 = M.2.2.2.2 ∧ pt_Go YL_law (463, [(0, pt_r 51 0), (1, pt_r 2 0), (2, pt_r 7 0), (3, pt_r 50 0), (4, pt_i l4)], [], M) (23, [(0, pt_r 51 0), (1, pt_r 2 0), (2, pt_r 7 0), (3, pt_r 50 0), (4, pt_i (l4 + 6))], [], M') := by
  obtain ⟨M1, M2, r, d1, d2, hI⟩ := op_mirror h (pt_X M (pt_nt (l4 + 1))) (pt_X M (pt_nt (l4 + 2)))
  have e1 : M1.2.2.2.2 = M.2.2.2.2 := dX_x5 d1
  have e2 : M2.2.2.2.2 = M1.2.2.2.2 := dX_x5 d2
  have eL : pt_L M1 = pt_L M := congrArg (fun z => z.1) e1
  have eX : pt_X M1 = pt_X M := congrArg (fun z => z.2) e1
  exact ⟨M2, hI, e2.trans e1, gL_law_463_1 l4 r M1 M2 M h1 h2 d1 (by rw [eL]; exact h1) (by rw [eL]; exact h2) (by rw [eX]; exact d2)⟩
theorem it_rename {M : pt_M} {l4 : Int32} (h : IV_P M) (h1 : pt_in (l4 + 1) (pt_L M)) (h2 : pt_in (l4 + 2) (pt_L M)) (h3 : pt_in (l4 + 3) (pt_L M)) (h4 : pt_in (l4 + 4) (pt_L M)) (h5 : pt_in (l4 + 5) (pt_L M)) : ∃ M', IV_P M' ∧ M'.2.2.2.2 = M.2.2.2.2 ∧ pt_Go YL_law (500, [(0, pt_r 51 0), (1, pt_r 2 0), (2, pt_r 7 0), (3, pt_r 50 0), (4, pt_i l4)], [], M) (23, [(0, pt_r 51 0), (1, pt_r 2 0), (2, pt_r 7 0), (3, pt_r 50 0), (4, pt_i (l4 + 6))], [], M') := by
  obtain ⟨M1, M2, r, d1, d2, hI⟩ := op_rename h (pt_X M (pt_nt (l4 + 1))) (pt_X M (pt_nt (l4 + 2)))
  have e1 : M1.2.2.2.2 = M.2.2.2.2 := dX_x5 d1
  have e2 : M2.2.2.2.2 = M1.2.2.2.2 := dX_x5 d2
  have eL : pt_L M1 = pt_L M := congrArg (fun z => z.1) e1
  have eX : pt_X M1 = pt_X M := congrArg (fun z => z.2) e1
  exact ⟨M2, hI, e2.trans e1, gL_law_500_1 l4 r M1 M2 M h1 h2 d1 (by rw [eL]; exact h1) (by rw [eL]; exact h2) (by rw [eX]; exact d2)⟩
theorem it_without {M : pt_M} {l4 : Int32} (h : IV_P M) (h1 : pt_in (l4 + 1) (pt_L M)) (h2 : pt_in (l4 + 2) (pt_L M)) (h3 : pt_in (l4 + 3) (pt_L M)) (h4 : pt_in (l4 + 4) (pt_L M)) (h5 : pt_in (l4 + 5) (pt_L M)) : ∃ M', IV_P M' ∧ M'.2.2.2.2 = M.2.2.2.2 ∧ pt_Go YL_law (537, [(0, pt_r 51 0), (1, pt_r 2 0), (2, pt_r 7 0), (3, pt_r 50 0), (4, pt_i l4)], [], M) (23, [(0, pt_r 51 0), (1, pt_r 2 0), (2, pt_r 7 0), (3, pt_r 50 0), (4, pt_i (l4 + 6))], [], M') := by
  obtain ⟨M1, M2, r, d1, d2, hI⟩ := op_without h (pt_X M (pt_nt (l4 + 1))) (pt_X M (pt_nt (l4 + 2))) (pt_X M (pt_nt (l4 + 3)))
  have e1 : M1.2.2.2.2 = M.2.2.2.2 := dX_x5 d1
  have e2 : M2.2.2.2.2 = M1.2.2.2.2 := dX_x5 d2
  have eL : pt_L M1 = pt_L M := congrArg (fun z => z.1) e1
  have eX : pt_X M1 = pt_X M := congrArg (fun z => z.2) e1
  exact ⟨M2, hI, e2.trans e1, gL_law_537_1 l4 r M1 M2 M h1 h2 h3 d1 (by rw [eL]; exact h1) (by rw [eL]; exact h2) (by rw [eL]; exact h3) (by rw [eX]; exact d2)⟩
theorem it_lawful {M : pt_M} {l4 : Int32} (h : IV_P M) (h1 : pt_in (l4 + 1) (pt_L M)) (h2 : pt_in (l4 + 2) (pt_L M)) (h3 : pt_in (l4 + 3) (pt_L M)) (h4 : pt_in (l4 + 4) (pt_L M)) (h5 : pt_in (l4 + 5) (pt_L M)) : ∃ M', IV_P M' ∧ M'.2.2.2.2 = M.2.2.2.2 ∧ pt_Go YL_law (586, [(0, pt_r 51 0), (1, pt_r 2 0), (2, pt_r 7 0), (3, pt_r 50 0), (4, pt_i l4)], [], M) (23, [(0, pt_r 51 0), (1, pt_r 2 0), (2, pt_r 7 0), (3, pt_r 50 0), (4, pt_i (l4 + 6))], [], M') := by
  obtain ⟨M1, M2, r, d1, d2, hI⟩ := op_lawful h (pt_X M (pt_nt (l4 + 1)))
  have e1 : M1.2.2.2.2 = M.2.2.2.2 := dX_x5 d1
  have e2 : M2.2.2.2.2 = M1.2.2.2.2 := dX_x5 d2
  have eL : pt_L M1 = pt_L M := congrArg (fun z => z.1) e1
  have eX : pt_X M1 = pt_X M := congrArg (fun z => z.2) e1
  exact ⟨M2, hI, e2.trans e1, gL_law_586_1 l4 r M1 M2 M h1 d1 (by rw [eL]; exact h1) (by rw [eX]; exact d2)⟩
theorem it_why {M : pt_M} {l4 : Int32} (h : IV_P M) (h1 : pt_in (l4 + 1) (pt_L M)) (h2 : pt_in (l4 + 2) (pt_L M)) (h3 : pt_in (l4 + 3) (pt_L M)) (h4 : pt_in (l4 + 4) (pt_L M)) (h5 : pt_in (l4 + 5) (pt_L M)) : ∃ M', IV_P M' ∧ M'.2.2.2.2 = M.2.2.2.2 ∧ pt_Go YL_law (611, [(0, pt_r 51 0), (1, pt_r 2 0), (2, pt_r 7 0), (3, pt_r 50 0), (4, pt_i l4)], [], M) (23, [(0, pt_r 51 0), (1, pt_r 2 0), (2, pt_r 7 0), (3, pt_r 50 0), (4, pt_i (l4 + 6))], [], M') := by
  obtain ⟨M1, M2, r, d1, d2, hI⟩ := op_why h (pt_X M (pt_nt (l4 + 1)))
  have e1 : M1.2.2.2.2 = M.2.2.2.2 := dX_x5 d1
  have e2 : M2.2.2.2.2 = M1.2.2.2.2 := dX_x5 d2
  have eL : pt_L M1 = pt_L M := congrArg (fun z => z.1) e1
  have eX : pt_X M1 = pt_X M := congrArg (fun z => z.2) e1
  exact ⟨M2, hI, e2.trans e1, gL_law_611_1 l4 r M1 M2 M h1 d1 (by rw [eL]; exact h1) (by rw [eX]; exact d2)⟩
theorem it_rim {M : pt_M} {l4 : Int32} (h : IV_P M) (h1 : pt_in (l4 + 1) (pt_L M)) (h2 : pt_in (l4 + 2) (pt_L M)) (h3 : pt_in (l4 + 3) (pt_L M)) (h4 : pt_in (l4 + 4) (pt_L M)) (h5 : pt_in (l4 + 5) (pt_L M)) : ∃ M', IV_P M' ∧ M'.2.2.2.2 = M.2.2.2.2 ∧ pt_Go YL_law (636, [(0, pt_r 51 0), (1, pt_r 2 0), (2, pt_r 7 0), (3, pt_r 50 0), (4, pt_i l4)], [], M) (23, [(0, pt_r 51 0), (1, pt_r 2 0), (2, pt_r 7 0), (3, pt_r 50 0), (4, pt_i (l4 + 6))], [], M') := by
  obtain ⟨M1, M2, r, d1, d2, hI⟩ := op_rim h (pt_X M (pt_nt (l4 + 1)))
  have e1 : M1.2.2.2.2 = M.2.2.2.2 := dX_x5 d1
  have e2 : M2.2.2.2.2 = M1.2.2.2.2 := dX_x5 d2
  have eL : pt_L M1 = pt_L M := congrArg (fun z => z.1) e1
  have eX : pt_X M1 = pt_X M := congrArg (fun z => z.2) e1
  exact ⟨M2, hI, e2.trans e1, gL_law_636_1 l4 r M1 M2 M h1 d1 (by rw [eL]; exact h1) (by rw [eX]; exact d2)⟩
theorem it_layer {M : pt_M} {l4 : Int32} (h : IV_P M) (h1 : pt_in (l4 + 1) (pt_L M)) (h2 : pt_in (l4 + 2) (pt_L M)) (h3 : pt_in (l4 + 3) (pt_L M)) (h4 : pt_in (l4 + 4) (pt_L M)) (h5 : pt_in (l4 + 5) (pt_L M)) : ∃ M', IV_P M' ∧ M'.2.2.2.2 = M.2.2.2.2 ∧ pt_Go YL_law (729, [(0, pt_r 51 0), (1, pt_r 2 0), (2, pt_r 7 0), (3, pt_r 50 0), (4, pt_i l4)], [], M) (23, [(0, pt_r 51 0), (1, pt_r 2 0), (2, pt_r 7 0), (3, pt_r 50 0), (4, pt_i (l4 + 6))], [], M') := by
  obtain ⟨M1, M2, r, d1, d2, hI⟩ := op_layer h (pt_X M (pt_nt (l4 + 1))) (pt_X M (pt_nt (l4 + 2)))
  have e1 : M1.2.2.2.2 = M.2.2.2.2 := dX_x5 d1
  have e2 : M2.2.2.2.2 = M1.2.2.2.2 := dX_x5 d2
  have eL : pt_L M1 = pt_L M := congrArg (fun z => z.1) e1
  have eX : pt_X M1 = pt_X M := congrArg (fun z => z.2) e1
  exact ⟨M2, hI, e2.trans e1, gL_law_729_1 l4 r M1 M2 M h1 h2 d1 (by rw [eL]; exact h1) (by rw [eL]; exact h2) (by rw [eX]; exact d2)⟩
theorem it_code {M : pt_M} {l4 : Int32} (h : IV_P M) (h1 : pt_in (l4 + 1) (pt_L M)) (h2 : pt_in (l4 + 2) (pt_L M)) (h3 : pt_in (l4 + 3) (pt_L M)) (h4 : pt_in (l4 + 4) (pt_L M)) (h5 : pt_in (l4 + 5) (pt_L M)) : ∃ M', IV_P M' ∧ M'.2.2.2.2 = M.2.2.2.2 ∧ pt_Go YL_law (766, [(0, pt_r 51 0), (1, pt_r 2 0), (2, pt_r 7 0), (3, pt_r 50 0), (4, pt_i l4)], [], M) (23, [(0, pt_r 51 0), (1, pt_r 2 0), (2, pt_r 7 0), (3, pt_r 50 0), (4, pt_i (l4 + 6))], [], M') := by
  obtain ⟨M1, M2, r, d1, d2, hI⟩ := op_code h (pt_X M (pt_nt (l4 + 1)))
  have e1 : M1.2.2.2.2 = M.2.2.2.2 := dX_x5 d1
  have e2 : M2.2.2.2.2 = M1.2.2.2.2 := dX_x5 d2
  have eL : pt_L M1 = pt_L M := congrArg (fun z => z.1) e1
  have eX : pt_X M1 = pt_X M := congrArg (fun z => z.2) e1
  exact ⟨M2, hI, e2.trans e1, gL_law_766_1 l4 r M1 M2 M h1 d1 (by rw [eL]; exact h1) (by rw [eX]; exact d2)⟩
theorem it_named {M : pt_M} {l4 : Int32} (h : IV_P M) (h1 : pt_in (l4 + 1) (pt_L M)) (h2 : pt_in (l4 + 2) (pt_L M)) (h3 : pt_in (l4 + 3) (pt_L M)) (h4 : pt_in (l4 + 4) (pt_L M)) (h5 : pt_in (l4 + 5) (pt_L M)) : ∃ M', IV_P M' ∧ M'.2.2.2.2 = M.2.2.2.2 ∧ pt_Go YL_law (791, [(0, pt_r 51 0), (1, pt_r 2 0), (2, pt_r 7 0), (3, pt_r 50 0), (4, pt_i l4)], [], M) (23, [(0, pt_r 51 0), (1, pt_r 2 0), (2, pt_r 7 0), (3, pt_r 50 0), (4, pt_i (l4 + 6))], [], M') := by
  obtain ⟨M1, M2, r, d1, d2, hI⟩ := op_named h (pt_X M (pt_nt (l4 + 1))) (pt_X M (pt_nt (l4 + 2)))
  have e1 : M1.2.2.2.2 = M.2.2.2.2 := dX_x5 d1
  have e2 : M2.2.2.2.2 = M1.2.2.2.2 := dX_x5 d2
  have eL : pt_L M1 = pt_L M := congrArg (fun z => z.1) e1
  have eX : pt_X M1 = pt_X M := congrArg (fun z => z.2) e1
  exact ⟨M2, hI, e2.trans e1, gL_law_791_1 l4 r M1 M2 M h1 h2 d1 (by rw [eL]; exact h1) (by rw [eL]; exact h2) (by rw [eX]; exact d2)⟩
theorem it_like {M : pt_M} {l4 : Int32} (h : IV_P M) (h1 : pt_in (l4 + 1) (pt_L M)) (h2 : pt_in (l4 + 2) (pt_L M)) (h3 : pt_in (l4 + 3) (pt_L M)) (h4 : pt_in (l4 + 4) (pt_L M)) (h5 : pt_in (l4 + 5) (pt_L M)) : ∃ M', IV_P M' ∧ M'.2.2.2.2 = M.2.2.2.2 ∧ pt_Go YL_law (828, [(0, pt_r 51 0), (1, pt_r 2 0), (2, pt_r 7 0), (3, pt_r 50 0), (4, pt_i l4)], [], M) (23, [(0, pt_r 51 0), (1, pt_r 2 0), (2, pt_r 7 0), (3, pt_r 50 0), (4, pt_i (l4 + 6))], [], M') := by
  obtain ⟨M1, M2, r, d1, d2, hI⟩ := op_like h (pt_X M (pt_nt (l4 + 1))) (pt_X M (pt_nt (l4 + 2)))
  have e1 : M1.2.2.2.2 = M.2.2.2.2 := dX_x5 d1
  have e2 : M2.2.2.2.2 = M1.2.2.2.2 := dX_x5 d2
  have eL : pt_L M1 = pt_L M := congrArg (fun z => z.1) e1
  have eX : pt_X M1 = pt_X M := congrArg (fun z => z.2) e1
  exact ⟨M2, hI, e2.trans e1, gL_law_828_1 l4 r M1 M2 M h1 h2 d1 (by rw [eL]; exact h1) (by rw [eL]; exact h2) (by rw [eX]; exact d2)⟩
theorem it_swept {M : pt_M} {l4 : Int32} (h : IV_P M) (h1 : pt_in (l4 + 1) (pt_L M)) (h2 : pt_in (l4 + 2) (pt_L M)) (h3 : pt_in (l4 + 3) (pt_L M)) (h4 : pt_in (l4 + 4) (pt_L M)) (h5 : pt_in (l4 + 5) (pt_L M)) : ∃ M', IV_P M' ∧ M'.2.2.2.2 = M.2.2.2.2 ∧ pt_Go YL_law (865, [(0, pt_r 51 0), (1, pt_r 2 0), (2, pt_r 7 0), (3, pt_r 50 0), (4, pt_i l4)], [], M) (23, [(0, pt_r 51 0), (1, pt_r 2 0), (2, pt_r 7 0), (3, pt_r 50 0), (4, pt_i (l4 + 6))], [], M') := by
  obtain ⟨M1, M2, r, d1, d2, hI⟩ := op_swept h (pt_X M (pt_nt (l4 + 1))) (pt_X M (pt_nt (l4 + 2)))
  have e1 : M1.2.2.2.2 = M.2.2.2.2 := dX_x5 d1
  have e2 : M2.2.2.2.2 = M1.2.2.2.2 := dX_x5 d2
  have eL : pt_L M1 = pt_L M := congrArg (fun z => z.1) e1
  have eX : pt_X M1 = pt_X M := congrArg (fun z => z.2) e1
  exact ⟨M2, hI, e2.trans e1, gL_law_865_1 l4 r M1 M2 M h1 h2 d1 (by rw [eL]; exact h1) (by rw [eL]; exact h2) (by rw [eX]; exact d2)⟩
theorem it_sweep {M : pt_M} {l4 : Int32} (h : IV_P M) (h1 : pt_in (l4 + 1) (pt_L M)) (h2 : pt_in (l4 + 2) (pt_L M)) (h3 : pt_in (l4 + 3) (pt_L M)) (h4 : pt_in (l4 + 4) (pt_L M)) (h5 : pt_in (l4 + 5) (pt_L M)) : ∃ M', IV_P M' ∧ M'.2.2.2.2 = M.2.2.2.2 ∧ pt_Go YL_law (902, [(0, pt_r 51 0), (1, pt_r 2 0), (2, pt_r 7 0), (3, pt_r 50 0), (4, pt_i l4)], [], M) (23, [(0, pt_r 51 0), (1, pt_r 2 0), (2, pt_r 7 0), (3, pt_r 50 0), (4, pt_i (l4 + 6))], [], M') := by
  obtain ⟨M1, M2, r, d1, d2, hI⟩ := op_sweep h (pt_X M (pt_nt (l4 + 1)))
  have e1 : M1.2.2.2.2 = M.2.2.2.2 := dX_x5 d1
  have e2 : M2.2.2.2.2 = M1.2.2.2.2 := dX_x5 d2
  have eL : pt_L M1 = pt_L M := congrArg (fun z => z.1) e1
  have eX : pt_X M1 = pt_X M := congrArg (fun z => z.2) e1
  exact ⟨M2, hI, e2.trans e1, gL_law_902_1 l4 r M1 M2 M h1 d1 (by rw [eL]; exact h1) (by rw [eX]; exact d2)⟩
theorem it_figures {M : pt_M} {l4 : Int32} (h : IV_P M) (h1 : pt_in (l4 + 1) (pt_L M)) (h2 : pt_in (l4 + 2) (pt_L M)) (h3 : pt_in (l4 + 3) (pt_L M)) (h4 : pt_in (l4 + 4) (pt_L M)) (h5 : pt_in (l4 + 5) (pt_L M)) : ∃ M', IV_P M' ∧ M'.2.2.2.2 = M.2.2.2.2 ∧ pt_Go YL_law (983, [(0, pt_r 51 0), (1, pt_r 2 0), (2, pt_r 7 0), (3, pt_r 50 0), (4, pt_i l4)], [], M) (23, [(0, pt_r 51 0), (1, pt_r 2 0), (2, pt_r 7 0), (3, pt_r 50 0), (4, pt_i (l4 + 6))], [], M') := by
  by_cases c : pt_X M (pt_nt (l4 + 3)) = 0
  · obtain ⟨M1, M2, r, d1, d2, hI⟩ := op_figures h (pt_X M (pt_nt (l4 + 1))) (pt_X M (pt_nt (l4 + 2))) false
    have e1 : M1.2.2.2.2 = M.2.2.2.2 := dX_x5 d1
    have e2 : M2.2.2.2.2 = M1.2.2.2.2 := dX_x5 d2
    have eL : pt_L M1 = pt_L M := congrArg (fun z => z.1) e1
    have eX : pt_X M1 = pt_X M := congrArg (fun z => z.2) e1
    exact ⟨M2, hI, e2.trans e1, gL_law_983_4 l4 r M1 M2 M h1 h2 h3 c d1 (by rw [eL]; exact h1) (by rw [eL]; exact h2) (by rw [eL]; exact h3) (by rw [eX]; exact c) (by rw [eX]; exact d2)⟩
  · obtain ⟨M1, M2, r, d1, d2, hI⟩ := op_figures h (pt_X M (pt_nt (l4 + 1))) (pt_X M (pt_nt (l4 + 2))) true
    have e1 : M1.2.2.2.2 = M.2.2.2.2 := dX_x5 d1
    have e2 : M2.2.2.2.2 = M1.2.2.2.2 := dX_x5 d2
    have eL : pt_L M1 = pt_L M := congrArg (fun z => z.1) e1
    have eX : pt_X M1 = pt_X M := congrArg (fun z => z.2) e1
    exact ⟨M2, hI, e2.trans e1, gL_law_983_1 l4 r M1 M2 M h1 h2 h3 c d1 (by rw [eL]; exact h1) (by rw [eL]; exact h2) (by rw [eL]; exact h3) (by rw [eX]; exact c) (by rw [eX]; exact d2)⟩
theorem it_lines {M : pt_M} {l4 : Int32} (h : IV_P M) (h1 : pt_in (l4 + 1) (pt_L M)) (h2 : pt_in (l4 + 2) (pt_L M)) (h3 : pt_in (l4 + 3) (pt_L M)) (h4 : pt_in (l4 + 4) (pt_L M)) (h5 : pt_in (l4 + 5) (pt_L M)) : ∃ M', IV_P M' ∧ M'.2.2.2.2 = M.2.2.2.2 ∧ pt_Go YL_law (1048, [(0, pt_r 51 0), (1, pt_r 2 0), (2, pt_r 7 0), (3, pt_r 50 0), (4, pt_i l4)], [], M) (23, [(0, pt_r 51 0), (1, pt_r 2 0), (2, pt_r 7 0), (3, pt_r 50 0), (4, pt_i (l4 + 6))], [], M') := by
  obtain ⟨M1, M2, r, d1, d2, hI⟩ := op_lines h (pt_X M (pt_nt (l4 + 1))) (pt_X M (pt_nt (l4 + 2)))
  have e1 : M1.2.2.2.2 = M.2.2.2.2 := dX_x5 d1
  have e2 : M2.2.2.2.2 = M1.2.2.2.2 := dX_x5 d2
  have eL : pt_L M1 = pt_L M := congrArg (fun z => z.1) e1
  have eX : pt_X M1 = pt_X M := congrArg (fun z => z.2) e1
  exact ⟨M2, hI, e2.trans e1, gL_law_1048_1 l4 r M1 M2 M h1 h2 d1 (by rw [eL]; exact h1) (by rw [eL]; exact h2) (by rw [eX]; exact d2)⟩
theorem it_inside {M : pt_M} {l4 : Int32} (h : IV_P M) (h1 : pt_in (l4 + 1) (pt_L M)) (h2 : pt_in (l4 + 2) (pt_L M)) (h3 : pt_in (l4 + 3) (pt_L M)) (h4 : pt_in (l4 + 4) (pt_L M)) (h5 : pt_in (l4 + 5) (pt_L M)) : ∃ M', IV_P M' ∧ M'.2.2.2.2 = M.2.2.2.2 ∧ pt_Go YL_law (1085, [(0, pt_r 51 0), (1, pt_r 2 0), (2, pt_r 7 0), (3, pt_r 50 0), (4, pt_i l4)], [], M) (23, [(0, pt_r 51 0), (1, pt_r 2 0), (2, pt_r 7 0), (3, pt_r 50 0), (4, pt_i (l4 + 6))], [], M') := by
  obtain ⟨M1, M2, r, d1, d2, hI⟩ := op_inside h (pt_X M (pt_nt (l4 + 1))) (pt_X M (pt_nt (l4 + 2))) (pt_X M (pt_nt (l4 + 3))) (pt_X M (pt_nt (l4 + 4))) (pt_X M (pt_nt (l4 + 5)))
  have e1 : M1.2.2.2.2 = M.2.2.2.2 := dX_x5 d1
  have e2 : M2.2.2.2.2 = M1.2.2.2.2 := dX_x5 d2
  have eL : pt_L M1 = pt_L M := congrArg (fun z => z.1) e1
  have eX : pt_X M1 = pt_X M := congrArg (fun z => z.2) e1
  exact ⟨M2, hI, e2.trans e1, gL_law_1085_1 l4 r M1 M2 M h1 h2 h3 h4 h5 d1 (by rw [eL]; exact h1) (by rw [eL]; exact h2) (by rw [eL]; exact h3) (by rw [eL]; exact h4) (by rw [eL]; exact h5) (by rw [eX]; exact d2)⟩
theorem it_kinds {M : pt_M} {l4 : Int32} (h : IV_P M) (h1 : pt_in (l4 + 1) (pt_L M)) (h2 : pt_in (l4 + 2) (pt_L M)) (h3 : pt_in (l4 + 3) (pt_L M)) (h4 : pt_in (l4 + 4) (pt_L M)) (h5 : pt_in (l4 + 5) (pt_L M)) : ∃ M', IV_P M' ∧ M'.2.2.2.2 = M.2.2.2.2 ∧ pt_Go YL_law (1158, [(0, pt_r 51 0), (1, pt_r 2 0), (2, pt_r 7 0), (3, pt_r 50 0), (4, pt_i l4)], [], M) (23, [(0, pt_r 51 0), (1, pt_r 2 0), (2, pt_r 7 0), (3, pt_r 50 0), (4, pt_i (l4 + 6))], [], M') := by
  obtain ⟨M1, M2, r, d1, d2, hI⟩ := op_kinds h (pt_X M (pt_nt (l4 + 1)))
  have e1 : M1.2.2.2.2 = M.2.2.2.2 := dX_x5 d1
  have e2 : M2.2.2.2.2 = M1.2.2.2.2 := dX_x5 d2
  have eL : pt_L M1 = pt_L M := congrArg (fun z => z.1) e1
  have eX : pt_X M1 = pt_X M := congrArg (fun z => z.2) e1
  exact ⟨M2, hI, e2.trans e1, gL_law_1158_1 l4 r M1 M2 M h1 d1 (by rw [eL]; exact h1) (by rw [eX]; exact d2)⟩
theorem it_kind {M : pt_M} {l4 : Int32} (h : IV_P M) (h1 : pt_in (l4 + 1) (pt_L M)) (h2 : pt_in (l4 + 2) (pt_L M)) (h3 : pt_in (l4 + 3) (pt_L M)) (h4 : pt_in (l4 + 4) (pt_L M)) (h5 : pt_in (l4 + 5) (pt_L M)) : ∃ M', IV_P M' ∧ M'.2.2.2.2 = M.2.2.2.2 ∧ pt_Go YL_law (1183, [(0, pt_r 51 0), (1, pt_r 2 0), (2, pt_r 7 0), (3, pt_r 50 0), (4, pt_i l4)], [], M) (23, [(0, pt_r 51 0), (1, pt_r 2 0), (2, pt_r 7 0), (3, pt_r 50 0), (4, pt_i (l4 + 6))], [], M') := by
  obtain ⟨M1, M2, r, d1, d2, hI⟩ := op_kind h (pt_X M (pt_nt (l4 + 1))) (pt_X M (pt_nt (l4 + 2))) (pt_X M (pt_nt (l4 + 3)))
  have e1 : M1.2.2.2.2 = M.2.2.2.2 := dX_x5 d1
  have e2 : M2.2.2.2.2 = M1.2.2.2.2 := dX_x5 d2
  have eL : pt_L M1 = pt_L M := congrArg (fun z => z.1) e1
  have eX : pt_X M1 = pt_X M := congrArg (fun z => z.2) e1
  exact ⟨M2, hI, e2.trans e1, gL_law_1183_1 l4 r M1 M2 M h1 h2 h3 d1 (by rw [eL]; exact h1) (by rw [eL]; exact h2) (by rw [eL]; exact h3) (by rw [eX]; exact d2)⟩
theorem it_which {M : pt_M} {l4 : Int32} (h : IV_P M) (h1 : pt_in (l4 + 1) (pt_L M)) (h2 : pt_in (l4 + 2) (pt_L M)) (h3 : pt_in (l4 + 3) (pt_L M)) (h4 : pt_in (l4 + 4) (pt_L M)) (h5 : pt_in (l4 + 5) (pt_L M)) : ∃ M', IV_P M' ∧ M'.2.2.2.2 = M.2.2.2.2 ∧ pt_Go YL_law (1232, [(0, pt_r 51 0), (1, pt_r 2 0), (2, pt_r 7 0), (3, pt_r 50 0), (4, pt_i l4)], [], M) (23, [(0, pt_r 51 0), (1, pt_r 2 0), (2, pt_r 7 0), (3, pt_r 50 0), (4, pt_i (l4 + 6))], [], M') := by
  obtain ⟨M1, M2, r, d1, d2, hI⟩ := op_which h (pt_X M (pt_nt (l4 + 1)))
  have e1 : M1.2.2.2.2 = M.2.2.2.2 := dX_x5 d1
  have e2 : M2.2.2.2.2 = M1.2.2.2.2 := dX_x5 d2
  have eL : pt_L M1 = pt_L M := congrArg (fun z => z.1) e1
  have eX : pt_X M1 = pt_X M := congrArg (fun z => z.2) e1
  exact ⟨M2, hI, e2.trans e1, gL_law_1232_1 l4 r M1 M2 M h1 d1 (by rw [eL]; exact h1) (by rw [eX]; exact d2)⟩
theorem it_points {M : pt_M} {l4 : Int32} (h : IV_P M) (h1 : pt_in (l4 + 1) (pt_L M)) (h2 : pt_in (l4 + 2) (pt_L M)) (h3 : pt_in (l4 + 3) (pt_L M)) (h4 : pt_in (l4 + 4) (pt_L M)) (h5 : pt_in (l4 + 5) (pt_L M)) : ∃ M', IV_P M' ∧ M'.2.2.2.2 = M.2.2.2.2 ∧ pt_Go YL_law (1257, [(0, pt_r 51 0), (1, pt_r 2 0), (2, pt_r 7 0), (3, pt_r 50 0), (4, pt_i l4)], [], M) (23, [(0, pt_r 51 0), (1, pt_r 2 0), (2, pt_r 7 0), (3, pt_r 50 0), (4, pt_i (l4 + 6))], [], M') := by
  obtain ⟨M1, M2, r, d1, d2, hI⟩ := op_points h (pt_X M (pt_nt (l4 + 1)))
  have e1 : M1.2.2.2.2 = M.2.2.2.2 := dX_x5 d1
  have e2 : M2.2.2.2.2 = M1.2.2.2.2 := dX_x5 d2
  have eL : pt_L M1 = pt_L M := congrArg (fun z => z.1) e1
  have eX : pt_X M1 = pt_X M := congrArg (fun z => z.2) e1
  exact ⟨M2, hI, e2.trans e1, gL_law_1257_1 l4 r M1 M2 M h1 d1 (by rw [eL]; exact h1) (by rw [eX]; exact d2)⟩
theorem it_all {M : pt_M} {l4 : Int32} (h : IV_P M) (h1 : pt_in (l4 + 1) (pt_L M)) (h2 : pt_in (l4 + 2) (pt_L M)) (h3 : pt_in (l4 + 3) (pt_L M)) (h4 : pt_in (l4 + 4) (pt_L M)) (h5 : pt_in (l4 + 5) (pt_L M)) : ∀ n, n < 32 → n ≠ 13 → n ≠ 20 → ∃ M', IV_P M' ∧ M'.2.2.2.2 = M.2.2.2.2 ∧ pt_Go YL_law (40, [(0, pt_r 51 0), (1, pt_r 2 0), (2, pt_r 7 0), (3, pt_r 50 0), (4, pt_i l4)], [pt_i (nI n)], M) (23, [(0, pt_r 51 0), (1, pt_r 2 0), (2, pt_r 7 0), (3, pt_r 50 0), (4, pt_i (l4 + 6))], [], M') := by
  intro n hn a b
  match n, hn, a, b with
  | 0, _, _, _ =>
    obtain ⟨M1, i1, i2, i3⟩ := it_feed h h1 h2 h3 h4 h5
    exact ⟨M1, i1, i2, ts_0.tr i3⟩
  | 1, _, _, _ =>
    obtain ⟨M1, i1, i2, i3⟩ := it_end h h1 h2 h3 h4 h5
    exact ⟨M1, i1, i2, ts_1.tr i3⟩
  | 2, _, _, _ =>
    obtain ⟨M1, i1, i2, i3⟩ := it_place h h1 h2 h3 h4 h5
    exact ⟨M1, i1, i2, ts_2.tr i3⟩
  | 3, _, _, _ =>
    obtain ⟨M1, i1, i2, i3⟩ := it_line h h1 h2 h3 h4 h5
    exact ⟨M1, i1, i2, ts_3.tr i3⟩
  | 4, _, _, _ =>
    obtain ⟨M1, i1, i2, i3⟩ := it_table h h1 h2 h3 h4 h5
    exact ⟨M1, i1, i2, ts_4.tr i3⟩
  | 5, _, _, _ =>
    obtain ⟨M1, i1, i2, i3⟩ := it_turn h h1 h2 h3 h4 h5
    exact ⟨M1, i1, i2, ts_5.tr i3⟩
  | 6, _, _, _ =>
    obtain ⟨M1, i1, i2, i3⟩ := it_flip h h1 h2 h3 h4 h5
    exact ⟨M1, i1, i2, ts_6.tr i3⟩
  | 7, _, _, _ =>
    obtain ⟨M1, i1, i2, i3⟩ := it_mirror h h1 h2 h3 h4 h5
    exact ⟨M1, i1, i2, ts_7.tr i3⟩
  | 8, _, _, _ =>
    obtain ⟨M1, i1, i2, i3⟩ := it_rename h h1 h2 h3 h4 h5
    exact ⟨M1, i1, i2, ts_8.tr i3⟩
  | 9, _, _, _ =>
    obtain ⟨M1, i1, i2, i3⟩ := it_without h h1 h2 h3 h4 h5
    exact ⟨M1, i1, i2, ts_9.tr i3⟩
  | 10, _, _, _ =>
    obtain ⟨M1, i1, i2, i3⟩ := it_lawful h h1 h2 h3 h4 h5
    exact ⟨M1, i1, i2, ts_10.tr i3⟩
  | 11, _, _, _ =>
    obtain ⟨M1, i1, i2, i3⟩ := it_why h h1 h2 h3 h4 h5
    exact ⟨M1, i1, i2, ts_11.tr i3⟩
  | 12, _, _, _ =>
    obtain ⟨M1, i1, i2, i3⟩ := it_rim h h1 h2 h3 h4 h5
    exact ⟨M1, i1, i2, ts_12.tr i3⟩
  | 13, _, a, _ => exact absurd rfl a
  | 14, _, _, _ =>
    obtain ⟨M1, i1, i2, i3⟩ := it_layer h h1 h2 h3 h4 h5
    exact ⟨M1, i1, i2, ts_14.tr i3⟩
  | 15, _, _, _ =>
    obtain ⟨M1, i1, i2, i3⟩ := it_code h h1 h2 h3 h4 h5
    exact ⟨M1, i1, i2, ts_15.tr i3⟩
  | 16, _, _, _ =>
    obtain ⟨M1, i1, i2, i3⟩ := it_named h h1 h2 h3 h4 h5
    exact ⟨M1, i1, i2, ts_16.tr i3⟩
  | 17, _, _, _ =>
    obtain ⟨M1, i1, i2, i3⟩ := it_like h h1 h2 h3 h4 h5
    exact ⟨M1, i1, i2, ts_17.tr i3⟩
  | 18, _, _, _ =>
    obtain ⟨M1, i1, i2, i3⟩ := it_swept h h1 h2 h3 h4 h5
    exact ⟨M1, i1, i2, ts_18.tr i3⟩
  | 19, _, _, _ =>
    obtain ⟨M1, i1, i2, i3⟩ := it_sweep h h1 h2 h3 h4 h5
    exact ⟨M1, i1, i2, ts_19.tr i3⟩
  | 20, _, _, b => exact absurd rfl b
  | 21, _, _, _ =>
    obtain ⟨M1, i1, i2, i3⟩ := it_figures h h1 h2 h3 h4 h5
    exact ⟨M1, i1, i2, ts_21.tr i3⟩
  | 22, _, _, _ =>
    obtain ⟨M1, i1, i2, i3⟩ := it_lines h h1 h2 h3 h4 h5
    exact ⟨M1, i1, i2, ts_22.tr i3⟩
  | 23, _, _, _ =>
    obtain ⟨M1, i1, i2, i3⟩ := it_inside h h1 h2 h3 h4 h5
    exact ⟨M1, i1, i2, ts_23.tr i3⟩
  | 24, _, _, _ =>
    obtain ⟨M1, i1, i2, i3⟩ := it_kinds h h1 h2 h3 h4 h5
    exact ⟨M1, i1, i2, ts_24.tr i3⟩
  | 25, _, _, _ =>
    obtain ⟨M1, i1, i2, i3⟩ := it_kind h h1 h2 h3 h4 h5
    exact ⟨M1, i1, i2, ts_25.tr i3⟩
  | 26, _, _, _ =>
    obtain ⟨M1, i1, i2, i3⟩ := it_which h h1 h2 h3 h4 h5
    exact ⟨M1, i1, i2, ts_26.tr i3⟩
  | 27, _, _, _ =>
    obtain ⟨M1, i1, i2, i3⟩ := it_points h h1 h2 h3 h4 h5
    exact ⟨M1, i1, i2, ts_27.tr i3⟩
  | 28, _, _, _ => exact ⟨M, h, rfl, ts_28.tr (gL_law_1282_1 l4 0 M M M)⟩
  | 29, _, _, _ => exact ⟨M, h, rfl, ts_29.tr (gL_law_1282_1 l4 0 M M M)⟩
  | 30, _, _, _ => exact ⟨M, h, rfl, ts_30.tr (gL_law_1282_1 l4 0 M M M)⟩
  | 31, _, _, _ => exact ⟨M, h, rfl, ts_31.tr (gL_law_1282_1 l4 0 M M M)⟩
