def pt_runO (Y : pt_Y) (a : Nat) (t : pt_B) : Nat → List pt_O → pt_S → Option (Prop × pt_S)
  | 0, _, σ => some (True, σ)
  | k + 1, o, σ => match pt_b1 (pt_bn t (σ.1 / 16 - a)) σ.1 with
    | none => none
    | some q => match pt_stp Y q.1 q.2.1 q.2.2 o σ with
      | none => none
      | some r => match pt_runO Y a t k r.2.1 r.2.2 with
        | none => none
        | some z => some (match r.1 with
          | none => z.1
          | some P => P ∧ z.1, z.2)
theorem pt_runO_ok {Y : pt_Y} (a : Nat) {t : pt_B} (hok : pt_ok Y.2.1 t = true) : ∀ (k : Nat) (o : List pt_O) {σ τ : pt_S} {P : Prop}, pt_runO Y a t k o σ = some (P, τ) → P → pt_Go Y σ τ
  | 0, o, σ, τ, P, h, hP => by
    unfold pt_runO at h
    cases h
    exact pt_Go.rf
  | k + 1, o, σ, τ, P, h, hP => by
    unfold pt_runO at h
    split at h
    · cases h
    · rename_i q hq
      split at h
      · cases h
      · rename_i r hr
        split at h
        · cases h
        · rename_i z hz
          cases h
          have hm := pt_bn_all hok _ (pt_b1_mem hq)
          unfold pt_okI at hm
          obtain ⟨I, n, tg⟩ := q
          obtain ⟨c, o', σ'⟩ := r
          obtain ⟨P', τ'⟩ := z
          split at hm
          · rename_i z hdz
            rw [Bool.and_eq_true, Bool.and_eq_true] at hm
            obtain ⟨⟨h1, h2⟩, h3⟩ := hm
            have e1 := of_decide_eq_true h1
            rw [e1] at hdz
            dsimp only at hr hz hP hdz h2 h3
            cases c with
            | none => exact (pt_stp_ok hr (fun Z z => by cases z) hdz (Nat.eq_of_beq_eq_true h2) h3).tr (pt_runO_ok a hok k o' hz hP)
            | some P0 => exact (pt_stp_ok hr (fun Z z => by cases z; exact hP.1) hdz (Nat.eq_of_beq_eq_true h2) h3).tr (pt_runO_ok a hok k o' hz hP.2)
          · cases hm
theorem pt_ok_sub {b : ByteArray} {t : pt_B} (h : pt_ok b t = true) (a k : Nat) : pt_ok b ((t.drop a).take k) = true := by
  unfold pt_ok at *
  rw [List.all_eq_true] at *
  exact fun x hx => h x (List.mem_of_mem_drop (List.mem_of_mem_take hx))
theorem kL_law_23 : pt_ckV YL_law 23 2 yX6_feed YX6_feed 196 197 198 = true := by decide +kernel
theorem kL_law_27 : pt_ckV YL_law 27 7 yX7_feed YX7_feed 733 734 735 = true := by decide +kernel
theorem kL_law_28 : pt_ckV YL_law 28 2 yX6_end YX6_end 204 205 206 = true := by decide +kernel
theorem kL_law_32 : pt_ckV YL_law 32 7 yX7_end YX7_end 741 742 743 = true := by decide +kernel
theorem kL_law_33 : pt_ckV YL_law 33 2 yX6_place YX6_place 208 209 210 = true := by decide +kernel
theorem kL_law_36 : pt_ckV YL_law 36 7 yX7_place YX7_place 756 757 758 = true := by decide +kernel
theorem kL_law_37 : pt_ckV YL_law 37 2 yX6_line YX6_line 264 265 266 = true := by decide +kernel
theorem kL_law_41 : pt_ckV YL_law 41 7 yX7_line YX7_line 777 778 779 = true := by decide +kernel
theorem kL_law_42 : pt_ckV YL_law 42 2 yX6_table YX6_table 268 269 270 = true := by decide +kernel
theorem kL_law_46 : pt_ckV YL_law 46 7 yX7_table YX7_table 781 782 783 = true := by decide +kernel
theorem kL_law_47 : pt_ckV YL_law 47 2 yX6_turn YX6_turn 289 290 291 = true := by decide +kernel
theorem kL_law_51 : pt_ckV YL_law 51 7 yX7_turn YX7_turn 785 786 787 = true := by decide +kernel
theorem kL_law_52 : pt_ckV YL_law 52 2 yX6_flip YX6_flip 309 310 311 = true := by decide +kernel
theorem kL_law_56 : pt_ckV YL_law 56 7 yX7_flip YX7_flip 797 798 799 = true := by decide +kernel
theorem kL_law_57 : pt_ckV YL_law 57 2 yX6_mirror YX6_mirror 314 315 316 = true := by decide +kernel
theorem kL_law_60 : pt_ckV YL_law 60 7 yX7_mirror YX7_mirror 801 802 803 = true := by decide +kernel
theorem kL_law_61 : pt_ckV YL_law 61 2 yX6_rename YX6_rename 323 324 325 = true := by decide +kernel
theorem kL_law_64 : pt_ckV YL_law 64 7 yX7_rename YX7_rename 809 810 811 = true := by decide +kernel
theorem kL_law_65 : pt_ckV YL_law 65 2 yX6_without YX6_without 337 338 339 = true := by decide +kernel
theorem kL_law_69 : pt_ckV YL_law 69 7 yX7_without YX7_without 817 818 819 = true := by decide +kernel
theorem kL_law_70 : pt_ckV YL_law 70 2 yX6_lawful YX6_lawful 341 342 343 = true := by decide +kernel
theorem kL_law_73 : pt_ckV YL_law 73 7 yX7_lawful YX7_lawful 821 822 823 = true := by decide +kernel
theorem kL_law_74 : pt_ckV YL_law 74 2 yX6_why YX6_why 368 346 347 = true := by decide +kernel
theorem kL_law_77 : pt_ckV YL_law 77 7 yX7_why YX7_why 852 853 854 = true := by decide +kernel
theorem kL_law_78 : pt_ckV YL_law 78 2 yX6_rim YX6_rim 369 370 371 = true := by decide +kernel
theorem kL_law_81 : pt_ckV YL_law 81 7 yX7_rim YX7_rim 856 857 858 = true := by decide +kernel
theorem kL_law_87 : pt_ckV YL_law 87 7 yX7_onRim YX7_onRim 868 869 870 = true := by decide +kernel
theorem kL_law_88 : pt_ckV YL_law 88 7 yX7_thrown YX7_thrown 729 730 731 = true := by decide +kernel
theorem kL_law_91 : pt_ckV YL_law 91 2 yX6_layer YX6_layer 397 398 399 = true := by decide +kernel
theorem kL_law_94 : pt_ckV YL_law 94 7 yX7_layer YX7_layer 876 877 878 = true := by decide +kernel
theorem kL_law_95 : pt_ckV YL_law 95 2 yX6_code YX6_code 406 407 408 = true := by decide +kernel
theorem kL_law_98 : pt_ckV YL_law 98 7 yX7_code YX7_code 880 881 882 = true := by decide +kernel
theorem kL_law_99 : pt_ckV YL_law 99 2 yX6_named YX6_named 454 455 456 = true := by decide +kernel
theorem kL_law_102 : pt_ckV YL_law 102 7 yX7_named YX7_named 910 911 912 = true := by decide +kernel
theorem kL_law_103 : pt_ckV YL_law 103 2 yX6_like YX6_like 458 459 460 = true := by decide +kernel
theorem kL_law_106 : pt_ckV YL_law 106 7 yX7_like YX7_like 918 919 920 = true := by decide +kernel
theorem kL_law_107 : pt_ckV YL_law 107 2 yX6_swept YX6_swept 464 465 466 = true := by decide +kernel
theorem kL_law_110 : pt_ckV YL_law 110 7 yX7_swept YX7_swept 922 923 924 = true := by decide +kernel
theorem kL_law_111 : pt_ckV YL_law 111 2 yX6_sweep YX6_sweep 494 495 496 = true := by decide +kernel
theorem kL_law_114 : pt_ckV YL_law 114 7 yX7_sweep YX7_sweep 930 931 932 = true := by decide +kernel
theorem kL_law_118 : pt_ckV YL_law 118 7 yX7_octet YX7_octet 906 907 908 = true := by decide +kernel
theorem kL_law_119 : pt_ckV YL_law 119 2 yX6_figures YX6_figures 520 521 522 = true := by decide +kernel
theorem kL_law_123 : pt_ckV YL_law 123 7 yX7_figures YX7_figures 946 947 948 = true := by decide +kernel
theorem kL_law_124 : pt_ckV YL_law 124 2 yX6_lines YX6_lines 530 531 532 = true := by decide +kernel
theorem kL_law_127 : pt_ckV YL_law 127 7 yX7_lines YX7_lines 954 955 956 = true := by decide +kernel
theorem kL_law_128 : pt_ckV YL_law 128 2 yX6_inside YX6_inside 535 536 537 = true := by decide +kernel
theorem kL_law_131 : pt_ckV YL_law 131 7 yX7_inside YX7_inside 958 959 960 = true := by decide +kernel
theorem kL_law_132 : pt_ckV YL_law 132 2 yX6_kinds YX6_kinds 539 540 541 = true := by decide +kernel
theorem kL_law_135 : pt_ckV YL_law 135 7 yX7_kinds YX7_kinds 962 963 964 = true := by decide +kernel
theorem kL_law_136 : pt_ckV YL_law 136 2 yX6_kind YX6_kind 556 557 558 = true := by decide +kernel
theorem kL_law_139 : pt_ckV YL_law 139 7 yX7_kind YX7_kind 974 975 976 = true := by decide +kernel
theorem kL_law_140 : pt_ckV YL_law 140 2 yX6_which YX6_which 560 561 562 = true := by decide +kernel
theorem kL_law_143 : pt_ckV YL_law 143 7 yX7_which YX7_which 978 979 980 = true := by decide +kernel
theorem kL_law_144 : pt_ckV YL_law 144 2 yX6_points YX6_points 567 568 569 = true := by decide +kernel
theorem kL_law_147 : pt_ckV YL_law 147 7 yX7_points YX7_points 745 746 747 = true := by decide +kernel
def tC_1282 : pt_B := [
  [(1280, .iconst 0, 1, 0), (1281, .ireturn, 1, 0), (1282, .iinc 4 6, 3, 0), (1285, .goto (-1262), 3, 23), (1288, .iconst 1, 1, 0), (1289, .ireturn, 1, 0)]]
theorem tC_1282_ok : pt_ok YL_law.2.1 tC_1282 = true := by
  rw [show tC_1282 = (tL_law.drop 80).take 1 from rfl]
  exact pt_ok_sub tL_law_ok 80 1
set_option maxRecDepth 100000 in
theorem gL_law_1282_1 (l4 r : Int32) (M2 M3 : pt_M) (M : pt_M) :
    pt_Go YL_law (1282, [(0, pt_r 51 0), (1, pt_r 2 0), (2, pt_r 7 0), (3, pt_r 50 0), (4, pt_i l4)], [], M)
      (23, [(0, pt_r 51 0), (1, pt_r 2 0), (2, pt_r 7 0), (3, pt_r 50 0), (4, pt_i (l4 + 6))], [], M) :=
  pt_runO_ok 80 tC_1282_ok 2 [] (P := True) (by with_unfolding_all rfl) trivial
def tC_23 : pt_B := [
  [(16, .iconst 1, 1, 0), (19, .astore_n 3, 1, 0), (20, .iconst 0, 1, 0), (21, .istore 4, 2, 0), (23, .iload 4, 2, 0), (25, .aload_n 0, 1, 0), (26, .arraylength, 1, 0), (27, .bipush 6, 2, 0), (29, .isub, 1, 0), (30, .if_icmp .gt 1258, 3, 1288)],
  [(33, .aload_n 0, 1, 0), (34, .iload 4, 2, 0), (36, .iaload, 1, 0), (37, .bipush 31, 2, 0), (39, .iand, 1, 0)]]
theorem tC_23_ok : pt_ok YL_law.2.1 tC_23 = true := by
  rw [show tC_23 = (tL_law.drop 1).take 2 from rfl]
  exact pt_ok_sub tL_law_ok 1 2
set_option maxRecDepth 100000 in
theorem gL_law_23_1 (l4 r : Int32) (M2 M3 : pt_M) (M : pt_M) (h1 : ¬ ((nI (pt_L M)) - 6) < l4) (h2 : pt_in l4 (pt_L M)) :
    pt_Go YL_law (23, [(0, pt_r 51 0), (1, pt_r 2 0), (2, pt_r 7 0), (3, pt_r 50 0), (4, pt_i l4)], [], M)
      (40, [(0, pt_r 51 0), (1, pt_r 2 0), (2, pt_r 7 0), (3, pt_r 50 0), (4, pt_i l4)], [pt_i ((pt_X M (pt_nt l4)) &&& 31)], M) :=
  pt_runO_ok 1 tC_23_ok 11 [.inl false] (P := (¬ ((nI (pt_L M)) - 6) < l4) ∧ (pt_in l4 (pt_L M)) ∧ True) (by with_unfolding_all rfl) ⟨h1, h2, trivial⟩
set_option maxRecDepth 100000 in
theorem gL_law_23_2 (l4 r : Int32) (M2 M3 : pt_M) (M : pt_M) (h1 : ((nI (pt_L M)) - 6) < l4) :
    pt_Go YL_law (23, [(0, pt_r 51 0), (1, pt_r 2 0), (2, pt_r 7 0), (3, pt_r 50 0), (4, pt_i l4)], [], M)
      (1289, [(0, pt_r 51 0), (1, pt_r 2 0), (2, pt_r 7 0), (3, pt_r 50 0), (4, pt_i l4)], [pt_i 1], M) :=
  pt_runO_ok 1 tC_23_ok 7 [.inl true] (P := (((nI (pt_L M)) - 6) < l4) ∧ True) (by with_unfolding_all rfl) ⟨h1, trivial⟩
def tC_241 : pt_B := [
  [(240, .ireturn, 1, 0), (241, .aload_n 1, 1, 0), (242, .aload_n 0, 1, 0), (243, .iload 4, 2, 0), (245, .iconst 1, 1, 0), (246, .iadd, 1, 0), (247, .iaload, 1, 0), (248, .invokevirtual 28, 3, 0), (251, .aload_n 2, 1, 0), (252, .aload_n 0, 1, 0), (253, .iload 4, 2, 0), (255, .iconst 1, 1, 0)],
  [(256, .iadd, 1, 0), (257, .iaload, 1, 0), (258, .invokevirtual 32, 3, 0), (261, .if_icmp .eq 1021, 3, 1282), (264, .iconst 0, 1, 0), (265, .ireturn, 1, 0), (266, .aload_n 1, 1, 0), (267, .aload_n 0, 1, 0), (268, .iload 4, 2, 0), (270, .iconst 1, 1, 0), (271, .iadd, 1, 0)]]
theorem tC_241_ok : pt_ok YL_law.2.1 tC_241 = true := by
  rw [show tC_241 = (tL_law.drop 15).take 2 from rfl]
  exact pt_ok_sub tL_law_ok 15 2
set_option maxRecDepth 100000 in
theorem gL_law_241_1 (l4 r : Int32) (M2 M3 : pt_M) (M : pt_M) (h1 : pt_in (l4 + 1) (pt_L M)) (h2 : pt_Does yX6_end YX6_end [pt_r 2 0, pt_i (pt_X M (pt_nt (l4 + 1)))] M (some (pt_i r)) M2) (h3 : pt_in (l4 + 1) (pt_L M2)) (h4 : pt_Does yX7_end YX7_end [pt_r 7 0, pt_i (pt_X M2 (pt_nt (l4 + 1)))] M2 (some (pt_i r)) M3) :
    pt_Go YL_law (241, [(0, pt_r 51 0), (1, pt_r 2 0), (2, pt_r 7 0), (3, pt_r 50 0), (4, pt_i l4)], [], M)
      (1282, [(0, pt_r 51 0), (1, pt_r 2 0), (2, pt_r 7 0), (3, pt_r 50 0), (4, pt_i l4)], [], M3) :=
  pt_runO_ok 15 tC_241_ok 15 [.inr (2, some (pt_i r), M2), .inr (2, some (pt_i r), M3), .inl true] (P := (pt_in (l4 + 1) (pt_L M)) ∧ pt_Cal YL_law (.invokevirtual 28) [pt_r 2 0, pt_i (pt_X M (pt_nt (l4 + 1)))] M (some (pt_i r)) M2 ∧ (pt_in (l4 + 1) (pt_L M2)) ∧ pt_Cal YL_law (.invokevirtual 32) [pt_r 7 0, pt_i (pt_X M2 (pt_nt (l4 + 1)))] M2 (some (pt_i r)) M3 ∧ (r = r) ∧ True) (by with_unfolding_all rfl) ⟨h1, (pt_callV (i := 0) kL_law_28 mX6_end rfl (by decide) rfl h2), h3, (pt_callV (i := 0) kL_law_32 mX7_end rfl (by decide) rfl h4), rfl, trivial⟩
def tC_266 : pt_B := [
  [(256, .iadd, 1, 0), (257, .iaload, 1, 0), (258, .invokevirtual 32, 3, 0), (261, .if_icmp .eq 1021, 3, 1282), (264, .iconst 0, 1, 0), (265, .ireturn, 1, 0), (266, .aload_n 1, 1, 0), (267, .aload_n 0, 1, 0), (268, .iload 4, 2, 0), (270, .iconst 1, 1, 0), (271, .iadd, 1, 0)],
  [(272, .iaload, 1, 0), (273, .invokevirtual 33, 3, 0), (276, .aload_n 2, 1, 0), (277, .aload_n 0, 1, 0), (278, .iload 4, 2, 0), (280, .iconst 1, 1, 0), (281, .iadd, 1, 0), (282, .iaload, 1, 0), (283, .invokevirtual 36, 3, 0), (286, .if_icmp .eq 996, 3, 1282)],
  [(289, .iconst 0, 1, 0), (290, .ireturn, 1, 0), (291, .aload_n 1, 1, 0), (292, .invokevirtual 37, 3, 0), (295, .aload_n 2, 1, 0), (296, .invokevirtual 41, 3, 0), (299, .if_icmp .eq 983, 3, 1282), (302, .iconst 0, 1, 0), (303, .ireturn, 1, 0)]]
theorem tC_266_ok : pt_ok YL_law.2.1 tC_266 = true := by
  rw [show tC_266 = (tL_law.drop 16).take 3 from rfl]
  exact pt_ok_sub tL_law_ok 16 3
set_option maxRecDepth 100000 in
theorem gL_law_266_1 (l4 r : Int32) (M2 M3 : pt_M) (M : pt_M) (h1 : pt_in (l4 + 1) (pt_L M)) (h2 : pt_Does yX6_place YX6_place [pt_r 2 0, pt_i (pt_X M (pt_nt (l4 + 1)))] M (some (pt_i r)) M2) (h3 : pt_in (l4 + 1) (pt_L M2)) (h4 : pt_Does yX7_place YX7_place [pt_r 7 0, pt_i (pt_X M2 (pt_nt (l4 + 1)))] M2 (some (pt_i r)) M3) :
    pt_Go YL_law (266, [(0, pt_r 51 0), (1, pt_r 2 0), (2, pt_r 7 0), (3, pt_r 50 0), (4, pt_i l4)], [], M)
      (1282, [(0, pt_r 51 0), (1, pt_r 2 0), (2, pt_r 7 0), (3, pt_r 50 0), (4, pt_i l4)], [], M3) :=
  pt_runO_ok 16 tC_266_ok 15 [.inr (2, some (pt_i r), M2), .inr (2, some (pt_i r), M3), .inl true] (P := (pt_in (l4 + 1) (pt_L M)) ∧ pt_Cal YL_law (.invokevirtual 33) [pt_r 2 0, pt_i (pt_X M (pt_nt (l4 + 1)))] M (some (pt_i r)) M2 ∧ (pt_in (l4 + 1) (pt_L M2)) ∧ pt_Cal YL_law (.invokevirtual 36) [pt_r 7 0, pt_i (pt_X M2 (pt_nt (l4 + 1)))] M2 (some (pt_i r)) M3 ∧ (r = r) ∧ True) (by with_unfolding_all rfl) ⟨h1, (pt_callV (i := 0) kL_law_33 mX6_place rfl (by decide) rfl h2), h3, (pt_callV (i := 0) kL_law_36 mX7_place rfl (by decide) rfl h4), rfl, trivial⟩
def tC_291 : pt_B := [
  [(289, .iconst 0, 1, 0), (290, .ireturn, 1, 0), (291, .aload_n 1, 1, 0), (292, .invokevirtual 37, 3, 0), (295, .aload_n 2, 1, 0), (296, .invokevirtual 41, 3, 0), (299, .if_icmp .eq 983, 3, 1282), (302, .iconst 0, 1, 0), (303, .ireturn, 1, 0)]]
theorem tC_291_ok : pt_ok YL_law.2.1 tC_291 = true := by
  rw [show tC_291 = (tL_law.drop 18).take 1 from rfl]
  exact pt_ok_sub tL_law_ok 18 1
set_option maxRecDepth 100000 in
theorem gL_law_291_1 (l4 r : Int32) (M2 M3 : pt_M) (M : pt_M) (h1 : pt_Does yX6_line YX6_line [pt_r 2 0] M (some (pt_i r)) M2) (h2 : pt_Does yX7_line YX7_line [pt_r 7 0] M2 (some (pt_i r)) M3) :
    pt_Go YL_law (291, [(0, pt_r 51 0), (1, pt_r 2 0), (2, pt_r 7 0), (3, pt_r 50 0), (4, pt_i l4)], [], M)
      (1282, [(0, pt_r 51 0), (1, pt_r 2 0), (2, pt_r 7 0), (3, pt_r 50 0), (4, pt_i l4)], [], M3) :=
  pt_runO_ok 18 tC_291_ok 5 [.inr (1, some (pt_i r), M2), .inr (1, some (pt_i r), M3), .inl true] (P := pt_Cal YL_law (.invokevirtual 37) [pt_r 2 0] M (some (pt_i r)) M2 ∧ pt_Cal YL_law (.invokevirtual 41) [pt_r 7 0] M2 (some (pt_i r)) M3 ∧ (r = r) ∧ True) (by with_unfolding_all rfl) ⟨(pt_callV (i := 0) kL_law_37 mX6_line rfl (by decide) rfl h1), (pt_callV (i := 0) kL_law_41 mX7_line rfl (by decide) rfl h2), rfl, trivial⟩
def tC_586 : pt_B := [
  [(576, .iadd, 1, 0), (577, .iaload, 1, 0), (578, .invokevirtual 69, 3, 0), (581, .if_icmp .eq 701, 3, 1282), (584, .iconst 0, 1, 0), (585, .ireturn, 1, 0), (586, .aload_n 1, 1, 0), (587, .aload_n 0, 1, 0), (588, .iload 4, 2, 0), (590, .iconst 1, 1, 0), (591, .iadd, 1, 0)],
  [(592, .iaload, 1, 0), (593, .invokevirtual 70, 3, 0), (596, .aload_n 2, 1, 0), (597, .aload_n 0, 1, 0), (598, .iload 4, 2, 0), (600, .iconst 1, 1, 0), (601, .iadd, 1, 0), (602, .iaload, 1, 0), (603, .invokevirtual 73, 3, 0), (606, .if_icmp .eq 676, 3, 1282)],
  [(609, .iconst 0, 1, 0), (610, .ireturn, 1, 0), (611, .aload_n 1, 1, 0), (612, .aload_n 0, 1, 0), (613, .iload 4, 2, 0), (615, .iconst 1, 1, 0), (616, .iadd, 1, 0), (617, .iaload, 1, 0), (618, .invokevirtual 74, 3, 0), (621, .aload_n 2, 1, 0), (622, .aload_n 0, 1, 0), (623, .iload 4, 2, 0)]]
theorem tC_586_ok : pt_ok YL_law.2.1 tC_586 = true := by
  rw [show tC_586 = (tL_law.drop 36).take 3 from rfl]
  exact pt_ok_sub tL_law_ok 36 3
set_option maxRecDepth 100000 in
theorem gL_law_586_1 (l4 r : Int32) (M2 M3 : pt_M) (M : pt_M) (h1 : pt_in (l4 + 1) (pt_L M)) (h2 : pt_Does yX6_lawful YX6_lawful [pt_r 2 0, pt_i (pt_X M (pt_nt (l4 + 1)))] M (some (pt_i r)) M2) (h3 : pt_in (l4 + 1) (pt_L M2)) (h4 : pt_Does yX7_lawful YX7_lawful [pt_r 7 0, pt_i (pt_X M2 (pt_nt (l4 + 1)))] M2 (some (pt_i r)) M3) :
    pt_Go YL_law (586, [(0, pt_r 51 0), (1, pt_r 2 0), (2, pt_r 7 0), (3, pt_r 50 0), (4, pt_i l4)], [], M)
      (1282, [(0, pt_r 51 0), (1, pt_r 2 0), (2, pt_r 7 0), (3, pt_r 50 0), (4, pt_i l4)], [], M3) :=
  pt_runO_ok 36 tC_586_ok 15 [.inr (2, some (pt_i r), M2), .inr (2, some (pt_i r), M3), .inl true] (P := (pt_in (l4 + 1) (pt_L M)) ∧ pt_Cal YL_law (.invokevirtual 70) [pt_r 2 0, pt_i (pt_X M (pt_nt (l4 + 1)))] M (some (pt_i r)) M2 ∧ (pt_in (l4 + 1) (pt_L M2)) ∧ pt_Cal YL_law (.invokevirtual 73) [pt_r 7 0, pt_i (pt_X M2 (pt_nt (l4 + 1)))] M2 (some (pt_i r)) M3 ∧ (r = r) ∧ True) (by with_unfolding_all rfl) ⟨h1, (pt_callV (i := 0) kL_law_70 mX6_lawful rfl (by decide) rfl h2), h3, (pt_callV (i := 0) kL_law_73 mX7_lawful rfl (by decide) rfl h4), rfl, trivial⟩
def tC_611 : pt_B := [
  [(609, .iconst 0, 1, 0), (610, .ireturn, 1, 0), (611, .aload_n 1, 1, 0), (612, .aload_n 0, 1, 0), (613, .iload 4, 2, 0), (615, .iconst 1, 1, 0), (616, .iadd, 1, 0), (617, .iaload, 1, 0), (618, .invokevirtual 74, 3, 0), (621, .aload_n 2, 1, 0), (622, .aload_n 0, 1, 0), (623, .iload 4, 2, 0)],
  [(625, .iconst 1, 1, 0), (626, .iadd, 1, 0), (627, .iaload, 1, 0), (628, .invokevirtual 77, 3, 0), (631, .if_icmp .eq 651, 3, 1282), (634, .iconst 0, 1, 0), (635, .ireturn, 1, 0), (636, .aload_n 1, 1, 0), (637, .aload_n 0, 1, 0), (638, .iload 4, 2, 0)]]
theorem tC_611_ok : pt_ok YL_law.2.1 tC_611 = true := by
  rw [show tC_611 = (tL_law.drop 38).take 2 from rfl]
  exact pt_ok_sub tL_law_ok 38 2
set_option maxRecDepth 100000 in
theorem gL_law_611_1 (l4 r : Int32) (M2 M3 : pt_M) (M : pt_M) (h1 : pt_in (l4 + 1) (pt_L M)) (h2 : pt_Does yX6_why YX6_why [pt_r 2 0, pt_i (pt_X M (pt_nt (l4 + 1)))] M (some (pt_i r)) M2) (h3 : pt_in (l4 + 1) (pt_L M2)) (h4 : pt_Does yX7_why YX7_why [pt_r 7 0, pt_i (pt_X M2 (pt_nt (l4 + 1)))] M2 (some (pt_i r)) M3) :
    pt_Go YL_law (611, [(0, pt_r 51 0), (1, pt_r 2 0), (2, pt_r 7 0), (3, pt_r 50 0), (4, pt_i l4)], [], M)
      (1282, [(0, pt_r 51 0), (1, pt_r 2 0), (2, pt_r 7 0), (3, pt_r 50 0), (4, pt_i l4)], [], M3) :=
  pt_runO_ok 38 tC_611_ok 15 [.inr (2, some (pt_i r), M2), .inr (2, some (pt_i r), M3), .inl true] (P := (pt_in (l4 + 1) (pt_L M)) ∧ pt_Cal YL_law (.invokevirtual 74) [pt_r 2 0, pt_i (pt_X M (pt_nt (l4 + 1)))] M (some (pt_i r)) M2 ∧ (pt_in (l4 + 1) (pt_L M2)) ∧ pt_Cal YL_law (.invokevirtual 77) [pt_r 7 0, pt_i (pt_X M2 (pt_nt (l4 + 1)))] M2 (some (pt_i r)) M3 ∧ (r = r) ∧ True) (by with_unfolding_all rfl) ⟨h1, (pt_callV (i := 0) kL_law_74 mX6_why rfl (by decide) rfl h2), h3, (pt_callV (i := 0) kL_law_77 mX7_why rfl (by decide) rfl h4), rfl, trivial⟩
def tC_636 : pt_B := [
  [(625, .iconst 1, 1, 0), (626, .iadd, 1, 0), (627, .iaload, 1, 0), (628, .invokevirtual 77, 3, 0), (631, .if_icmp .eq 651, 3, 1282), (634, .iconst 0, 1, 0), (635, .ireturn, 1, 0), (636, .aload_n 1, 1, 0), (637, .aload_n 0, 1, 0), (638, .iload 4, 2, 0)],
  [(640, .iconst 1, 1, 0), (641, .iadd, 1, 0), (642, .iaload, 1, 0), (643, .invokevirtual 78, 3, 0), (646, .aload_n 2, 1, 0), (647, .aload_n 0, 1, 0), (648, .iload 4, 2, 0), (650, .iconst 1, 1, 0), (651, .iadd, 1, 0), (652, .iaload, 1, 0), (653, .invokevirtual 81, 3, 0)],
  [(656, .if_icmp .eq 626, 3, 1282), (659, .iconst 0, 1, 0), (660, .ireturn, 1, 0), (661, .aload_n 1, 1, 0), (662, .aload_n 0, 1, 0), (663, .iload 4, 2, 0), (665, .iconst 1, 1, 0), (666, .iadd, 1, 0), (667, .iaload, 1, 0), (668, .aload_n 0, 1, 0), (669, .iload 4, 2, 0), (671, .iconst 2, 1, 0)]]
theorem tC_636_ok : pt_ok YL_law.2.1 tC_636 = true := by
  rw [show tC_636 = (tL_law.drop 39).take 3 from rfl]
  exact pt_ok_sub tL_law_ok 39 3
set_option maxRecDepth 100000 in
theorem gL_law_636_1 (l4 r : Int32) (M2 M3 : pt_M) (M : pt_M) (h1 : pt_in (l4 + 1) (pt_L M)) (h2 : pt_Does yX6_rim YX6_rim [pt_r 2 0, pt_i (pt_X M (pt_nt (l4 + 1)))] M (some (pt_i r)) M2) (h3 : pt_in (l4 + 1) (pt_L M2)) (h4 : pt_Does yX7_rim YX7_rim [pt_r 7 0, pt_i (pt_X M2 (pt_nt (l4 + 1)))] M2 (some (pt_i r)) M3) :
    pt_Go YL_law (636, [(0, pt_r 51 0), (1, pt_r 2 0), (2, pt_r 7 0), (3, pt_r 50 0), (4, pt_i l4)], [], M)
      (1282, [(0, pt_r 51 0), (1, pt_r 2 0), (2, pt_r 7 0), (3, pt_r 50 0), (4, pt_i l4)], [], M3) :=
  pt_runO_ok 39 tC_636_ok 15 [.inr (2, some (pt_i r), M2), .inr (2, some (pt_i r), M3), .inl true] (P := (pt_in (l4 + 1) (pt_L M)) ∧ pt_Cal YL_law (.invokevirtual 78) [pt_r 2 0, pt_i (pt_X M (pt_nt (l4 + 1)))] M (some (pt_i r)) M2 ∧ (pt_in (l4 + 1) (pt_L M2)) ∧ pt_Cal YL_law (.invokevirtual 81) [pt_r 7 0, pt_i (pt_X M2 (pt_nt (l4 + 1)))] M2 (some (pt_i r)) M3 ∧ (r = r) ∧ True) (by with_unfolding_all rfl) ⟨h1, (pt_callV (i := 0) kL_law_78 mX6_rim rfl (by decide) rfl h2), h3, (pt_callV (i := 0) kL_law_81 mX7_rim rfl (by decide) rfl h4), rfl, trivial⟩
def tC_766 : pt_B := [
  [(752, .aload_n 0, 1, 0), (753, .iload 4, 2, 0), (755, .iconst 2, 1, 0), (756, .iadd, 1, 0), (757, .iaload, 1, 0), (758, .invokevirtual 94, 3, 0), (761, .if_icmp .eq 521, 3, 1282), (764, .iconst 0, 1, 0), (765, .ireturn, 1, 0), (766, .aload_n 1, 1, 0), (767, .aload_n 0, 1, 0)],
  [(768, .iload 4, 2, 0), (770, .iconst 1, 1, 0), (771, .iadd, 1, 0), (772, .iaload, 1, 0), (773, .invokevirtual 95, 3, 0), (776, .aload_n 2, 1, 0), (777, .aload_n 0, 1, 0), (778, .iload 4, 2, 0), (780, .iconst 1, 1, 0), (781, .iadd, 1, 0), (782, .iaload, 1, 0), (783, .invokevirtual 98, 3, 0)],
  [(786, .if_icmp .eq 496, 3, 1282), (789, .iconst 0, 1, 0), (790, .ireturn, 1, 0), (791, .aload_n 1, 1, 0), (792, .aload_n 0, 1, 0), (793, .iload 4, 2, 0), (795, .iconst 1, 1, 0), (796, .iadd, 1, 0), (797, .iaload, 1, 0), (798, .aload_n 0, 1, 0), (799, .iload 4, 2, 0)]]
theorem tC_766_ok : pt_ok YL_law.2.1 tC_766 = true := by
  rw [show tC_766 = (tL_law.drop 47).take 3 from rfl]
  exact pt_ok_sub tL_law_ok 47 3
set_option maxRecDepth 100000 in
theorem gL_law_766_1 (l4 r : Int32) (M2 M3 : pt_M) (M : pt_M) (h1 : pt_in (l4 + 1) (pt_L M)) (h2 : pt_Does yX6_code YX6_code [pt_r 2 0, pt_i (pt_X M (pt_nt (l4 + 1)))] M (some (pt_i r)) M2) (h3 : pt_in (l4 + 1) (pt_L M2)) (h4 : pt_Does yX7_code YX7_code [pt_r 7 0, pt_i (pt_X M2 (pt_nt (l4 + 1)))] M2 (some (pt_i r)) M3) :
    pt_Go YL_law (766, [(0, pt_r 51 0), (1, pt_r 2 0), (2, pt_r 7 0), (3, pt_r 50 0), (4, pt_i l4)], [], M)
      (1282, [(0, pt_r 51 0), (1, pt_r 2 0), (2, pt_r 7 0), (3, pt_r 50 0), (4, pt_i l4)], [], M3) :=
  pt_runO_ok 47 tC_766_ok 15 [.inr (2, some (pt_i r), M2), .inr (2, some (pt_i r), M3), .inl true] (P := (pt_in (l4 + 1) (pt_L M)) ∧ pt_Cal YL_law (.invokevirtual 95) [pt_r 2 0, pt_i (pt_X M (pt_nt (l4 + 1)))] M (some (pt_i r)) M2 ∧ (pt_in (l4 + 1) (pt_L M2)) ∧ pt_Cal YL_law (.invokevirtual 98) [pt_r 7 0, pt_i (pt_X M2 (pt_nt (l4 + 1)))] M2 (some (pt_i r)) M3 ∧ (r = r) ∧ True) (by with_unfolding_all rfl) ⟨h1, (pt_callV (i := 0) kL_law_95 mX6_code rfl (by decide) rfl h2), h3, (pt_callV (i := 0) kL_law_98 mX7_code rfl (by decide) rfl h4), rfl, trivial⟩
def tC_902 : pt_B := [
  [(897, .if_icmp .eq 385, 3, 1282), (900, .iconst 0, 1, 0), (901, .ireturn, 1, 0), (902, .aload_n 1, 1, 0), (903, .aload_n 0, 1, 0), (904, .iload 4, 2, 0), (906, .iconst 1, 1, 0), (907, .iadd, 1, 0), (908, .iaload, 1, 0), (909, .invokevirtual 111, 3, 0)],
  [(912, .aload_n 2, 1, 0), (913, .aload_n 0, 1, 0), (914, .iload 4, 2, 0), (916, .iconst 1, 1, 0), (917, .iadd, 1, 0), (918, .iaload, 1, 0), (919, .invokevirtual 114, 3, 0), (922, .if_icmp .eq 360, 3, 1282), (925, .iconst 0, 1, 0), (926, .ireturn, 1, 0), (927, .aload_n 1, 1, 0)]]
theorem tC_902_ok : pt_ok YL_law.2.1 tC_902 = true := by
  rw [show tC_902 = (tL_law.drop 56).take 2 from rfl]
  exact pt_ok_sub tL_law_ok 56 2
set_option maxRecDepth 100000 in
theorem gL_law_902_1 (l4 r : Int32) (M2 M3 : pt_M) (M : pt_M) (h1 : pt_in (l4 + 1) (pt_L M)) (h2 : pt_Does yX6_sweep YX6_sweep [pt_r 2 0, pt_i (pt_X M (pt_nt (l4 + 1)))] M (some (pt_i r)) M2) (h3 : pt_in (l4 + 1) (pt_L M2)) (h4 : pt_Does yX7_sweep YX7_sweep [pt_r 7 0, pt_i (pt_X M2 (pt_nt (l4 + 1)))] M2 (some (pt_i r)) M3) :
    pt_Go YL_law (902, [(0, pt_r 51 0), (1, pt_r 2 0), (2, pt_r 7 0), (3, pt_r 50 0), (4, pt_i l4)], [], M)
      (1282, [(0, pt_r 51 0), (1, pt_r 2 0), (2, pt_r 7 0), (3, pt_r 50 0), (4, pt_i l4)], [], M3) :=
  pt_runO_ok 56 tC_902_ok 15 [.inr (2, some (pt_i r), M2), .inr (2, some (pt_i r), M3), .inl true] (P := (pt_in (l4 + 1) (pt_L M)) ∧ pt_Cal YL_law (.invokevirtual 111) [pt_r 2 0, pt_i (pt_X M (pt_nt (l4 + 1)))] M (some (pt_i r)) M2 ∧ (pt_in (l4 + 1) (pt_L M2)) ∧ pt_Cal YL_law (.invokevirtual 114) [pt_r 7 0, pt_i (pt_X M2 (pt_nt (l4 + 1)))] M2 (some (pt_i r)) M3 ∧ (r = r) ∧ True) (by with_unfolding_all rfl) ⟨h1, (pt_callV (i := 0) kL_law_111 mX6_sweep rfl (by decide) rfl h2), h3, (pt_callV (i := 0) kL_law_114 mX7_sweep rfl (by decide) rfl h4), rfl, trivial⟩
def tC_1158 : pt_B := [
  [(1153, .if_icmp .eq 129, 3, 1282), (1156, .iconst 0, 1, 0), (1157, .ireturn, 1, 0), (1158, .aload_n 1, 1, 0), (1159, .aload_n 0, 1, 0), (1160, .iload 4, 2, 0), (1162, .iconst 1, 1, 0), (1163, .iadd, 1, 0), (1164, .iaload, 1, 0), (1165, .invokevirtual 132, 3, 0)],
  [(1168, .aload_n 2, 1, 0), (1169, .aload_n 0, 1, 0), (1170, .iload 4, 2, 0), (1172, .iconst 1, 1, 0), (1173, .iadd, 1, 0), (1174, .iaload, 1, 0), (1175, .invokevirtual 135, 3, 0), (1178, .if_icmp .eq 104, 3, 1282), (1181, .iconst 0, 1, 0), (1182, .ireturn, 1, 0), (1183, .aload_n 1, 1, 0)]]
theorem tC_1158_ok : pt_ok YL_law.2.1 tC_1158 = true := by
  rw [show tC_1158 = (tL_law.drop 72).take 2 from rfl]
  exact pt_ok_sub tL_law_ok 72 2
set_option maxRecDepth 100000 in
theorem gL_law_1158_1 (l4 r : Int32) (M2 M3 : pt_M) (M : pt_M) (h1 : pt_in (l4 + 1) (pt_L M)) (h2 : pt_Does yX6_kinds YX6_kinds [pt_r 2 0, pt_i (pt_X M (pt_nt (l4 + 1)))] M (some (pt_i r)) M2) (h3 : pt_in (l4 + 1) (pt_L M2)) (h4 : pt_Does yX7_kinds YX7_kinds [pt_r 7 0, pt_i (pt_X M2 (pt_nt (l4 + 1)))] M2 (some (pt_i r)) M3) :
    pt_Go YL_law (1158, [(0, pt_r 51 0), (1, pt_r 2 0), (2, pt_r 7 0), (3, pt_r 50 0), (4, pt_i l4)], [], M)
      (1282, [(0, pt_r 51 0), (1, pt_r 2 0), (2, pt_r 7 0), (3, pt_r 50 0), (4, pt_i l4)], [], M3) :=
  pt_runO_ok 72 tC_1158_ok 15 [.inr (2, some (pt_i r), M2), .inr (2, some (pt_i r), M3), .inl true] (P := (pt_in (l4 + 1) (pt_L M)) ∧ pt_Cal YL_law (.invokevirtual 132) [pt_r 2 0, pt_i (pt_X M (pt_nt (l4 + 1)))] M (some (pt_i r)) M2 ∧ (pt_in (l4 + 1) (pt_L M2)) ∧ pt_Cal YL_law (.invokevirtual 135) [pt_r 7 0, pt_i (pt_X M2 (pt_nt (l4 + 1)))] M2 (some (pt_i r)) M3 ∧ (r = r) ∧ True) (by with_unfolding_all rfl) ⟨h1, (pt_callV (i := 0) kL_law_132 mX6_kinds rfl (by decide) rfl h2), h3, (pt_callV (i := 0) kL_law_135 mX7_kinds rfl (by decide) rfl h4), rfl, trivial⟩
def tC_1232 : pt_B := [
  [(1232, .aload_n 1, 1, 0), (1233, .aload_n 0, 1, 0), (1234, .iload 4, 2, 0), (1236, .iconst 1, 1, 0), (1237, .iadd, 1, 0), (1238, .iaload, 1, 0), (1239, .invokevirtual 140, 3, 0), (1242, .aload_n 2, 1, 0), (1243, .aload_n 0, 1, 0), (1244, .iload 4, 2, 0), (1246, .iconst 1, 1, 0), (1247, .iadd, 1, 0)],
  [(1248, .iaload, 1, 0), (1249, .invokevirtual 143, 3, 0), (1252, .if_icmp .eq 30, 3, 1282), (1255, .iconst 0, 1, 0), (1256, .ireturn, 1, 0), (1257, .aload_n 1, 1, 0), (1258, .aload_n 0, 1, 0), (1259, .iload 4, 2, 0), (1261, .iconst 1, 1, 0), (1262, .iadd, 1, 0), (1263, .iaload, 1, 0)]]
theorem tC_1232_ok : pt_ok YL_law.2.1 tC_1232 = true := by
  rw [show tC_1232 = (tL_law.drop 77).take 2 from rfl]
  exact pt_ok_sub tL_law_ok 77 2
set_option maxRecDepth 100000 in
theorem gL_law_1232_1 (l4 r : Int32) (M2 M3 : pt_M) (M : pt_M) (h1 : pt_in (l4 + 1) (pt_L M)) (h2 : pt_Does yX6_which YX6_which [pt_r 2 0, pt_i (pt_X M (pt_nt (l4 + 1)))] M (some (pt_i r)) M2) (h3 : pt_in (l4 + 1) (pt_L M2)) (h4 : pt_Does yX7_which YX7_which [pt_r 7 0, pt_i (pt_X M2 (pt_nt (l4 + 1)))] M2 (some (pt_i r)) M3) :
    pt_Go YL_law (1232, [(0, pt_r 51 0), (1, pt_r 2 0), (2, pt_r 7 0), (3, pt_r 50 0), (4, pt_i l4)], [], M)
      (1282, [(0, pt_r 51 0), (1, pt_r 2 0), (2, pt_r 7 0), (3, pt_r 50 0), (4, pt_i l4)], [], M3) :=
  pt_runO_ok 77 tC_1232_ok 15 [.inr (2, some (pt_i r), M2), .inr (2, some (pt_i r), M3), .inl true] (P := (pt_in (l4 + 1) (pt_L M)) ∧ pt_Cal YL_law (.invokevirtual 140) [pt_r 2 0, pt_i (pt_X M (pt_nt (l4 + 1)))] M (some (pt_i r)) M2 ∧ (pt_in (l4 + 1) (pt_L M2)) ∧ pt_Cal YL_law (.invokevirtual 143) [pt_r 7 0, pt_i (pt_X M2 (pt_nt (l4 + 1)))] M2 (some (pt_i r)) M3 ∧ (r = r) ∧ True) (by with_unfolding_all rfl) ⟨h1, (pt_callV (i := 0) kL_law_140 mX6_which rfl (by decide) rfl h2), h3, (pt_callV (i := 0) kL_law_143 mX7_which rfl (by decide) rfl h4), rfl, trivial⟩
def tC_1257 : pt_B := [
  [(1248, .iaload, 1, 0), (1249, .invokevirtual 143, 3, 0), (1252, .if_icmp .eq 30, 3, 1282), (1255, .iconst 0, 1, 0), (1256, .ireturn, 1, 0), (1257, .aload_n 1, 1, 0), (1258, .aload_n 0, 1, 0), (1259, .iload 4, 2, 0), (1261, .iconst 1, 1, 0), (1262, .iadd, 1, 0), (1263, .iaload, 1, 0)],
  [(1264, .invokevirtual 144, 3, 0), (1267, .aload_n 2, 1, 0), (1268, .aload_n 0, 1, 0), (1269, .iload 4, 2, 0), (1271, .iconst 1, 1, 0), (1272, .iadd, 1, 0), (1273, .iaload, 1, 0), (1274, .invokevirtual 147, 3, 0), (1277, .if_icmp .eq 5, 3, 1282)],
  [(1280, .iconst 0, 1, 0), (1281, .ireturn, 1, 0), (1282, .iinc 4 6, 3, 0), (1285, .goto (-1262), 3, 23), (1288, .iconst 1, 1, 0), (1289, .ireturn, 1, 0)]]
theorem tC_1257_ok : pt_ok YL_law.2.1 tC_1257 = true := by
  rw [show tC_1257 = (tL_law.drop 78).take 3 from rfl]
  exact pt_ok_sub tL_law_ok 78 3
set_option maxRecDepth 100000 in
theorem gL_law_1257_1 (l4 r : Int32) (M2 M3 : pt_M) (M : pt_M) (h1 : pt_in (l4 + 1) (pt_L M)) (h2 : pt_Does yX6_points YX6_points [pt_r 2 0, pt_i (pt_X M (pt_nt (l4 + 1)))] M (some (pt_i r)) M2) (h3 : pt_in (l4 + 1) (pt_L M2)) (h4 : pt_Does yX7_points YX7_points [pt_r 7 0, pt_i (pt_X M2 (pt_nt (l4 + 1)))] M2 (some (pt_i r)) M3) :
    pt_Go YL_law (1257, [(0, pt_r 51 0), (1, pt_r 2 0), (2, pt_r 7 0), (3, pt_r 50 0), (4, pt_i l4)], [], M)
      (1282, [(0, pt_r 51 0), (1, pt_r 2 0), (2, pt_r 7 0), (3, pt_r 50 0), (4, pt_i l4)], [], M3) :=
  pt_runO_ok 78 tC_1257_ok 15 [.inr (2, some (pt_i r), M2), .inr (2, some (pt_i r), M3), .inl true] (P := (pt_in (l4 + 1) (pt_L M)) ∧ pt_Cal YL_law (.invokevirtual 144) [pt_r 2 0, pt_i (pt_X M (pt_nt (l4 + 1)))] M (some (pt_i r)) M2 ∧ (pt_in (l4 + 1) (pt_L M2)) ∧ pt_Cal YL_law (.invokevirtual 147) [pt_r 7 0, pt_i (pt_X M2 (pt_nt (l4 + 1)))] M2 (some (pt_i r)) M3 ∧ (r = r) ∧ True) (by with_unfolding_all rfl) ⟨h1, (pt_callV (i := 0) kL_law_144 mX6_points rfl (by decide) rfl h2), h3, (pt_callV (i := 0) kL_law_147 mX7_points rfl (by decide) rfl h4), rfl, trivial⟩
