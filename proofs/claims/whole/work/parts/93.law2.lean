def pt_runO (Y : pt_Y) (a : Nat) (t : pt_B) : Nat → List pt_O → pt_S → Option (Prop × pt_S)
  | 0, _, σ => some (True, σ)
  | k + 1, o, (pc, L, st, M) => match pt_b1 (pt_bn t (pc / 16 - a)) pc with
    | none => none
    | some q => match pt_stp Y q.1 q.2.1 q.2.2 o (pc, L, st, M) with
      | none => none
      | some r => match pt_runO Y a t k r.2.1 r.2.2 with
        | none => none
        | some z => some (match r.1 with
          | none => z.1
          | some P => P ∧ z.1, z.2)
theorem pt_runO_ok {Y : pt_Y} (a : Nat) {t : pt_B} (hok : pt_ok Y.2.1 t = true) : ∀ (k : Nat) (o : List pt_O) {σ τ : pt_S} {P : Prop}, pt_runO Y a t k o σ = some (P, τ) → P → pt_Go Y σ τ
  | 0, o, σ, τ, P, h, hP => by
    unfold pt_runO at h
    cases h
    exact pt_Go.rf
  | k + 1, o, (pc, L, st, M), τ, P, h, hP => by
    unfold pt_runO at h
    split at h
    · cases h
    · rename_i q hq
      split at h
      · cases h
      · rename_i r hr
        split at h
        · cases h
        · rename_i z hz
          cases h
          have hm := pt_bn_all hok _ (pt_b1_mem hq)
          unfold pt_okI at hm
          obtain ⟨I, n, tg⟩ := q
          obtain ⟨c, o', σ'⟩ := r
          obtain ⟨P', τ'⟩ := z
          split at hm
          · rename_i z hdz
            rw [Bool.and_eq_true, Bool.and_eq_true] at hm
            obtain ⟨⟨h1, h2⟩, h3⟩ := hm
            have e1 := of_decide_eq_true h1
            rw [e1] at hdz
            dsimp only at hr hz hP hdz h2 h3
            cases c with
            | none => exact (pt_stp_ok hr (fun Z z => by cases z) hdz (Nat.eq_of_beq_eq_true h2) h3).tr (pt_runO_ok a hok k o' hz hP)
            | some P0 => exact (pt_stp_ok hr (fun Z z => by cases z; exact hP.1) hdz (Nat.eq_of_beq_eq_true h2) h3).tr (pt_runO_ok a hok k o' hz hP.2)
          · cases hm
theorem pt_ok_sub {b : ByteArray} {t : pt_B} (h : pt_ok b t = true) (a k : Nat) : pt_ok b ((t.drop a).take k) = true := by
  unfold pt_ok at *
  rw [List.all_eq_true] at *
  exact fun x hx => h x (List.mem_of_mem_drop (List.mem_of_mem_take hx))
theorem kL_law_23 : pt_ckV YL_law 23 2 yX6_feed YX6_feed 196 197 198 = true := by decide +kernel
theorem kL_law_27 : pt_ckV YL_law 27 7 yX7_feed YX7_feed 733 734 735 = true := by decide +kernel
theorem kL_law_28 : pt_ckV YL_law 28 2 yX6_end YX6_end 204 205 206 = true := by decide +kernel
theorem kL_law_32 : pt_ckV YL_law 32 7 yX7_end YX7_end 741 742 743 = true := by decide +kernel
theorem kL_law_33 : pt_ckV YL_law 33 2 yX6_place YX6_place 208 209 210 = true := by decide +kernel
theorem kL_law_36 : pt_ckV YL_law 36 7 yX7_place YX7_place 756 757 758 = true := by decide +kernel
theorem kL_law_37 : pt_ckV YL_law 37 2 yX6_line YX6_line 264 265 266 = true := by decide +kernel
theorem kL_law_41 : pt_ckV YL_law 41 7 yX7_line YX7_line 777 778 779 = true := by decide +kernel
theorem kL_law_42 : pt_ckV YL_law 42 2 yX6_table YX6_table 268 269 270 = true := by decide +kernel
theorem kL_law_46 : pt_ckV YL_law 46 7 yX7_table YX7_table 781 782 783 = true := by decide +kernel
theorem kL_law_47 : pt_ckV YL_law 47 2 yX6_turn YX6_turn 289 290 291 = true := by decide +kernel
theorem kL_law_51 : pt_ckV YL_law 51 7 yX7_turn YX7_turn 785 786 787 = true := by decide +kernel
theorem kL_law_52 : pt_ckV YL_law 52 2 yX6_flip YX6_flip 309 310 311 = true := by decide +kernel
theorem kL_law_56 : pt_ckV YL_law 56 7 yX7_flip YX7_flip 797 798 799 = true := by decide +kernel
theorem kL_law_57 : pt_ckV YL_law 57 2 yX6_mirror YX6_mirror 314 315 316 = true := by decide +kernel
theorem kL_law_60 : pt_ckV YL_law 60 7 yX7_mirror YX7_mirror 801 802 803 = true := by decide +kernel
theorem kL_law_61 : pt_ckV YL_law 61 2 yX6_rename YX6_rename 323 324 325 = true := by decide +kernel
theorem kL_law_64 : pt_ckV YL_law 64 7 yX7_rename YX7_rename 809 810 811 = true := by decide +kernel
theorem kL_law_65 : pt_ckV YL_law 65 2 yX6_without YX6_without 337 338 339 = true := by decide +kernel
theorem kL_law_69 : pt_ckV YL_law 69 7 yX7_without YX7_without 817 818 819 = true := by decide +kernel
theorem kL_law_70 : pt_ckV YL_law 70 2 yX6_lawful YX6_lawful 341 342 343 = true := by decide +kernel
theorem kL_law_73 : pt_ckV YL_law 73 7 yX7_lawful YX7_lawful 821 822 823 = true := by decide +kernel
theorem kL_law_74 : pt_ckV YL_law 74 2 yX6_why YX6_why 368 346 347 = true := by decide +kernel
theorem kL_law_77 : pt_ckV YL_law 77 7 yX7_why YX7_why 852 853 854 = true := by decide +kernel
theorem kL_law_78 : pt_ckV YL_law 78 2 yX6_rim YX6_rim 369 370 371 = true := by decide +kernel
theorem kL_law_81 : pt_ckV YL_law 81 7 yX7_rim YX7_rim 856 857 858 = true := by decide +kernel
theorem kL_law_87 : pt_ckV YL_law 87 7 yX7_onRim YX7_onRim 868 869 870 = true := by decide +kernel
theorem kL_law_88 : pt_ckV YL_law 88 7 yX7_thrown YX7_thrown 729 730 731 = true := by decide +kernel
theorem kL_law_91 : pt_ckV YL_law 91 2 yX6_layer YX6_layer 397 398 399 = true := by decide +kernel
theorem kL_law_94 : pt_ckV YL_law 94 7 yX7_layer YX7_layer 876 877 878 = true := by decide +kernel
theorem kL_law_95 : pt_ckV YL_law 95 2 yX6_code YX6_code 406 407 408 = true := by decide +kernel
theorem kL_law_98 : pt_ckV YL_law 98 7 yX7_code YX7_code 880 881 882 = true := by decide +kernel
theorem kL_law_99 : pt_ckV YL_law 99 2 yX6_named YX6_named 454 455 456 = true := by decide +kernel
theorem kL_law_102 : pt_ckV YL_law 102 7 yX7_named YX7_named 910 911 912 = true := by decide +kernel
theorem kL_law_103 : pt_ckV YL_law 103 2 yX6_like YX6_like 458 459 460 = true := by decide +kernel
theorem kL_law_106 : pt_ckV YL_law 106 7 yX7_like YX7_like 918 919 920 = true := by decide +kernel
theorem kL_law_107 : pt_ckV YL_law 107 2 yX6_swept YX6_swept 464 465 466 = true := by decide +kernel
theorem kL_law_110 : pt_ckV YL_law 110 7 yX7_swept YX7_swept 922 923 924 = true := by decide +kernel
theorem kL_law_111 : pt_ckV YL_law 111 2 yX6_sweep YX6_sweep 494 495 496 = true := by decide +kernel
theorem kL_law_114 : pt_ckV YL_law 114 7 yX7_sweep YX7_sweep 930 931 932 = true := by decide +kernel
theorem kL_law_118 : pt_ckV YL_law 118 7 yX7_octet YX7_octet 906 907 908 = true := by decide +kernel
theorem kL_law_119 : pt_ckV YL_law 119 2 yX6_figures YX6_figures 520 521 522 = true := by decide +kernel
theorem kL_law_123 : pt_ckV YL_law 123 7 yX7_figures YX7_figures 946 947 948 = true := by decide +kernel
theorem kL_law_124 : pt_ckV YL_law 124 2 yX6_lines YX6_lines 530 531 532 = true := by decide +kernel
theorem kL_law_127 : pt_ckV YL_law 127 7 yX7_lines YX7_lines 954 955 956 = true := by decide +kernel
theorem kL_law_128 : pt_ckV YL_law 128 2 yX6_inside YX6_inside 535 536 537 = true := by decide +kernel
theorem kL_law_131 : pt_ckV YL_law 131 7 yX7_inside YX7_inside 958 959 960 = true := by decide +kernel
theorem kL_law_132 : pt_ckV YL_law 132 2 yX6_kinds YX6_kinds 539 540 541 = true := by decide +kernel
theorem kL_law_135 : pt_ckV YL_law 135 7 yX7_kinds YX7_kinds 962 963 964 = true := by decide +kernel
theorem kL_law_136 : pt_ckV YL_law 136 2 yX6_kind YX6_kind 556 557 558 = true := by decide +kernel
theorem kL_law_139 : pt_ckV YL_law 139 7 yX7_kind YX7_kind 974 975 976 = true := by decide +kernel
theorem kL_law_140 : pt_ckV YL_law 140 2 yX6_which YX6_which 560 561 562 = true := by decide +kernel
theorem kL_law_143 : pt_ckV YL_law 143 7 yX7_which YX7_which 978 979 980 = true := by decide +kernel
theorem kL_law_144 : pt_ckV YL_law 144 2 yX6_points YX6_points 567 568 569 = true := by decide +kernel
theorem kL_law_147 : pt_ckV YL_law 147 7 yX7_points YX7_points 745 746 747 = true := by decide +kernel
