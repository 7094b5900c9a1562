/-! call sites: their words, by program -/
set_option maxRecDepth 100000 in
theorem mX7_thrown : pt_ckM yX7_thrown YX7_thrown 0 57 732 = true := by decide +kernel
set_option maxRecDepth 100000 in
theorem mX7_throwsIf : pt_ckM yX7_throwsIf YX7_throwsIf 1 57 875 = true := by decide +kernel
set_option maxRecDepth 100000 in
theorem mX7_feed : pt_ckM yX7_feed YX7_feed 5 57 736 = true := by decide +kernel
set_option maxRecDepth 100000 in
theorem mX7_four : pt_ckM yX7_four YX7_four 1 57 740 = true := by decide +kernel
set_option maxRecDepth 100000 in
theorem mX7_end : pt_ckM yX7_end YX7_end 1 57 744 = true := by decide +kernel
set_option maxRecDepth 100000 in
theorem mX7_taken : pt_ckM yX7_taken YX7_taken 0 57 763 = true := by decide +kernel
set_option maxRecDepth 100000 in
theorem mX7_three : pt_ckM yX7_three YX7_three 3 57 772 = true := by decide +kernel
set_option maxRecDepth 100000 in
theorem mX7_turnAt : pt_ckM yX7_turnAt YX7_turnAt 4 57 796 = true := by decide +kernel
set_option maxRecDepth 100000 in
theorem mX7_left : pt_ckM yX7_left YX7_left 4 57 847 = true := by decide +kernel
set_option maxRecDepth 100000 in
theorem mX7_set : pt_ckM yX7_set YX7_set 5 57 769 = true := by decide +kernel
set_option maxRecDepth 100000 in
theorem mX7_isSlot : pt_ckM yX7_isSlot YX7_isSlot 1 57 755 = true := by decide +kernel
set_option maxRecDepth 100000 in
theorem mX7_has : pt_ckM yX7_has YX7_has 1 57 752 = true := by decide +kernel
set_option maxRecDepth 100000 in
theorem mX7_copy : pt_ckM yX7_copy YX7_copy 2 57 776 = true := by decide +kernel
set_option maxRecDepth 100000 in
theorem mX7_points : pt_ckM yX7_points YX7_points 1 57 748 = true := by decide +kernel
set_option maxRecDepth 100000 in
theorem mX7_place : pt_ckM yX7_place YX7_place 1 57 759 = true := by decide +kernel
set_option maxRecDepth 100000 in
theorem mX7_line : pt_ckM yX7_line YX7_line 0 57 780 = true := by decide +kernel
set_option maxRecDepth 100000 in
theorem mX7_table : pt_ckM yX7_table YX7_table 2 57 784 = true := by decide +kernel
set_option maxRecDepth 100000 in
theorem mX7_areThree : pt_ckM yX7_areThree YX7_areThree 4 57 792 = true := by decide +kernel
set_option maxRecDepth 100000 in
theorem mX7_turn : pt_ckM yX7_turn YX7_turn 4 57 788 = true := by decide +kernel
set_option maxRecDepth 100000 in
theorem mX7_flip : pt_ckM yX7_flip YX7_flip 4 57 800 = true := by decide +kernel
set_option maxRecDepth 100000 in
theorem mX7_turnAll : pt_ckM yX7_turnAll YX7_turnAll 1 57 808 = true := by decide +kernel
set_option maxRecDepth 100000 in
theorem mX7_mirror : pt_ckM yX7_mirror YX7_mirror 2 57 804 = true := by decide +kernel
set_option maxRecDepth 100000 in
theorem mX7_pick : pt_ckM yX7_pick YX7_pick 3 57 816 = true := by decide +kernel
set_option maxRecDepth 100000 in
theorem mX7_rename : pt_ckM yX7_rename YX7_rename 2 57 812 = true := by decide +kernel
set_option maxRecDepth 100000 in
theorem mX7_without : pt_ckM yX7_without YX7_without 3 57 820 = true := by decide +kernel
set_option maxRecDepth 100000 in
theorem mX7_breaksFour : pt_ckM yX7_breaksFour YX7_breaksFour 5 57 843 = true := by decide +kernel
set_option maxRecDepth 100000 in
theorem mX7_breaksFive : pt_ckM yX7_breaksFive YX7_breaksFive 6 57 851 = true := by decide +kernel
set_option maxRecDepth 100000 in
theorem mX7_breaks : pt_ckM yX7_breaks YX7_breaks 3 57 839 = true := by decide +kernel
set_option maxRecDepth 100000 in
theorem mX7_bits : pt_ckM yX7_bits YX7_bits 1 57 835 = true := by decide +kernel
set_option maxRecDepth 100000 in
theorem mX7_whyNot : pt_ckM yX7_whyNot YX7_whyNot 2 57 832 = true := by decide +kernel
set_option maxRecDepth 100000 in
theorem mX7_isLawful : pt_ckM yX7_isLawful YX7_isLawful 1 57 828 = true := by decide +kernel
set_option maxRecDepth 100000 in
theorem mX7_lawful : pt_ckM yX7_lawful YX7_lawful 1 57 824 = true := by decide +kernel
set_option maxRecDepth 100000 in
theorem mX7_why : pt_ckM yX7_why YX7_why 1 57 855 = true := by decide +kernel
set_option maxRecDepth 100000 in
theorem mX7_nextTo : pt_ckM yX7_nextTo YX7_nextTo 3 57 867 = true := by decide +kernel
set_option maxRecDepth 100000 in
theorem mX7_rimOf : pt_ckM yX7_rimOf YX7_rimOf 2 57 863 = true := by decide +kernel
set_option maxRecDepth 100000 in
theorem mX7_rim : pt_ckM yX7_rim YX7_rim 1 57 859 = true := by decide +kernel
set_option maxRecDepth 100000 in
theorem mX7_onRim : pt_ckM yX7_onRim YX7_onRim 2 57 871 = true := by decide +kernel
set_option maxRecDepth 100000 in
theorem mX7_layer : pt_ckM yX7_layer YX7_layer 2 57 879 = true := by decide +kernel
set_option maxRecDepth 100000 in
theorem mX7_threesOf : pt_ckM yX7_threesOf YX7_threesOf 1 57 902 = true := by decide +kernel
set_option maxRecDepth 100000 in
theorem mX7_around : pt_ckM yX7_around YX7_around 3 57 895 = true := by decide +kernel
set_option maxRecDepth 100000 in
theorem mX7_rowOf : pt_ckM yX7_rowOf YX7_rowOf 3 57 899 = true := by decide +kernel
set_option maxRecDepth 100000 in
theorem mX7_compare : pt_ckM yX7_compare YX7_compare 3 57 905 = true := by decide +kernel
set_option maxRecDepth 100000 in
theorem mX7_least : pt_ckM yX7_least YX7_least 3 57 891 = true := by decide +kernel
set_option maxRecDepth 100000 in
theorem mX7_codeOf : pt_ckM yX7_codeOf YX7_codeOf 2 57 887 = true := by decide +kernel
set_option maxRecDepth 100000 in
theorem mX7_code : pt_ckM yX7_code YX7_code 1 57 883 = true := by decide +kernel
set_option maxRecDepth 100000 in
theorem mX7_octet : pt_ckM yX7_octet YX7_octet 1 57 909 = true := by decide +kernel
set_option maxRecDepth 100000 in
theorem mX7_fill : pt_ckM yX7_fill YX7_fill 3 57 917 = true := by decide +kernel
set_option maxRecDepth 100000 in
theorem mX7_named : pt_ckM yX7_named YX7_named 2 57 913 = true := by decide +kernel
set_option maxRecDepth 100000 in
theorem mX7_like : pt_ckM yX7_like YX7_like 2 57 921 = true := by decide +kernel
set_option maxRecDepth 100000 in
theorem mX7_swept : pt_ckM yX7_swept YX7_swept 2 57 925 = true := by decide +kernel
set_option maxRecDepth 100000 in
theorem mX7_swap : pt_ckM yX7_swap YX7_swap 2 57 929 = true := by decide +kernel
set_option maxRecDepth 100000 in
theorem mX7_wasSwapped : pt_ckM yX7_wasSwapped YX7_wasSwapped 2 57 945 = true := by decide +kernel
set_option maxRecDepth 100000 in
theorem mX7_isNext : pt_ckM yX7_isNext YX7_isNext 4 57 941 = true := by decide +kernel
set_option maxRecDepth 100000 in
theorem mX7_sweep : pt_ckM yX7_sweep YX7_sweep 1 57 933 = true := by decide +kernel
set_option maxRecDepth 100000 in
theorem mX7_maySwap : pt_ckM yX7_maySwap YX7_maySwap 3 57 937 = true := by decide +kernel
set_option maxRecDepth 100000 in
theorem mX7_isEmpty : pt_ckM yX7_isEmpty YX7_isEmpty 3 57 953 = true := by decide +kernel
set_option maxRecDepth 100000 in
theorem mX7_figures : pt_ckM yX7_figures YX7_figures 3 57 949 = true := by decide +kernel
set_option maxRecDepth 100000 in
theorem mX7_lines : pt_ckM yX7_lines YX7_lines 2 57 957 = true := by decide +kernel
set_option maxRecDepth 100000 in
theorem mX7_inside : pt_ckM yX7_inside YX7_inside 5 57 961 = true := by decide +kernel
set_option maxRecDepth 100000 in
theorem mX7_byBits : pt_ckM yX7_byBits YX7_byBits 2 57 973 = true := by decide +kernel
set_option maxRecDepth 100000 in
theorem mX7_find : pt_ckM yX7_find YX7_find 1 57 969 = true := by decide +kernel
set_option maxRecDepth 100000 in
theorem mX7_kinds : pt_ckM yX7_kinds YX7_kinds 1 57 965 = true := by decide +kernel
set_option maxRecDepth 100000 in
theorem mX7_kind : pt_ckM yX7_kind YX7_kind 3 57 977 = true := by decide +kernel
set_option maxRecDepth 100000 in
theorem mX7_which : pt_ckM yX7_which YX7_which 1 57 981 = true := by decide +kernel
set_option maxRecDepth 100000 in
theorem kX7_feed_70 : pt_ckV YX7_feed 70 7 yX7_four YX7_four 737 739 21 = true := by decide +kernel
set_option maxRecDepth 100000 in
theorem kX7_turnAt_77 : pt_ckS YX7_turnAt 77 yX7_three YX7_three 770 771 = true := by decide +kernel
set_option maxRecDepth 100000 in
theorem kX7_left_81 : pt_ckV YX7_left 81 7 yX7_turnAt YX7_turnAt 793 795 27 = true := by decide +kernel
set_option maxRecDepth 100000 in
theorem kX7_set_77 : pt_ckS YX7_set 77 yX7_three YX7_three 770 771 = true := by decide +kernel
set_option maxRecDepth 100000 in
theorem kX7_has_85 : pt_ckS YX7_has 85 yX7_isSlot YX7_isSlot 753 754 = true := by decide +kernel
set_option maxRecDepth 100000 in
theorem kX7_points_89 : pt_ckV YX7_points 89 7 yX7_has YX7_has 749 751 22 = true := by decide +kernel
set_option maxRecDepth 100000 in
theorem kX7_place_92 : pt_ckV YX7_place 92 7 yX7_taken YX7_taken 760 762 23 = true := by decide +kernel
set_option maxRecDepth 100000 in
theorem kX7_place_85 : pt_ckS YX7_place 85 yX7_isSlot YX7_isSlot 753 754 = true := by decide +kernel
set_option maxRecDepth 100000 in
theorem kX7_place_99 : pt_ckV YX7_place 99 7 yX7_set YX7_set 766 768 24 = true := by decide +kernel
set_option maxRecDepth 100000 in
theorem kX7_place_103 : pt_ckV YX7_place 103 7 yX7_copy YX7_copy 773 775 25 = true := by decide +kernel
set_option maxRecDepth 100000 in
theorem kX7_table_92 : pt_ckV YX7_table 92 7 yX7_taken YX7_taken 760 762 23 = true := by decide +kernel
set_option maxRecDepth 100000 in
theorem kX7_table_85 : pt_ckS YX7_table 85 yX7_isSlot YX7_isSlot 753 754 = true := by decide +kernel
set_option maxRecDepth 100000 in
theorem kX7_table_99 : pt_ckV YX7_table 99 7 yX7_set YX7_set 766 768 24 = true := by decide +kernel
set_option maxRecDepth 100000 in
theorem kX7_areThree_89 : pt_ckV YX7_areThree 89 7 yX7_has YX7_has 749 751 22 = true := by decide +kernel
set_option maxRecDepth 100000 in
theorem kX7_turn_107 : pt_ckV YX7_turn 107 7 yX7_areThree YX7_areThree 789 791 26 = true := by decide +kernel
set_option maxRecDepth 100000 in
theorem kX7_turn_81 : pt_ckV YX7_turn 81 7 yX7_turnAt YX7_turnAt 793 795 27 = true := by decide +kernel
set_option maxRecDepth 100000 in
theorem kX7_flip_107 : pt_ckV YX7_flip 107 7 yX7_areThree YX7_areThree 789 791 26 = true := by decide +kernel
set_option maxRecDepth 100000 in
theorem kX7_flip_77 : pt_ckS YX7_flip 77 yX7_three YX7_three 770 771 = true := by decide +kernel
set_option maxRecDepth 100000 in
theorem kX7_mirror_85 : pt_ckS YX7_mirror 85 yX7_isSlot YX7_isSlot 753 754 = true := by decide +kernel
set_option maxRecDepth 100000 in
theorem kX7_mirror_89 : pt_ckV YX7_mirror 89 7 yX7_has YX7_has 749 751 22 = true := by decide +kernel
set_option maxRecDepth 100000 in
theorem kX7_mirror_103 : pt_ckV YX7_mirror 103 7 yX7_copy YX7_copy 773 775 25 = true := by decide +kernel
set_option maxRecDepth 100000 in
theorem kX7_mirror_111 : pt_ckV YX7_mirror 111 7 yX7_turnAll YX7_turnAll 805 807 28 = true := by decide +kernel
set_option maxRecDepth 100000 in
theorem kX7_pick_81 : pt_ckV YX7_pick 81 7 yX7_turnAt YX7_turnAt 793 795 27 = true := by decide +kernel
set_option maxRecDepth 100000 in
theorem kX7_pick_99 : pt_ckV YX7_pick 99 7 yX7_set YX7_set 766 768 24 = true := by decide +kernel
set_option maxRecDepth 100000 in
theorem kX7_pick_103 : pt_ckV YX7_pick 103 7 yX7_copy YX7_copy 773 775 25 = true := by decide +kernel
set_option maxRecDepth 100000 in
theorem kX7_rename_92 : pt_ckV YX7_rename 92 7 yX7_taken YX7_taken 760 762 23 = true := by decide +kernel
set_option maxRecDepth 100000 in
theorem kX7_rename_85 : pt_ckS YX7_rename 85 yX7_isSlot YX7_isSlot 753 754 = true := by decide +kernel
set_option maxRecDepth 100000 in
theorem kX7_rename_89 : pt_ckV YX7_rename 89 7 yX7_has YX7_has 749 751 22 = true := by decide +kernel
set_option maxRecDepth 100000 in
theorem kX7_rename_114 : pt_ckV YX7_rename 114 7 yX7_pick YX7_pick 813 815 29 = true := by decide +kernel
set_option maxRecDepth 100000 in
theorem kX7_without_85 : pt_ckS YX7_without 85 yX7_isSlot YX7_isSlot 753 754 = true := by decide +kernel
set_option maxRecDepth 100000 in
theorem kX7_without_89 : pt_ckV YX7_without 89 7 yX7_has YX7_has 749 751 22 = true := by decide +kernel
set_option maxRecDepth 100000 in
theorem kX7_without_114 : pt_ckV YX7_without 114 7 yX7_pick YX7_pick 813 815 29 = true := by decide +kernel
set_option maxRecDepth 100000 in
theorem kX7_breaksFour_118 : pt_ckV YX7_breaksFour 118 7 yX7_left YX7_left 844 846 34 = true := by decide +kernel
set_option maxRecDepth 100000 in
theorem kX7_breaksFive_81 : pt_ckV YX7_breaksFive 81 7 yX7_turnAt YX7_turnAt 793 795 27 = true := by decide +kernel
set_option maxRecDepth 100000 in
theorem kX7_breaks_121 : pt_ckV YX7_breaks 121 7 yX7_breaksFour YX7_breaksFour 840 842 33 = true := by decide +kernel
set_option maxRecDepth 100000 in
theorem kX7_breaks_125 : pt_ckV YX7_breaks 125 7 yX7_breaksFive YX7_breaksFive 848 850 35 = true := by decide +kernel
set_option maxRecDepth 100000 in
theorem kX7_whyNot_129 : pt_ckS YX7_whyNot 129 yX7_bits YX7_bits 833 834 = true := by decide +kernel
set_option maxRecDepth 100000 in
theorem kX7_whyNot_133 : pt_ckV YX7_whyNot 133 7 yX7_breaks YX7_breaks 836 838 32 = true := by decide +kernel
set_option maxRecDepth 100000 in
theorem kX7_isLawful_89 : pt_ckV YX7_isLawful 89 7 yX7_has YX7_has 749 751 22 = true := by decide +kernel
set_option maxRecDepth 100000 in
theorem kX7_isLawful_137 : pt_ckV YX7_isLawful 137 7 yX7_whyNot YX7_whyNot 829 831 31 = true := by decide +kernel
set_option maxRecDepth 100000 in
theorem kX7_lawful_89 : pt_ckV YX7_lawful 89 7 yX7_has YX7_has 749 751 22 = true := by decide +kernel
set_option maxRecDepth 100000 in
theorem kX7_lawful_141 : pt_ckV YX7_lawful 141 7 yX7_isLawful YX7_isLawful 825 827 30 = true := by decide +kernel
set_option maxRecDepth 100000 in
theorem kX7_why_89 : pt_ckV YX7_why 89 7 yX7_has YX7_has 749 751 22 = true := by decide +kernel
set_option maxRecDepth 100000 in
theorem kX7_why_137 : pt_ckV YX7_why 137 7 yX7_whyNot YX7_whyNot 829 831 31 = true := by decide +kernel
set_option maxRecDepth 100000 in
theorem kX7_nextTo_118 : pt_ckV YX7_nextTo 118 7 yX7_left YX7_left 844 846 34 = true := by decide +kernel
set_option maxRecDepth 100000 in
theorem kX7_rimOf_129 : pt_ckS YX7_rimOf 129 yX7_bits YX7_bits 833 834 = true := by decide +kernel
set_option maxRecDepth 100000 in
theorem kX7_rimOf_144 : pt_ckV YX7_rimOf 144 7 yX7_nextTo YX7_nextTo 864 866 37 = true := by decide +kernel
set_option maxRecDepth 100000 in
theorem kX7_rim_141 : pt_ckV YX7_rim 141 7 yX7_isLawful YX7_isLawful 825 827 30 = true := by decide +kernel
set_option maxRecDepth 100000 in
theorem kX7_rim_147 : pt_ckV YX7_rim 147 7 yX7_rimOf YX7_rimOf 860 862 36 = true := by decide +kernel
set_option maxRecDepth 100000 in
theorem kX7_rim_129 : pt_ckS YX7_rim 129 yX7_bits YX7_bits 833 834 = true := by decide +kernel
set_option maxRecDepth 100000 in
theorem kX7_onRim_141 : pt_ckV YX7_onRim 141 7 yX7_isLawful YX7_isLawful 825 827 30 = true := by decide +kernel
set_option maxRecDepth 100000 in
theorem kX7_onRim_147 : pt_ckV YX7_onRim 147 7 yX7_rimOf YX7_rimOf 860 862 36 = true := by decide +kernel
set_option maxRecDepth 100000 in
theorem kX7_onRim_129 : pt_ckS YX7_onRim 129 yX7_bits YX7_bits 833 834 = true := by decide +kernel
set_option maxRecDepth 100000 in
theorem kX7_onRim_150 : pt_ckV YX7_onRim 150 7 yX7_throwsIf YX7_throwsIf 872 874 38 = true := by decide +kernel
set_option maxRecDepth 100000 in
theorem kX7_onRim_144 : pt_ckV YX7_onRim 144 7 yX7_nextTo YX7_nextTo 864 866 37 = true := by decide +kernel
set_option maxRecDepth 100000 in
theorem kX7_layer_141 : pt_ckV YX7_layer 141 7 yX7_isLawful YX7_isLawful 825 827 30 = true := by decide +kernel
set_option maxRecDepth 100000 in
theorem kX7_layer_147 : pt_ckV YX7_layer 147 7 yX7_rimOf YX7_rimOf 860 862 36 = true := by decide +kernel
set_option maxRecDepth 100000 in
theorem kX7_around_118 : pt_ckV YX7_around 118 7 yX7_left YX7_left 844 846 34 = true := by decide +kernel
set_option maxRecDepth 100000 in
theorem kX7_rowOf_81 : pt_ckV YX7_rowOf 81 7 yX7_turnAt YX7_turnAt 793 795 27 = true := by decide +kernel
set_option maxRecDepth 100000 in
theorem kX7_least_144 : pt_ckV YX7_least 144 7 yX7_nextTo YX7_nextTo 864 866 37 = true := by decide +kernel
set_option maxRecDepth 100000 in
theorem kX7_least_154 : pt_ckV YX7_least 154 7 yX7_around YX7_around 892 894 41 = true := by decide +kernel
set_option maxRecDepth 100000 in
theorem kX7_least_157 : pt_ckV YX7_least 157 7 yX7_rowOf YX7_rowOf 896 898 42 = true := by decide +kernel
set_option maxRecDepth 100000 in
theorem kX7_least_161 : pt_ckS YX7_least 161 yX7_threesOf YX7_threesOf 900 901 = true := by decide +kernel
set_option maxRecDepth 100000 in
theorem kX7_least_164 : pt_ckS YX7_least 164 yX7_compare YX7_compare 903 904 = true := by decide +kernel
set_option maxRecDepth 100000 in
theorem kX7_codeOf_168 : pt_ckV YX7_codeOf 168 7 yX7_least YX7_least 888 890 40 = true := by decide +kernel
set_option maxRecDepth 100000 in
theorem kX7_codeOf_111 : pt_ckV YX7_codeOf 111 7 yX7_turnAll YX7_turnAll 805 807 28 = true := by decide +kernel
set_option maxRecDepth 100000 in
theorem kX7_codeOf_161 : pt_ckS YX7_codeOf 161 yX7_threesOf YX7_threesOf 900 901 = true := by decide +kernel
set_option maxRecDepth 100000 in
theorem kX7_codeOf_164 : pt_ckS YX7_codeOf 164 yX7_compare YX7_compare 903 904 = true := by decide +kernel
set_option maxRecDepth 100000 in
theorem kX7_code_141 : pt_ckV YX7_code 141 7 yX7_isLawful YX7_isLawful 825 827 30 = true := by decide +kernel
set_option maxRecDepth 100000 in
theorem kX7_code_171 : pt_ckV YX7_code 171 7 yX7_codeOf YX7_codeOf 884 886 39 = true := by decide +kernel
set_option maxRecDepth 100000 in
theorem kX7_code_161 : pt_ckS YX7_code 161 yX7_threesOf YX7_threesOf 900 901 = true := by decide +kernel
set_option maxRecDepth 100000 in
theorem kX7_octet_150 : pt_ckV YX7_octet 150 7 yX7_throwsIf YX7_throwsIf 872 874 38 = true := by decide +kernel
set_option maxRecDepth 100000 in
theorem kX7_fill_99 : pt_ckV YX7_fill 99 7 yX7_set YX7_set 766 768 24 = true := by decide +kernel
set_option maxRecDepth 100000 in
theorem kX7_named_85 : pt_ckS YX7_named 85 yX7_isSlot YX7_isSlot 753 754 = true := by decide +kernel
set_option maxRecDepth 100000 in
theorem kX7_named_141 : pt_ckV YX7_named 141 7 yX7_isLawful YX7_isLawful 825 827 30 = true := by decide +kernel
set_option maxRecDepth 100000 in
theorem kX7_named_171 : pt_ckV YX7_named 171 7 yX7_codeOf YX7_codeOf 884 886 39 = true := by decide +kernel
set_option maxRecDepth 100000 in
theorem kX7_named_177 : pt_ckV YX7_named 177 7 yX7_fill YX7_fill 914 916 43 = true := by decide +kernel
set_option maxRecDepth 100000 in
theorem kX7_like_141 : pt_ckV YX7_like 141 7 yX7_isLawful YX7_isLawful 825 827 30 = true := by decide +kernel
set_option maxRecDepth 100000 in
theorem kX7_like_168 : pt_ckV YX7_like 168 7 yX7_least YX7_least 888 890 40 = true := by decide +kernel
set_option maxRecDepth 100000 in
theorem kX7_like_161 : pt_ckS YX7_like 161 yX7_threesOf YX7_threesOf 900 901 = true := by decide +kernel
set_option maxRecDepth 100000 in
theorem kX7_like_164 : pt_ckS YX7_like 164 yX7_compare YX7_compare 903 904 = true := by decide +kernel
set_option maxRecDepth 100000 in
theorem kX7_like_111 : pt_ckV YX7_like 111 7 yX7_turnAll YX7_turnAll 805 807 28 = true := by decide +kernel
set_option maxRecDepth 100000 in
theorem kX7_swept_92 : pt_ckV YX7_swept 92 7 yX7_taken YX7_taken 760 762 23 = true := by decide +kernel
set_option maxRecDepth 100000 in
theorem kX7_swept_85 : pt_ckS YX7_swept 85 yX7_isSlot YX7_isSlot 753 754 = true := by decide +kernel
set_option maxRecDepth 100000 in
theorem kX7_swept_180 : pt_ckV YX7_swept 180 7 yX7_swap YX7_swap 926 928 44 = true := by decide +kernel
set_option maxRecDepth 100000 in
theorem kX7_swept_99 : pt_ckV YX7_swept 99 7 yX7_set YX7_set 766 768 24 = true := by decide +kernel
set_option maxRecDepth 100000 in
theorem kX7_isNext_183 : pt_ckV YX7_isNext 183 7 yX7_wasSwapped YX7_wasSwapped 942 944 47 = true := by decide +kernel
set_option maxRecDepth 100000 in
theorem kX7_isNext_118 : pt_ckV YX7_isNext 118 7 yX7_left YX7_left 844 846 34 = true := by decide +kernel
set_option maxRecDepth 100000 in
theorem kX7_sweep_89 : pt_ckV YX7_sweep 89 7 yX7_has YX7_has 749 751 22 = true := by decide +kernel
set_option maxRecDepth 100000 in
theorem kX7_sweep_187 : pt_ckV YX7_sweep 187 7 yX7_maySwap YX7_maySwap 934 936 45 = true := by decide +kernel
set_option maxRecDepth 100000 in
theorem kX7_sweep_180 : pt_ckV YX7_sweep 180 7 yX7_swap YX7_swap 926 928 44 = true := by decide +kernel
set_option maxRecDepth 100000 in
theorem kX7_maySwap_190 : pt_ckV YX7_maySwap 190 7 yX7_isNext YX7_isNext 938 940 46 = true := by decide +kernel
set_option maxRecDepth 100000 in
theorem kX7_isEmpty_144 : pt_ckV YX7_isEmpty 144 7 yX7_nextTo YX7_nextTo 864 866 37 = true := by decide +kernel
set_option maxRecDepth 100000 in
theorem kX7_isEmpty_118 : pt_ckV YX7_isEmpty 118 7 yX7_left YX7_left 844 846 34 = true := by decide +kernel
set_option maxRecDepth 100000 in
theorem kX7_figures_141 : pt_ckV YX7_figures 141 7 yX7_isLawful YX7_isLawful 825 827 30 = true := by decide +kernel
set_option maxRecDepth 100000 in
theorem kX7_figures_129 : pt_ckS YX7_figures 129 yX7_bits YX7_bits 833 834 = true := by decide +kernel
set_option maxRecDepth 100000 in
theorem kX7_figures_147 : pt_ckV YX7_figures 147 7 yX7_rimOf YX7_rimOf 860 862 36 = true := by decide +kernel
set_option maxRecDepth 100000 in
theorem kX7_figures_193 : pt_ckV YX7_figures 193 7 yX7_isEmpty YX7_isEmpty 950 952 48 = true := by decide +kernel
set_option maxRecDepth 100000 in
theorem kX7_lines_89 : pt_ckV YX7_lines 89 7 yX7_has YX7_has 749 751 22 = true := by decide +kernel
set_option maxRecDepth 100000 in
theorem kX7_lines_118 : pt_ckV YX7_lines 118 7 yX7_left YX7_left 844 846 34 = true := by decide +kernel
set_option maxRecDepth 100000 in
theorem kX7_inside_107 : pt_ckV YX7_inside 107 7 yX7_areThree YX7_areThree 789 791 26 = true := by decide +kernel
set_option maxRecDepth 100000 in
theorem kX7_inside_81 : pt_ckV YX7_inside 81 7 yX7_turnAt YX7_turnAt 793 795 27 = true := by decide +kernel
set_option maxRecDepth 100000 in
theorem kX7_byBits_161 : pt_ckS YX7_byBits 161 yX7_threesOf YX7_threesOf 900 901 = true := by decide +kernel
set_option maxRecDepth 100000 in
theorem kX7_byBits_99 : pt_ckV YX7_byBits 99 7 yX7_set YX7_set 766 768 24 = true := by decide +kernel
set_option maxRecDepth 100000 in
theorem kX7_find_161 : pt_ckS YX7_find 161 yX7_threesOf YX7_threesOf 900 901 = true := by decide +kernel
set_option maxRecDepth 100000 in
theorem kX7_find_196 : pt_ckV YX7_find 196 7 yX7_byBits YX7_byBits 970 972 50 = true := by decide +kernel
set_option maxRecDepth 100000 in
theorem kX7_find_137 : pt_ckV YX7_find 137 7 yX7_whyNot YX7_whyNot 829 831 31 = true := by decide +kernel
set_option maxRecDepth 100000 in
theorem kX7_find_171 : pt_ckV YX7_find 171 7 yX7_codeOf YX7_codeOf 884 886 39 = true := by decide +kernel
set_option maxRecDepth 100000 in
theorem kX7_find_157 : pt_ckV YX7_find 157 7 yX7_rowOf YX7_rowOf 896 898 42 = true := by decide +kernel
set_option maxRecDepth 100000 in
theorem kX7_find_164 : pt_ckS YX7_find 164 yX7_compare YX7_compare 903 904 = true := by decide +kernel
set_option maxRecDepth 100000 in
theorem kX7_kinds_199 : pt_ckV YX7_kinds 199 7 yX7_find YX7_find 966 968 49 = true := by decide +kernel
set_option maxRecDepth 100000 in
theorem kX7_kind_85 : pt_ckS YX7_kind 85 yX7_isSlot YX7_isSlot 753 754 = true := by decide +kernel
set_option maxRecDepth 100000 in
theorem kX7_kind_199 : pt_ckV YX7_kind 199 7 yX7_find YX7_find 966 968 49 = true := by decide +kernel
set_option maxRecDepth 100000 in
theorem kX7_kind_196 : pt_ckV YX7_kind 196 7 yX7_byBits YX7_byBits 970 972 50 = true := by decide +kernel
set_option maxRecDepth 100000 in
theorem kX7_kind_103 : pt_ckV YX7_kind 103 7 yX7_copy YX7_copy 773 775 25 = true := by decide +kernel
set_option maxRecDepth 100000 in
theorem kX7_which_141 : pt_ckV YX7_which 141 7 yX7_isLawful YX7_isLawful 825 827 30 = true := by decide +kernel
set_option maxRecDepth 100000 in
theorem kX7_which_199 : pt_ckV YX7_which 199 7 yX7_find YX7_find 966 968 49 = true := by decide +kernel
set_option maxRecDepth 100000 in
theorem kX7_which_171 : pt_ckV YX7_which 171 7 yX7_codeOf YX7_codeOf 884 886 39 = true := by decide +kernel
set_option maxRecDepth 100000 in
theorem kX7_which_161 : pt_ckS YX7_which 161 yX7_threesOf YX7_threesOf 900 901 = true := by decide +kernel
set_option maxRecDepth 100000 in
theorem kX7_which_196 : pt_ckV YX7_which 196 7 yX7_byBits YX7_byBits 970 972 50 = true := by decide +kernel
set_option maxRecDepth 100000 in
theorem kX7_which_157 : pt_ckV YX7_which 157 7 yX7_rowOf YX7_rowOf 896 898 42 = true := by decide +kernel
set_option maxRecDepth 100000 in
theorem kX7_which_164 : pt_ckS YX7_which 164 yX7_compare YX7_compare 903 904 = true := by decide +kernel
