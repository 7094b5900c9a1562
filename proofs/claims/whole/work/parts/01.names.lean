-- ===== PART A: goes FIRST, ahead of the names: the tables' words, and 'selects' of the private methods out of them =====
/-- a private method of a class that the tables say can be made, by its rows of tables_1 -/
def lw_okq (q : MethodName × Nat) : Prop := (q.1.cls ≠ "java/lang/invoke/MethodHandle" ∧ q.1.cls ≠ "java/lang/invoke/VarHandle") ∧ Cond.instantiable q.1.cls q.2 ∈ tables_1 ∧ Cond.privateMethod q.1 ∈ tables_1 ∧ Cond.instanceMethod q.1 ∈ tables_1
theorem lw_p0 : lw_okq (⟨"PointTables", "placeByTape", "(I)I"⟩, 12) := ⟨⟨by decide +kernel, by decide +kernel⟩, List.mem_of_getElem? (i := 18) (by decide +kernel), List.mem_of_getElem? (i := 162) (by decide +kernel), List.mem_of_getElem? (i := 163) (by decide +kernel)⟩
theorem lw_p1 : lw_okq (⟨"PointTables", "readPlaces", "(I)Z"⟩, 12) := ⟨⟨by decide +kernel, by decide +kernel⟩, List.mem_of_getElem? (i := 18) (by decide +kernel), List.mem_of_getElem? (i := 172) (by decide +kernel), List.mem_of_getElem? (i := 173) (by decide +kernel)⟩
theorem lw_p2 : lw_okq (⟨"PointTables", "placeSpare", "(I)I"⟩, 12) := ⟨⟨by decide +kernel, by decide +kernel⟩, List.mem_of_getElem? (i := 18) (by decide +kernel), List.mem_of_getElem? (i := 187) (by decide +kernel), List.mem_of_getElem? (i := 188) (by decide +kernel)⟩
theorem lw_p3 : lw_okq (⟨"PointTables$Table", "putOne", "(IIIZ)V"⟩, 6) := ⟨⟨by decide +kernel, by decide +kernel⟩, List.mem_of_getElem? (i := 27) (by decide +kernel), List.mem_of_getElem? (i := 206) (by decide +kernel), List.mem_of_getElem? (i := 207) (by decide +kernel)⟩
theorem lw_p4 : lw_okq (⟨"PointTables", "keepSpare", "(I)V"⟩, 12) := ⟨⟨by decide +kernel, by decide +kernel⟩, List.mem_of_getElem? (i := 18) (by decide +kernel), List.mem_of_getElem? (i := 210) (by decide +kernel), List.mem_of_getElem? (i := 211) (by decide +kernel)⟩
theorem lw_p5 : lw_okq (⟨"PointTables", "tableByTape", "(II)Z"⟩, 12) := ⟨⟨by decide +kernel, by decide +kernel⟩, List.mem_of_getElem? (i := 18) (by decide +kernel), List.mem_of_getElem? (i := 222) (by decide +kernel), List.mem_of_getElem? (i := 223) (by decide +kernel)⟩
theorem lw_p6 : lw_okq (⟨"PointTables", "tableAt", "(I)LPointTables$Table;"⟩, 12) := ⟨⟨by decide +kernel, by decide +kernel⟩, List.mem_of_getElem? (i := 18) (by decide +kernel), List.mem_of_getElem? (i := 243) (by decide +kernel), List.mem_of_getElem? (i := 244) (by decide +kernel)⟩
theorem lw_p7 : lw_okq (⟨"PointTables", "renameByTape", "(II)Z"⟩, 12) := ⟨⟨by decide +kernel, by decide +kernel⟩, List.mem_of_getElem? (i := 18) (by decide +kernel), List.mem_of_getElem? (i := 277) (by decide +kernel), List.mem_of_getElem? (i := 278) (by decide +kernel)⟩
theorem lw_p8 : lw_okq (⟨"PointTables", "lawfulAt", "(I)LPointTables$Table;"⟩, 12) := ⟨⟨by decide +kernel, by decide +kernel⟩, List.mem_of_getElem? (i := 18) (by decide +kernel), List.mem_of_getElem? (i := 323) (by decide +kernel), List.mem_of_getElem? (i := 324) (by decide +kernel)⟩
theorem lw_p9 : lw_okq (⟨"PointTables$Coder", "findFirstRow", "(LPointTables$Table;Z[I)V"⟩, 1) := ⟨⟨by decide +kernel, by decide +kernel⟩, List.mem_of_getElem? (i := 79) (by decide +kernel), List.mem_of_getElem? (i := 368) (by decide +kernel), List.mem_of_getElem? (i := 369) (by decide +kernel)⟩
theorem lw_p10 : lw_okq (⟨"PointTables$Coder", "nameBy", "(LPointTables$Table;IZ)V"⟩, 1) := ⟨⟨by decide +kernel, by decide +kernel⟩, List.mem_of_getElem? (i := 79) (by decide +kernel), List.mem_of_getElem? (i := 376) (by decide +kernel), List.mem_of_getElem? (i := 377) (by decide +kernel)⟩
theorem lw_p11 : lw_okq (⟨"PointTables$Coder", "offerRow", "(LPointTables$Table;Z[I)V"⟩, 1) := ⟨⟨by decide +kernel, by decide +kernel⟩, List.mem_of_getElem? (i := 79) (by decide +kernel), List.mem_of_getElem? (i := 382) (by decide +kernel), List.mem_of_getElem? (i := 383) (by decide +kernel)⟩
theorem lw_p12 : lw_okq (⟨"PointTables", "setOut", "([II)V"⟩, 12) := ⟨⟨by decide +kernel, by decide +kernel⟩, List.mem_of_getElem? (i := 18) (by decide +kernel), List.mem_of_getElem? (i := 394) (by decide +kernel), List.mem_of_getElem? (i := 395) (by decide +kernel)⟩
theorem lw_p13 : lw_okq (⟨"PointTables", "sweptByTape", "(II)Z"⟩, 12) := ⟨⟨by decide +kernel, by decide +kernel⟩, List.mem_of_getElem? (i := 18) (by decide +kernel), List.mem_of_getElem? (i := 418) (by decide +kernel), List.mem_of_getElem? (i := 419) (by decide +kernel)⟩
theorem lw_p14 : lw_okq (⟨"PointTables$Sweeper", "begin", "(I)V"⟩, 4) := ⟨⟨by decide +kernel, by decide +kernel⟩, List.mem_of_getElem? (i := 89) (by decide +kernel), List.mem_of_getElem? (i := 429) (by decide +kernel), List.mem_of_getElem? (i := 430) (by decide +kernel)⟩
theorem lw_p15 : lw_okq (⟨"PointTables$Sweeper", "swapAt", "(I)V"⟩, 4) := ⟨⟨by decide +kernel, by decide +kernel⟩, List.mem_of_getElem? (i := 89) (by decide +kernel), List.mem_of_getElem? (i := 434) (by decide +kernel), List.mem_of_getElem? (i := 435) (by decide +kernel)⟩
def lw_privs_1 : List (MethodName × Nat) := [(⟨"PointTables", "placeByTape", "(I)I"⟩, 12), (⟨"PointTables", "readPlaces", "(I)Z"⟩, 12), (⟨"PointTables", "placeSpare", "(I)I"⟩, 12), (⟨"PointTables$Table", "putOne", "(IIIZ)V"⟩, 6), (⟨"PointTables", "keepSpare", "(I)V"⟩, 12), (⟨"PointTables", "tableByTape", "(II)Z"⟩, 12), (⟨"PointTables", "tableAt", "(I)LPointTables$Table;"⟩, 12), (⟨"PointTables", "renameByTape", "(II)Z"⟩, 12), (⟨"PointTables", "lawfulAt", "(I)LPointTables$Table;"⟩, 12), (⟨"PointTables$Coder", "findFirstRow", "(LPointTables$Table;Z[I)V"⟩, 1), (⟨"PointTables$Coder", "nameBy", "(LPointTables$Table;IZ)V"⟩, 1), (⟨"PointTables$Coder", "offerRow", "(LPointTables$Table;Z[I)V"⟩, 1), (⟨"PointTables", "setOut", "([II)V"⟩, 12), (⟨"PointTables", "sweptByTape", "(II)Z"⟩, 12), (⟨"PointTables$Sweeper", "begin", "(I)V"⟩, 4), (⟨"PointTables$Sweeper", "swapAt", "(I)V"⟩, 4)]
theorem lw_r1 : ∀ q ∈ lw_privs_1, lw_okq q := List.forall_mem_cons.mpr ⟨lw_p0, List.forall_mem_cons.mpr ⟨lw_p1, List.forall_mem_cons.mpr ⟨lw_p2, List.forall_mem_cons.mpr ⟨lw_p3, List.forall_mem_cons.mpr ⟨lw_p4, List.forall_mem_cons.mpr ⟨lw_p5, List.forall_mem_cons.mpr ⟨lw_p6, List.forall_mem_cons.mpr ⟨lw_p7, List.forall_mem_cons.mpr ⟨lw_p8, List.forall_mem_cons.mpr ⟨lw_p9, List.forall_mem_cons.mpr ⟨lw_p10, List.forall_mem_cons.mpr ⟨lw_p11, List.forall_mem_cons.mpr ⟨lw_p12, List.forall_mem_cons.mpr ⟨lw_p13, List.forall_mem_cons.mpr ⟨lw_p14, List.forall_mem_cons.mpr ⟨lw_p15, fun _ h => absurd h List.not_mem_nil⟩⟩⟩⟩⟩⟩⟩⟩⟩⟩⟩⟩⟩⟩⟩⟩
theorem lw_p16 : lw_okq (⟨"PointTables$Sweeper", "leastPlace", "(LPointTables$Table;)I"⟩, 4) := ⟨⟨by decide +kernel, by decide +kernel⟩, List.mem_of_getElem? (i := 89) (by decide +kernel), List.mem_of_getElem? (i := 452) (by decide +kernel), List.mem_of_getElem? (i := 453) (by decide +kernel)⟩
theorem lw_p17 : lw_okq (⟨"PointTables$Sweeper", "isDue", "(LPointTables$Table;II)Z"⟩, 4) := ⟨⟨by decide +kernel, by decide +kernel⟩, List.mem_of_getElem? (i := 89) (by decide +kernel), List.mem_of_getElem? (i := 456) (by decide +kernel), List.mem_of_getElem? (i := 457) (by decide +kernel)⟩
theorem lw_p18 : lw_okq (⟨"PointTables$Sweeper", "isDueWith", "(LPointTables$Table;III)Z"⟩, 4) := ⟨⟨by decide +kernel, by decide +kernel⟩, List.mem_of_getElem? (i := 89) (by decide +kernel), List.mem_of_getElem? (i := 460) (by decide +kernel), List.mem_of_getElem? (i := 461) (by decide +kernel)⟩
theorem lw_p19 : lw_okq (⟨"PointTables$Sweeper", "areSwapped", "(II)Z"⟩, 4) := ⟨⟨by decide +kernel, by decide +kernel⟩, List.mem_of_getElem? (i := 89) (by decide +kernel), List.mem_of_getElem? (i := 464) (by decide +kernel), List.mem_of_getElem? (i := 465) (by decide +kernel)⟩
theorem lw_p20 : lw_okq (⟨"java/lang/Throwable", "fillInStackTrace", "(I)Ljava/lang/Throwable;"⟩, 6) := ⟨⟨by decide +kernel, by decide +kernel⟩, List.mem_of_getElem? (i := 565) (by decide +kernel), List.mem_of_getElem? (i := 563) (by decide +kernel), List.mem_of_getElem? (i := 564) (by decide +kernel)⟩
theorem lw_p21 : lw_okq (⟨"PointTablesModel", "four", "(I)V"⟩, 21) := ⟨⟨by decide +kernel, by decide +kernel⟩, List.mem_of_getElem? (i := 608) (by decide +kernel), List.mem_of_getElem? (i := 687) (by decide +kernel), List.mem_of_getElem? (i := 688) (by decide +kernel)⟩
theorem lw_p22 : lw_okq (⟨"PointTablesModel", "has", "(I)Z"⟩, 21) := ⟨⟨by decide +kernel, by decide +kernel⟩, List.mem_of_getElem? (i := 608) (by decide +kernel), List.mem_of_getElem? (i := 699) (by decide +kernel), List.mem_of_getElem? (i := 700) (by decide +kernel)⟩
theorem lw_p23 : lw_okq (⟨"PointTablesModel", "taken", "()V"⟩, 21) := ⟨⟨by decide +kernel, by decide +kernel⟩, List.mem_of_getElem? (i := 608) (by decide +kernel), List.mem_of_getElem? (i := 710) (by decide +kernel), List.mem_of_getElem? (i := 711) (by decide +kernel)⟩
theorem lw_p24 : lw_okq (⟨"PointTablesModel", "set", "(IIIII)V"⟩, 21) := ⟨⟨by decide +kernel, by decide +kernel⟩, List.mem_of_getElem? (i := 608) (by decide +kernel), List.mem_of_getElem? (i := 716) (by decide +kernel), List.mem_of_getElem? (i := 717) (by decide +kernel)⟩
theorem lw_p25 : lw_okq (⟨"PointTablesModel", "copy", "(II)V"⟩, 21) := ⟨⟨by decide +kernel, by decide +kernel⟩, List.mem_of_getElem? (i := 608) (by decide +kernel), List.mem_of_getElem? (i := 723) (by decide +kernel), List.mem_of_getElem? (i := 724) (by decide +kernel)⟩
theorem lw_p26 : lw_okq (⟨"PointTablesModel", "areThree", "(IIII)Z"⟩, 21) := ⟨⟨by decide +kernel, by decide +kernel⟩, List.mem_of_getElem? (i := 608) (by decide +kernel), List.mem_of_getElem? (i := 739) (by decide +kernel), List.mem_of_getElem? (i := 740) (by decide +kernel)⟩
theorem lw_p27 : lw_okq (⟨"PointTablesModel", "turnAt", "(IIII)I"⟩, 21) := ⟨⟨by decide +kernel, by decide +kernel⟩, List.mem_of_getElem? (i := 608) (by decide +kernel), List.mem_of_getElem? (i := 743) (by decide +kernel), List.mem_of_getElem? (i := 744) (by decide +kernel)⟩
theorem lw_p28 : lw_okq (⟨"PointTablesModel", "turnAll", "(I)V"⟩, 21) := ⟨⟨by decide +kernel, by decide +kernel⟩, List.mem_of_getElem? (i := 608) (by decide +kernel), List.mem_of_getElem? (i := 755) (by decide +kernel), List.mem_of_getElem? (i := 756) (by decide +kernel)⟩
theorem lw_p29 : lw_okq (⟨"PointTablesModel", "pick", "(III)V"⟩, 21) := ⟨⟨by decide +kernel, by decide +kernel⟩, List.mem_of_getElem? (i := 608) (by decide +kernel), List.mem_of_getElem? (i := 763) (by decide +kernel), List.mem_of_getElem? (i := 764) (by decide +kernel)⟩
theorem lw_p30 : lw_okq (⟨"PointTablesModel", "isLawful", "(I)Z"⟩, 21) := ⟨⟨by decide +kernel, by decide +kernel⟩, List.mem_of_getElem? (i := 608) (by decide +kernel), List.mem_of_getElem? (i := 775) (by decide +kernel), List.mem_of_getElem? (i := 776) (by decide +kernel)⟩
theorem lw_p31 : lw_okq (⟨"PointTablesModel", "whyNot", "(II)I"⟩, 21) := ⟨⟨by decide +kernel, by decide +kernel⟩, List.mem_of_getElem? (i := 608) (by decide +kernel), List.mem_of_getElem? (i := 779) (by decide +kernel), List.mem_of_getElem? (i := 780) (by decide +kernel)⟩
def lw_privs_2 : List (MethodName × Nat) := [(⟨"PointTables$Sweeper", "leastPlace", "(LPointTables$Table;)I"⟩, 4), (⟨"PointTables$Sweeper", "isDue", "(LPointTables$Table;II)Z"⟩, 4), (⟨"PointTables$Sweeper", "isDueWith", "(LPointTables$Table;III)Z"⟩, 4), (⟨"PointTables$Sweeper", "areSwapped", "(II)Z"⟩, 4), (⟨"java/lang/Throwable", "fillInStackTrace", "(I)Ljava/lang/Throwable;"⟩, 6), (⟨"PointTablesModel", "four", "(I)V"⟩, 21), (⟨"PointTablesModel", "has", "(I)Z"⟩, 21), (⟨"PointTablesModel", "taken", "()V"⟩, 21), (⟨"PointTablesModel", "set", "(IIIII)V"⟩, 21), (⟨"PointTablesModel", "copy", "(II)V"⟩, 21), (⟨"PointTablesModel", "areThree", "(IIII)Z"⟩, 21), (⟨"PointTablesModel", "turnAt", "(IIII)I"⟩, 21), (⟨"PointTablesModel", "turnAll", "(I)V"⟩, 21), (⟨"PointTablesModel", "pick", "(III)V"⟩, 21), (⟨"PointTablesModel", "isLawful", "(I)Z"⟩, 21), (⟨"PointTablesModel", "whyNot", "(II)I"⟩, 21)]
theorem lw_r2 : ∀ q ∈ lw_privs_2, lw_okq q := List.forall_mem_cons.mpr ⟨lw_p16, List.forall_mem_cons.mpr ⟨lw_p17, List.forall_mem_cons.mpr ⟨lw_p18, List.forall_mem_cons.mpr ⟨lw_p19, List.forall_mem_cons.mpr ⟨lw_p20, List.forall_mem_cons.mpr ⟨lw_p21, List.forall_mem_cons.mpr ⟨lw_p22, List.forall_mem_cons.mpr ⟨lw_p23, List.forall_mem_cons.mpr ⟨lw_p24, List.forall_mem_cons.mpr ⟨lw_p25, List.forall_mem_cons.mpr ⟨lw_p26, List.forall_mem_cons.mpr ⟨lw_p27, List.forall_mem_cons.mpr ⟨lw_p28, List.forall_mem_cons.mpr ⟨lw_p29, List.forall_mem_cons.mpr ⟨lw_p30, List.forall_mem_cons.mpr ⟨lw_p31, fun _ h => absurd h List.not_mem_nil⟩⟩⟩⟩⟩⟩⟩⟩⟩⟩⟩⟩⟩⟩⟩⟩
theorem lw_p32 : lw_okq (⟨"PointTablesModel", "breaks", "(III)Z"⟩, 21) := ⟨⟨by decide +kernel, by decide +kernel⟩, List.mem_of_getElem? (i := 608) (by decide +kernel), List.mem_of_getElem? (i := 786) (by decide +kernel), List.mem_of_getElem? (i := 787) (by decide +kernel)⟩
theorem lw_p33 : lw_okq (⟨"PointTablesModel", "breaksFour", "(IIIII)Z"⟩, 21) := ⟨⟨by decide +kernel, by decide +kernel⟩, List.mem_of_getElem? (i := 608) (by decide +kernel), List.mem_of_getElem? (i := 790) (by decide +kernel), List.mem_of_getElem? (i := 791) (by decide +kernel)⟩
theorem lw_p34 : lw_okq (⟨"PointTablesModel", "left", "(IIII)Z"⟩, 21) := ⟨⟨by decide +kernel, by decide +kernel⟩, List.mem_of_getElem? (i := 608) (by decide +kernel), List.mem_of_getElem? (i := 794) (by decide +kernel), List.mem_of_getElem? (i := 795) (by decide +kernel)⟩
theorem lw_p35 : lw_okq (⟨"PointTablesModel", "breaksFive", "(IIIIII)Z"⟩, 21) := ⟨⟨by decide +kernel, by decide +kernel⟩, List.mem_of_getElem? (i := 608) (by decide +kernel), List.mem_of_getElem? (i := 798) (by decide +kernel), List.mem_of_getElem? (i := 799) (by decide +kernel)⟩
theorem lw_p36 : lw_okq (⟨"PointTablesModel", "rimOf", "(II)I"⟩, 21) := ⟨⟨by decide +kernel, by decide +kernel⟩, List.mem_of_getElem? (i := 608) (by decide +kernel), List.mem_of_getElem? (i := 810) (by decide +kernel), List.mem_of_getElem? (i := 811) (by decide +kernel)⟩
theorem lw_p37 : lw_okq (⟨"PointTablesModel", "nextTo", "(III)I"⟩, 21) := ⟨⟨by decide +kernel, by decide +kernel⟩, List.mem_of_getElem? (i := 608) (by decide +kernel), List.mem_of_getElem? (i := 814) (by decide +kernel), List.mem_of_getElem? (i := 815) (by decide +kernel)⟩
theorem lw_p38 : lw_okq (⟨"PointTablesModel", "throwsIf", "(Z)Z"⟩, 21) := ⟨⟨by decide +kernel, by decide +kernel⟩, List.mem_of_getElem? (i := 608) (by decide +kernel), List.mem_of_getElem? (i := 822) (by decide +kernel), List.mem_of_getElem? (i := 823) (by decide +kernel)⟩
theorem lw_p39 : lw_okq (⟨"PointTablesModel", "codeOf", "(II)V"⟩, 21) := ⟨⟨by decide +kernel, by decide +kernel⟩, List.mem_of_getElem? (i := 608) (by decide +kernel), List.mem_of_getElem? (i := 834) (by decide +kernel), List.mem_of_getElem? (i := 835) (by decide +kernel)⟩
theorem lw_p40 : lw_okq (⟨"PointTablesModel", "least", "(II[I)V"⟩, 21) := ⟨⟨by decide +kernel, by decide +kernel⟩, List.mem_of_getElem? (i := 608) (by decide +kernel), List.mem_of_getElem? (i := 838) (by decide +kernel), List.mem_of_getElem? (i := 839) (by decide +kernel)⟩
theorem lw_p41 : lw_okq (⟨"PointTablesModel", "around", "(III)V"⟩, 21) := ⟨⟨by decide +kernel, by decide +kernel⟩, List.mem_of_getElem? (i := 608) (by decide +kernel), List.mem_of_getElem? (i := 842) (by decide +kernel), List.mem_of_getElem? (i := 843) (by decide +kernel)⟩
theorem lw_p42 : lw_okq (⟨"PointTablesModel", "rowOf", "(II[I)V"⟩, 21) := ⟨⟨by decide +kernel, by decide +kernel⟩, List.mem_of_getElem? (i := 608) (by decide +kernel), List.mem_of_getElem? (i := 846) (by decide +kernel), List.mem_of_getElem? (i := 847) (by decide +kernel)⟩
theorem lw_p43 : lw_okq (⟨"PointTablesModel", "fill", "(II[I)V"⟩, 21) := ⟨⟨by decide +kernel, by decide +kernel⟩, List.mem_of_getElem? (i := 608) (by decide +kernel), List.mem_of_getElem? (i := 864) (by decide +kernel), List.mem_of_getElem? (i := 865) (by decide +kernel)⟩
theorem lw_p44 : lw_okq (⟨"PointTablesModel", "swap", "(II)V"⟩, 21) := ⟨⟨by decide +kernel, by decide +kernel⟩, List.mem_of_getElem? (i := 608) (by decide +kernel), List.mem_of_getElem? (i := 876) (by decide +kernel), List.mem_of_getElem? (i := 877) (by decide +kernel)⟩
theorem lw_p45 : lw_okq (⟨"PointTablesModel", "maySwap", "(III)Z"⟩, 21) := ⟨⟨by decide +kernel, by decide +kernel⟩, List.mem_of_getElem? (i := 608) (by decide +kernel), List.mem_of_getElem? (i := 884) (by decide +kernel), List.mem_of_getElem? (i := 885) (by decide +kernel)⟩
theorem lw_p46 : lw_okq (⟨"PointTablesModel", "isNext", "(IIII)Z"⟩, 21) := ⟨⟨by decide +kernel, by decide +kernel⟩, List.mem_of_getElem? (i := 608) (by decide +kernel), List.mem_of_getElem? (i := 888) (by decide +kernel), List.mem_of_getElem? (i := 889) (by decide +kernel)⟩
theorem lw_p47 : lw_okq (⟨"PointTablesModel", "wasSwapped", "(II)Z"⟩, 21) := ⟨⟨by decide +kernel, by decide +kernel⟩, List.mem_of_getElem? (i := 608) (by decide +kernel), List.mem_of_getElem? (i := 892) (by decide +kernel), List.mem_of_getElem? (i := 893) (by decide +kernel)⟩
def lw_privs_3 : List (MethodName × Nat) := [(⟨"PointTablesModel", "breaks", "(III)Z"⟩, 21), (⟨"PointTablesModel", "breaksFour", "(IIIII)Z"⟩, 21), (⟨"PointTablesModel", "left", "(IIII)Z"⟩, 21), (⟨"PointTablesModel", "breaksFive", "(IIIIII)Z"⟩, 21), (⟨"PointTablesModel", "rimOf", "(II)I"⟩, 21), (⟨"PointTablesModel", "nextTo", "(III)I"⟩, 21), (⟨"PointTablesModel", "throwsIf", "(Z)Z"⟩, 21), (⟨"PointTablesModel", "codeOf", "(II)V"⟩, 21), (⟨"PointTablesModel", "least", "(II[I)V"⟩, 21), (⟨"PointTablesModel", "around", "(III)V"⟩, 21), (⟨"PointTablesModel", "rowOf", "(II[I)V"⟩, 21), (⟨"PointTablesModel", "fill", "(II[I)V"⟩, 21), (⟨"PointTablesModel", "swap", "(II)V"⟩, 21), (⟨"PointTablesModel", "maySwap", "(III)Z"⟩, 21), (⟨"PointTablesModel", "isNext", "(IIII)Z"⟩, 21), (⟨"PointTablesModel", "wasSwapped", "(II)Z"⟩, 21)]
theorem lw_r3 : ∀ q ∈ lw_privs_3, lw_okq q := List.forall_mem_cons.mpr ⟨lw_p32, List.forall_mem_cons.mpr ⟨lw_p33, List.forall_mem_cons.mpr ⟨lw_p34, List.forall_mem_cons.mpr ⟨lw_p35, List.forall_mem_cons.mpr ⟨lw_p36, List.forall_mem_cons.mpr ⟨lw_p37, List.forall_mem_cons.mpr ⟨lw_p38, List.forall_mem_cons.mpr ⟨lw_p39, List.forall_mem_cons.mpr ⟨lw_p40, List.forall_mem_cons.mpr ⟨lw_p41, List.forall_mem_cons.mpr ⟨lw_p42, List.forall_mem_cons.mpr ⟨lw_p43, List.forall_mem_cons.mpr ⟨lw_p44, List.forall_mem_cons.mpr ⟨lw_p45, List.forall_mem_cons.mpr ⟨lw_p46, List.forall_mem_cons.mpr ⟨lw_p47, fun _ h => absurd h List.not_mem_nil⟩⟩⟩⟩⟩⟩⟩⟩⟩⟩⟩⟩⟩⟩⟩⟩
theorem lw_p48 : lw_okq (⟨"PointTablesModel", "isEmpty", "(III)Z"⟩, 21) := ⟨⟨by decide +kernel, by decide +kernel⟩, List.mem_of_getElem? (i := 608) (by decide +kernel), List.mem_of_getElem? (i := 900) (by decide +kernel), List.mem_of_getElem? (i := 901) (by decide +kernel)⟩
theorem lw_p49 : lw_okq (⟨"PointTablesModel", "find", "(I)V"⟩, 21) := ⟨⟨by decide +kernel, by decide +kernel⟩, List.mem_of_getElem? (i := 608) (by decide +kernel), List.mem_of_getElem? (i := 916) (by decide +kernel), List.mem_of_getElem? (i := 917) (by decide +kernel)⟩
theorem lw_p50 : lw_okq (⟨"PointTablesModel", "byBits", "(II)V"⟩, 21) := ⟨⟨by decide +kernel, by decide +kernel⟩, List.mem_of_getElem? (i := 608) (by decide +kernel), List.mem_of_getElem? (i := 920) (by decide +kernel), List.mem_of_getElem? (i := 921) (by decide +kernel)⟩
def lw_privs_4 : List (MethodName × Nat) := [(⟨"PointTablesModel", "isEmpty", "(III)Z"⟩, 21), (⟨"PointTablesModel", "find", "(I)V"⟩, 21), (⟨"PointTablesModel", "byBits", "(II)V"⟩, 21)]
theorem lw_r4 : ∀ q ∈ lw_privs_4, lw_okq q := List.forall_mem_cons.mpr ⟨lw_p48, List.forall_mem_cons.mpr ⟨lw_p49, List.forall_mem_cons.mpr ⟨lw_p50, fun _ h => absurd h List.not_mem_nil⟩⟩⟩
def lw_privs : List (MethodName × Nat) := lw_privs_1 ++ (lw_privs_2 ++ (lw_privs_3 ++ (lw_privs_4)))
def lw_tbl : List Cond := k2_sels lw_privs ++ tables_1
theorem lw_privs_ok : ∀ q ∈ lw_privs, lw_okq q := by
  show ∀ q ∈ lw_privs_1 ++ (lw_privs_2 ++ (lw_privs_3 ++ (lw_privs_4))), lw_okq q
  exact List.forall_mem_append.mpr ⟨lw_r1, List.forall_mem_append.mpr ⟨lw_r2, List.forall_mem_append.mpr ⟨lw_r3, lw_r4⟩⟩⟩
def RX0 : String := "PointTables$Coder"
def TX0 : u_T := fun k => match k with
  | _ => ("PointTables$Coder", "names", "[I", true)
def tyX0 : Nat → FieldType := fun k => match k with
  | _ => .array .int
abbrev wsX00 : List Cond := u_ws RX0 TX0 1
theorem nmX0 : ∀ a, a < 1 → ∀ b, b < 1 → a ≠ b → (TX0 a).2.1 ≠ (TX0 b).2.1 := by decide +kernel
theorem tyX0_ok : ∀ k, k < 1 → parseFieldDescriptor (TX0 k).2.2.1 = some (tyX0 k) := by decide +kernel
abbrev cX0_init : ByteArray := prog_2_method_1_code
def yX0_init : MethodName := ⟨RX0, "<init>", "()V"⟩
abbrev cX0_codeOf : ByteArray := prog_2_method_2_code
def yX0_codeOf : MethodName := ⟨RX0, "codeOf", "(LPointTables$Table;)[I"⟩
abbrev cX0_findFirstRows : ByteArray := prog_2_method_3_code
def yX0_findFirstRows : MethodName := ⟨RX0, "findFirstRows", "(LPointTables$Table;)V"⟩
abbrev cX0_findFirstRow : ByteArray := prog_2_method_4_code
def yX0_findFirstRow : MethodName := ⟨RX0, "findFirstRow", "(LPointTables$Table;Z[I)V"⟩
abbrev cX0_nameBy : ByteArray := prog_2_method_5_code
def yX0_nameBy : MethodName := ⟨RX0, "nameBy", "(LPointTables$Table;IZ)V"⟩
abbrev cX0_offerRow : ByteArray := prog_2_method_6_code
def yX0_offerRow : MethodName := ⟨RX0, "offerRow", "(LPointTables$Table;Z[I)V"⟩
abbrev cX0_compareRows : ByteArray := prog_2_method_7_code
def yX0_compareRows : MethodName := ⟨RX0, "compareRows", "([I[II)I"⟩
abbrev cX0_bitsOf : ByteArray := prog_2_method_8_code
def yX0_bitsOf : MethodName := ⟨RX0, "bitsOf", "([II)I"⟩
def RX1 : String := "PointTables$Laws"
def TX1 : u_T := fun k => match k with
  | _ => ("", "", "", false)
def tyX1 : Nat → FieldType := fun k => match k with
  | _ => .int
abbrev wsX10 : List Cond := u_ws RX1 TX1 0
theorem nmX1 : ∀ a, a < 0 → ∀ b, b < 0 → a ≠ b → (TX1 a).2.1 ≠ (TX1 b).2.1 := by decide +kernel
theorem tyX1_ok : ∀ k, k < 0 → parseFieldDescriptor (TX1 k).2.2.1 = some (tyX1 k) := by decide +kernel
abbrev cX1_faultOf : ByteArray := prog_3_method_2_code
def yX1_faultOf : MethodName := ⟨RX1, "faultOf", "(LPointTables$Table;)I"⟩
abbrev cX1_firstFour : ByteArray := prog_3_method_3_code
def yX1_firstFour : MethodName := ⟨RX1, "firstFour", "(LPointTables$Table;)I"⟩
abbrev cX1_breaksFour : ByteArray := prog_3_method_4_code
def yX1_breaksFour : MethodName := ⟨RX1, "breaksFour", "(LPointTables$Table;IIII)Z"⟩
abbrev cX1_firstFive : ByteArray := prog_3_method_5_code
def yX1_firstFive : MethodName := ⟨RX1, "firstFive", "(LPointTables$Table;)I"⟩
abbrev cX1_breaksFive : ByteArray := prog_3_method_6_code
def yX1_breaksFive : MethodName := ⟨RX1, "breaksFive", "(LPointTables$Table;IIIII)Z"⟩
abbrev cX1_isOneSided : ByteArray := prog_3_method_7_code
def yX1_isOneSided : MethodName := ⟨RX1, "isOneSided", "(LPointTables$Table;IIIII)Z"⟩
def RX2 : String := "PointTables$Rims"
def TX2 : u_T := fun k => match k with
  | _ => ("", "", "", false)
def tyX2 : Nat → FieldType := fun k => match k with
  | _ => .int
abbrev wsX20 : List Cond := u_ws RX2 TX2 0
theorem nmX2 : ∀ a, a < 0 → ∀ b, b < 0 → a ≠ b → (TX2 a).2.1 ≠ (TX2 b).2.1 := by decide +kernel
theorem tyX2_ok : ∀ k, k < 0 → parseFieldDescriptor (TX2 k).2.2.1 = some (tyX2 k) := by decide +kernel
abbrev cX2_isIn : ByteArray := prog_4_method_2_code
def yX2_isIn : MethodName := ⟨RX2, "isIn", "(II)Z"⟩
abbrev cX2_leastOf : ByteArray := prog_4_method_3_code
def yX2_leastOf : MethodName := ⟨RX2, "leastOf", "(LPointTables$Table;I)I"⟩
abbrev cX2_nextTo : ByteArray := prog_4_method_4_code
def yX2_nextTo : MethodName := ⟨RX2, "nextTo", "(LPointTables$Table;II)I"⟩
abbrev cX2_rimOf : ByteArray := prog_4_method_5_code
def yX2_rimOf : MethodName := ⟨RX2, "rimOf", "(LPointTables$Table;I)I"⟩
abbrev cX2_layerOf : ByteArray := prog_4_method_6_code
def yX2_layerOf : MethodName := ⟨RX2, "layerOf", "(LPointTables$Table;I)I"⟩
abbrev cX2_isFigure : ByteArray := prog_4_method_7_code
def yX2_isFigure : MethodName := ⟨RX2, "isFigure", "(LPointTables$Table;I)Z"⟩
abbrev cX2_insideOf : ByteArray := prog_4_method_8_code
def yX2_insideOf : MethodName := ⟨RX2, "insideOf", "(LPointTables$Table;I)I"⟩
def RX3 : String := "PointTables$Sweeper"
def TX3 : u_T := fun k => match k with
  | 0 => ("PointTables$Sweeper", "places", "[I", true)
  | 1 => ("PointTables$Sweeper", "order", "[I", true)
  | 2 => ("PointTables$Sweeper", "swapped", "[I", true)
  | _ => ("PointTables$Sweeper", "steps", "[I", true)
def tyX3 : Nat → FieldType := fun k => match k with
  | 0 => .array .int
  | 1 => .array .int
  | 2 => .array .int
  | _ => .array .int
abbrev wsX30 : List Cond := u_ws RX3 TX3 4
theorem nmX3 : ∀ a, a < 4 → ∀ b, b < 4 → a ≠ b → (TX3 a).2.1 ≠ (TX3 b).2.1 := by decide +kernel
theorem tyX3_ok : ∀ k, k < 4 → parseFieldDescriptor (TX3 k).2.2.1 = some (tyX3 k) := by decide +kernel
abbrev cX3_init : ByteArray := prog_5_method_1_code
def yX3_init : MethodName := ⟨RX3, "<init>", "()V"⟩
abbrev cX3_read : ByteArray := prog_5_method_2_code
def yX3_read : MethodName := ⟨RX3, "read", "(LPointTables$Tape;I)Z"⟩
abbrev cX3_fill : ByteArray := prog_5_method_3_code
def yX3_fill : MethodName := ⟨RX3, "fill", "(LPointTables$Table;I)V"⟩
abbrev cX3_find : ByteArray := prog_5_method_4_code
def yX3_find : MethodName := ⟨RX3, "find", "(LPointTables$Table;)Z"⟩
abbrev cX3_begin : ByteArray := prog_5_method_5_code
def yX3_begin : MethodName := ⟨RX3, "begin", "(I)V"⟩
abbrev cX3_swapAt : ByteArray := prog_5_method_6_code
def yX3_swapAt : MethodName := ⟨RX3, "swapAt", "(I)V"⟩
abbrev cX3_leastPlace : ByteArray := prog_5_method_7_code
def yX3_leastPlace : MethodName := ⟨RX3, "leastPlace", "(LPointTables$Table;)I"⟩
abbrev cX3_isDue : ByteArray := prog_5_method_8_code
def yX3_isDue : MethodName := ⟨RX3, "isDue", "(LPointTables$Table;II)Z"⟩
abbrev cX3_isDueWith : ByteArray := prog_5_method_9_code
def yX3_isDueWith : MethodName := ⟨RX3, "isDueWith", "(LPointTables$Table;III)Z"⟩
abbrev cX3_areSwapped : ByteArray := prog_5_method_10_code
def yX3_areSwapped : MethodName := ⟨RX3, "areSwapped", "(II)Z"⟩
def RX4 : String := "PointTables$Table"
def TX4 : u_T := fun k => match k with
  | 0 => ("PointTables$Table", "size", "I", false)
  | 1 => ("PointTables$Table", "lefts", "[I", true)
  | 2 => ("PointTables$Table", "fault", "I", false)
  | 3 => ("PointTables$Table", "firstRowsKnown", "Z", false)
  | 4 => ("PointTables$Table", "firstRow", "[I", true)
  | _ => ("PointTables$Table", "firstMirrorRow", "[I", true)
def tyX4 : Nat → FieldType := fun k => match k with
  | 0 => .int
  | 1 => .array .int
  | 2 => .int
  | 3 => .boolean
  | 4 => .array .int
  | _ => .array .int
abbrev wsX40 : List Cond := u_ws RX4 TX4 6
theorem nmX4 : ∀ a, a < 6 → ∀ b, b < 6 → a ≠ b → (TX4 a).2.1 ≠ (TX4 b).2.1 := by decide +kernel
theorem tyX4_ok : ∀ k, k < 6 → parseFieldDescriptor (TX4 k).2.2.1 = some (tyX4 k) := by decide +kernel
abbrev cX4_init : ByteArray := prog_6_method_1_code
def yX4_init : MethodName := ⟨RX4, "<init>", "()V"⟩
abbrev cX4_begin : ByteArray := prog_6_method_2_code
def yX4_begin : MethodName := ⟨RX4, "begin", "(I)V"⟩
abbrev cX4_forget : ByteArray := prog_6_method_3_code
def yX4_forget : MethodName := ⟨RX4, "forget", "()V"⟩
abbrev cX4_everyPoint : ByteArray := prog_6_method_4_code
def yX4_everyPoint : MethodName := ⟨RX4, "everyPoint", "()I"⟩
abbrev cX4_hasPoint : ByteArray := prog_6_method_5_code
def yX4_hasPoint : MethodName := ⟨RX4, "hasPoint", "(I)Z"⟩
abbrev cX4_hasThree : ByteArray := prog_6_method_6_code
def yX4_hasThree : MethodName := ⟨RX4, "hasThree", "(III)Z"⟩
abbrev cX4_leftOf : ByteArray := prog_6_method_7_code
def yX4_leftOf : MethodName := ⟨RX4, "leftOf", "(II)I"⟩
abbrev cX4_isLeft : ByteArray := prog_6_method_8_code
def yX4_isLeft : MethodName := ⟨RX4, "isLeft", "(III)Z"⟩
abbrev cX4_put : ByteArray := prog_6_method_9_code
def yX4_put : MethodName := ⟨RX4, "put", "(IIIZ)V"⟩
abbrev cX4_putOne : ByteArray := prog_6_method_10_code
def yX4_putOne : MethodName := ⟨RX4, "putOne", "(IIIZ)V"⟩
abbrev cX4_takeRow : ByteArray := prog_6_method_11_code
def yX4_takeRow : MethodName := ⟨RX4, "takeRow", "(I[I)V"⟩
abbrev cX4_takeTurns : ByteArray := prog_6_method_12_code
def yX4_takeTurns : MethodName := ⟨RX4, "takeTurns", "(LPointTables$Table;[IIZ)V"⟩
def RX5 : String := "PointTables$Tape"
def TX5 : u_T := fun k => match k with
  | 0 => ("PointTables$Tape", "bytes", "[I", true)
  | _ => ("PointTables$Tape", "length", "I", false)
def tyX5 : Nat → FieldType := fun k => match k with
  | 0 => .array .int
  | _ => .int
abbrev wsX50 : List Cond := u_ws RX5 TX5 2
theorem nmX5 : ∀ a, a < 2 → ∀ b, b < 2 → a ≠ b → (TX5 a).2.1 ≠ (TX5 b).2.1 := by decide +kernel
theorem tyX5_ok : ∀ k, k < 2 → parseFieldDescriptor (TX5 k).2.2.1 = some (tyX5 k) := by decide +kernel
abbrev cX5_init : ByteArray := prog_7_method_1_code
def yX5_init : MethodName := ⟨RX5, "<init>", "()V"⟩
abbrev cX5_addNumber : ByteArray := prog_7_method_2_code
def yX5_addNumber : MethodName := ⟨RX5, "addNumber", "(I)V"⟩
abbrev cX5_byteAt : ByteArray := prog_7_method_3_code
def yX5_byteAt : MethodName := ⟨RX5, "byteAt", "(I)I"⟩
abbrev cX5_shortAt : ByteArray := prog_7_method_4_code
def yX5_shortAt : MethodName := ⟨RX5, "shortAt", "(I)I"⟩
abbrev cX5_hasBit : ByteArray := prog_7_method_5_code
def yX5_hasBit : MethodName := ⟨RX5, "hasBit", "(I)Z"⟩
def RX6 : String := "PointTables"
def TX6 : u_T := fun k => match k with
  | 0 => ("PointTables", "slots", "[LPointTables$Table;", true)
  | 1 => ("PointTables", "spare", "LPointTables$Table;", false)
  | 2 => ("PointTables", "tape", "LPointTables$Tape;", true)
  | 3 => ("PointTables", "coder", "LPointTables$Coder;", true)
  | 4 => ("PointTables", "sweeper", "LPointTables$Sweeper;", true)
  | 5 => ("PointTables", "out", "[I", true)
  | 6 => ("PointTables", "outLength", "I", false)
  | 7 => ("PointTables", "onLine", "I", false)
  | 8 => ("PointTables", "xs", "[I", true)
  | 9 => ("PointTables", "ys", "[I", true)
  | 10 => ("PointTables", "origins", "[I", true)
  | _ => ("PointTables", "row", "[I", true)
def tyX6 : Nat → FieldType := fun k => match k with
  | 0 => .array (.object "PointTables$Table")
  | 1 => .object "PointTables$Table"
  | 2 => .object "PointTables$Tape"
  | 3 => .object "PointTables$Coder"
  | 4 => .object "PointTables$Sweeper"
  | 5 => .array .int
  | 6 => .int
  | 7 => .int
  | 8 => .array .int
  | 9 => .array .int
  | 10 => .array .int
  | _ => .array .int
abbrev wsX60 : List Cond := u_ws RX6 TX6 12
theorem nmX6 : ∀ a, a < 12 → ∀ b, b < 12 → a ≠ b → (TX6 a).2.1 ≠ (TX6 b).2.1 := by decide +kernel
theorem tyX6_ok : ∀ k, k < 12 → parseFieldDescriptor (TX6 k).2.2.1 = some (tyX6 k) := by decide +kernel
abbrev cX6_init : ByteArray := prog_1_method_1_code
def yX6_init : MethodName := ⟨RX6, "<init>", "()V"⟩
abbrev cX6_feed : ByteArray := prog_1_method_2_code
def yX6_feed : MethodName := ⟨RX6, "feed", "(IIIII)I"⟩
abbrev cX6_end : ByteArray := prog_1_method_3_code
def yX6_end : MethodName := ⟨RX6, "end", "(I)Z"⟩
abbrev cX6_place : ByteArray := prog_1_method_4_code
def yX6_place : MethodName := ⟨RX6, "place", "(I)I"⟩
abbrev cX6_placeByTape : ByteArray := prog_1_method_5_code
def yX6_placeByTape : MethodName := ⟨RX6, "placeByTape", "(I)I"⟩
abbrev cX6_readPlaces : ByteArray := prog_1_method_6_code
def yX6_readPlaces : MethodName := ⟨RX6, "readPlaces", "(I)Z"⟩
abbrev cX6_placeSpare : ByteArray := prog_1_method_7_code
def yX6_placeSpare : MethodName := ⟨RX6, "placeSpare", "(I)I"⟩
abbrev cX6_line : ByteArray := prog_1_method_8_code
def yX6_line : MethodName := ⟨RX6, "line", "()I"⟩
abbrev cX6_table : ByteArray := prog_1_method_9_code
def yX6_table : MethodName := ⟨RX6, "table", "(II)Z"⟩
abbrev cX6_tableByTape : ByteArray := prog_1_method_10_code
def yX6_tableByTape : MethodName := ⟨RX6, "tableByTape", "(II)Z"⟩
abbrev cX6_turn : ByteArray := prog_1_method_11_code
def yX6_turn : MethodName := ⟨RX6, "turn", "(IIII)I"⟩
abbrev cX6_flip : ByteArray := prog_1_method_12_code
def yX6_flip : MethodName := ⟨RX6, "flip", "(IIII)Z"⟩
abbrev cX6_mirror : ByteArray := prog_1_method_13_code
def yX6_mirror : MethodName := ⟨RX6, "mirror", "(II)Z"⟩
abbrev cX6_rename : ByteArray := prog_1_method_14_code
def yX6_rename : MethodName := ⟨RX6, "rename", "(II)Z"⟩
abbrev cX6_renameByTape : ByteArray := prog_1_method_15_code
def yX6_renameByTape : MethodName := ⟨RX6, "renameByTape", "(II)Z"⟩
abbrev cX6_without : ByteArray := prog_1_method_16_code
def yX6_without : MethodName := ⟨RX6, "without", "(III)Z"⟩
abbrev cX6_lawful : ByteArray := prog_1_method_17_code
def yX6_lawful : MethodName := ⟨RX6, "lawful", "(I)I"⟩
abbrev cX6_why : ByteArray := prog_1_method_18_code
def yX6_why : MethodName := ⟨RX6, "why", "(I)I"⟩
abbrev cX6_rim : ByteArray := prog_1_method_19_code
def yX6_rim : MethodName := ⟨RX6, "rim", "(I)I"⟩
abbrev cX6_onRim : ByteArray := prog_1_method_20_code
def yX6_onRim : MethodName := ⟨RX6, "onRim", "(II)I"⟩
abbrev cX6_layer : ByteArray := prog_1_method_21_code
def yX6_layer : MethodName := ⟨RX6, "layer", "(II)I"⟩
abbrev cX6_code : ByteArray := prog_1_method_22_code
def yX6_code : MethodName := ⟨RX6, "code", "(I)I"⟩
abbrev cX6_named : ByteArray := prog_1_method_23_code
def yX6_named : MethodName := ⟨RX6, "named", "(II)Z"⟩
abbrev cX6_like : ByteArray := prog_1_method_24_code
def yX6_like : MethodName := ⟨RX6, "like", "(II)I"⟩
abbrev cX6_swept : ByteArray := prog_1_method_25_code
def yX6_swept : MethodName := ⟨RX6, "swept", "(II)Z"⟩
abbrev cX6_sweptByTape : ByteArray := prog_1_method_26_code
def yX6_sweptByTape : MethodName := ⟨RX6, "sweptByTape", "(II)Z"⟩
abbrev cX6_sweep : ByteArray := prog_1_method_27_code
def yX6_sweep : MethodName := ⟨RX6, "sweep", "(I)I"⟩
abbrev cX6_octet : ByteArray := prog_1_method_28_code
def yX6_octet : MethodName := ⟨RX6, "octet", "(I)I"⟩
abbrev cX6_figures : ByteArray := prog_1_method_29_code
def yX6_figures : MethodName := ⟨RX6, "figures", "(IIZ)I"⟩
abbrev cX6_lines : ByteArray := prog_1_method_30_code
def yX6_lines : MethodName := ⟨RX6, "lines", "(II)I"⟩
abbrev cX6_inside : ByteArray := prog_1_method_31_code
def yX6_inside : MethodName := ⟨RX6, "inside", "(IIIII)I"⟩
abbrev cX6_kinds : ByteArray := prog_1_method_32_code
def yX6_kinds : MethodName := ⟨RX6, "kinds", "(I)I"⟩
abbrev cX6_kind : ByteArray := prog_1_method_33_code
def yX6_kind : MethodName := ⟨RX6, "kind", "(III)Z"⟩
abbrev cX6_which : ByteArray := prog_1_method_34_code
def yX6_which : MethodName := ⟨RX6, "which", "(I)I"⟩
abbrev cX6_points : ByteArray := prog_1_method_35_code
def yX6_points : MethodName := ⟨RX6, "points", "(I)I"⟩
abbrev cX6_isSlot : ByteArray := prog_1_method_36_code
def yX6_isSlot : MethodName := ⟨RX6, "isSlot", "(I)Z"⟩
abbrev cX6_isSize : ByteArray := prog_1_method_37_code
def yX6_isSize : MethodName := ⟨RX6, "isSize", "(I)Z"⟩
abbrev cX6_turnsOf : ByteArray := prog_1_method_38_code
def yX6_turnsOf : MethodName := ⟨RX6, "turnsOf", "(I)I"⟩
abbrev cX6_swapsOf : ByteArray := prog_1_method_39_code
def yX6_swapsOf : MethodName := ⟨RX6, "swapsOf", "(I)I"⟩
abbrev cX6_kindsOf : ByteArray := prog_1_method_40_code
def yX6_kindsOf : MethodName := ⟨RX6, "kindsOf", "(I)[I"⟩
abbrev cX6_tableAt : ByteArray := prog_1_method_41_code
def yX6_tableAt : MethodName := ⟨RX6, "tableAt", "(I)LPointTables$Table;"⟩
abbrev cX6_lawfulAt : ByteArray := prog_1_method_42_code
def yX6_lawfulAt : MethodName := ⟨RX6, "lawfulAt", "(I)LPointTables$Table;"⟩
abbrev cX6_keepSpare : ByteArray := prog_1_method_43_code
def yX6_keepSpare : MethodName := ⟨RX6, "keepSpare", "(I)V"⟩
abbrev cX6_setOut : ByteArray := prog_1_method_44_code
def yX6_setOut : MethodName := ⟨RX6, "setOut", "([II)V"⟩
def RX7 : String := "PointTablesModel"
def TX7 : u_T := fun k => match k with
  | 0 => ("PointTablesModel", "thrown", "I", false)
  | 1 => ("PointTablesModel", "tape", "[B", true)
  | 2 => ("PointTablesModel", "length", "I", false)
  | 3 => ("PointTablesModel", "size", "I", false)
  | 4 => ("PointTablesModel", "many", "[I", true)
  | 5 => ("PointTablesModel", "turns", "[I", true)
  | 6 => ("PointTablesModel", "px", "[J", true)
  | 7 => ("PointTablesModel", "py", "[J", true)
  | 8 => ("PointTablesModel", "onLine", "I", false)
  | 9 => ("PointTablesModel", "is", "[I", true)
  | 10 => ("PointTablesModel", "some", "[I", true)
  | 11 => ("PointTablesModel", "row", "[I", true)
  | 12 => ("PointTablesModel", "best", "[I", true)
  | 13 => ("PointTablesModel", "mirrored", "[I", true)
  | 14 => ("PointTablesModel", "first", "[I", true)
  | 15 => ("PointTablesModel", "out", "[B", true)
  | 16 => ("PointTablesModel", "outMany", "I", false)
  | 17 => ("PointTablesModel", "order", "[I", true)
  | 18 => ("PointTablesModel", "when", "[I", true)
  | 19 => ("PointTablesModel", "kindMany", "[I", true)
  | _ => ("PointTablesModel", "kindBits", "[I", true)
def tyX7 : Nat → FieldType := fun k => match k with
  | 0 => .int
  | 1 => .array .byte
  | 2 => .int
  | 3 => .int
  | 4 => .array .int
  | 5 => .array .int
  | 6 => .array .long
  | 7 => .array .long
  | 8 => .int
  | 9 => .array .int
  | 10 => .array .int
  | 11 => .array .int
  | 12 => .array .int
  | 13 => .array .int
  | 14 => .array .int
  | 15 => .array .byte
  | 16 => .int
  | 17 => .array .int
  | 18 => .array .int
  | 19 => .array .int
  | _ => .array .int
abbrev wsX70 : List Cond := u_ws RX7 TX7 21
theorem nmX7 : ∀ a, a < 21 → ∀ b, b < 21 → a ≠ b → (TX7 a).2.1 ≠ (TX7 b).2.1 := by decide +kernel
theorem tyX7_ok : ∀ k, k < 21 → parseFieldDescriptor (TX7 k).2.2.1 = some (tyX7 k) := by decide +kernel
abbrev cX7_init : ByteArray := prog_9_method_1_code
def yX7_init : MethodName := ⟨RX7, "<init>", "()V"⟩
abbrev cX7_thrown : ByteArray := prog_9_method_2_code
def yX7_thrown : MethodName := ⟨RX7, "thrown", "()I"⟩
abbrev cX7_throwsIf : ByteArray := prog_9_method_3_code
def yX7_throwsIf : MethodName := ⟨RX7, "throwsIf", "(Z)Z"⟩
abbrev cX7_feed : ByteArray := prog_9_method_4_code
def yX7_feed : MethodName := ⟨RX7, "feed", "(IIIII)I"⟩
abbrev cX7_four : ByteArray := prog_9_method_5_code
def yX7_four : MethodName := ⟨RX7, "four", "(I)V"⟩
abbrev cX7_end : ByteArray := prog_9_method_6_code
def yX7_end : MethodName := ⟨RX7, "end", "(I)Z"⟩
abbrev cX7_taken : ByteArray := prog_9_method_7_code
def yX7_taken : MethodName := ⟨RX7, "taken", "()V"⟩
abbrev cX7_three : ByteArray := prog_9_method_8_code
def yX7_three : MethodName := ⟨RX7, "three", "(III)I"⟩
abbrev cX7_turnAt : ByteArray := prog_9_method_9_code
def yX7_turnAt : MethodName := ⟨RX7, "turnAt", "(IIII)I"⟩
abbrev cX7_left : ByteArray := prog_9_method_10_code
def yX7_left : MethodName := ⟨RX7, "left", "(IIII)Z"⟩
abbrev cX7_set : ByteArray := prog_9_method_11_code
def yX7_set : MethodName := ⟨RX7, "set", "(IIIII)V"⟩
abbrev cX7_isSlot : ByteArray := prog_9_method_12_code
def yX7_isSlot : MethodName := ⟨RX7, "isSlot", "(I)Z"⟩
abbrev cX7_has : ByteArray := prog_9_method_13_code
def yX7_has : MethodName := ⟨RX7, "has", "(I)Z"⟩
abbrev cX7_copy : ByteArray := prog_9_method_14_code
def yX7_copy : MethodName := ⟨RX7, "copy", "(II)V"⟩
abbrev cX7_points : ByteArray := prog_9_method_15_code
def yX7_points : MethodName := ⟨RX7, "points", "(I)I"⟩
abbrev cX7_place : ByteArray := prog_9_method_16_code
def yX7_place : MethodName := ⟨RX7, "place", "(I)I"⟩
abbrev cX7_line : ByteArray := prog_9_method_17_code
def yX7_line : MethodName := ⟨RX7, "line", "()I"⟩
abbrev cX7_table : ByteArray := prog_9_method_18_code
def yX7_table : MethodName := ⟨RX7, "table", "(II)Z"⟩
abbrev cX7_areThree : ByteArray := prog_9_method_19_code
def yX7_areThree : MethodName := ⟨RX7, "areThree", "(IIII)Z"⟩
abbrev cX7_turn : ByteArray := prog_9_method_20_code
def yX7_turn : MethodName := ⟨RX7, "turn", "(IIII)I"⟩
abbrev cX7_flip : ByteArray := prog_9_method_21_code
def yX7_flip : MethodName := ⟨RX7, "flip", "(IIII)Z"⟩
abbrev cX7_turnAll : ByteArray := prog_9_method_22_code
def yX7_turnAll : MethodName := ⟨RX7, "turnAll", "(I)V"⟩
abbrev cX7_mirror : ByteArray := prog_9_method_23_code
def yX7_mirror : MethodName := ⟨RX7, "mirror", "(II)Z"⟩
abbrev cX7_pick : ByteArray := prog_9_method_24_code
def yX7_pick : MethodName := ⟨RX7, "pick", "(III)V"⟩
abbrev cX7_rename : ByteArray := prog_9_method_25_code
def yX7_rename : MethodName := ⟨RX7, "rename", "(II)Z"⟩
abbrev cX7_without : ByteArray := prog_9_method_26_code
def yX7_without : MethodName := ⟨RX7, "without", "(III)Z"⟩
abbrev cX7_breaksFour : ByteArray := prog_9_method_27_code
def yX7_breaksFour : MethodName := ⟨RX7, "breaksFour", "(IIIII)Z"⟩
abbrev cX7_breaksFive : ByteArray := prog_9_method_28_code
def yX7_breaksFive : MethodName := ⟨RX7, "breaksFive", "(IIIIII)Z"⟩
abbrev cX7_breaks : ByteArray := prog_9_method_29_code
def yX7_breaks : MethodName := ⟨RX7, "breaks", "(III)Z"⟩
abbrev cX7_bits : ByteArray := prog_9_method_30_code
def yX7_bits : MethodName := ⟨RX7, "bits", "(I)I"⟩
abbrev cX7_whyNot : ByteArray := prog_9_method_31_code
def yX7_whyNot : MethodName := ⟨RX7, "whyNot", "(II)I"⟩
abbrev cX7_isLawful : ByteArray := prog_9_method_32_code
def yX7_isLawful : MethodName := ⟨RX7, "isLawful", "(I)Z"⟩
abbrev cX7_lawful : ByteArray := prog_9_method_33_code
def yX7_lawful : MethodName := ⟨RX7, "lawful", "(I)I"⟩
abbrev cX7_why : ByteArray := prog_9_method_34_code
def yX7_why : MethodName := ⟨RX7, "why", "(I)I"⟩
abbrev cX7_nextTo : ByteArray := prog_9_method_35_code
def yX7_nextTo : MethodName := ⟨RX7, "nextTo", "(III)I"⟩
abbrev cX7_rimOf : ByteArray := prog_9_method_36_code
def yX7_rimOf : MethodName := ⟨RX7, "rimOf", "(II)I"⟩
abbrev cX7_rim : ByteArray := prog_9_method_37_code
def yX7_rim : MethodName := ⟨RX7, "rim", "(I)I"⟩
abbrev cX7_onRim : ByteArray := prog_9_method_38_code
def yX7_onRim : MethodName := ⟨RX7, "onRim", "(II)I"⟩
abbrev cX7_layer : ByteArray := prog_9_method_39_code
def yX7_layer : MethodName := ⟨RX7, "layer", "(II)I"⟩
abbrev cX7_threesOf : ByteArray := prog_9_method_40_code
def yX7_threesOf : MethodName := ⟨RX7, "threesOf", "(I)I"⟩
abbrev cX7_around : ByteArray := prog_9_method_41_code
def yX7_around : MethodName := ⟨RX7, "around", "(III)V"⟩
abbrev cX7_rowOf : ByteArray := prog_9_method_42_code
def yX7_rowOf : MethodName := ⟨RX7, "rowOf", "(II[I)V"⟩
abbrev cX7_compare : ByteArray := prog_9_method_43_code
def yX7_compare : MethodName := ⟨RX7, "compare", "([I[II)I"⟩
abbrev cX7_least : ByteArray := prog_9_method_44_code
def yX7_least : MethodName := ⟨RX7, "least", "(II[I)V"⟩
abbrev cX7_codeOf : ByteArray := prog_9_method_45_code
def yX7_codeOf : MethodName := ⟨RX7, "codeOf", "(II)V"⟩
abbrev cX7_code : ByteArray := prog_9_method_46_code
def yX7_code : MethodName := ⟨RX7, "code", "(I)I"⟩
abbrev cX7_octet : ByteArray := prog_9_method_47_code
def yX7_octet : MethodName := ⟨RX7, "octet", "(I)I"⟩
abbrev cX7_fill : ByteArray := prog_9_method_48_code
def yX7_fill : MethodName := ⟨RX7, "fill", "(II[I)V"⟩
abbrev cX7_named : ByteArray := prog_9_method_49_code
def yX7_named : MethodName := ⟨RX7, "named", "(II)Z"⟩
abbrev cX7_like : ByteArray := prog_9_method_50_code
def yX7_like : MethodName := ⟨RX7, "like", "(II)I"⟩
abbrev cX7_swept : ByteArray := prog_9_method_51_code
def yX7_swept : MethodName := ⟨RX7, "swept", "(II)Z"⟩
abbrev cX7_swap : ByteArray := prog_9_method_52_code
def yX7_swap : MethodName := ⟨RX7, "swap", "(II)V"⟩
abbrev cX7_wasSwapped : ByteArray := prog_9_method_53_code
def yX7_wasSwapped : MethodName := ⟨RX7, "wasSwapped", "(II)Z"⟩
abbrev cX7_isNext : ByteArray := prog_9_method_54_code
def yX7_isNext : MethodName := ⟨RX7, "isNext", "(IIII)Z"⟩
abbrev cX7_sweep : ByteArray := prog_9_method_55_code
def yX7_sweep : MethodName := ⟨RX7, "sweep", "(I)I"⟩
abbrev cX7_maySwap : ByteArray := prog_9_method_56_code
def yX7_maySwap : MethodName := ⟨RX7, "maySwap", "(III)Z"⟩
abbrev cX7_isEmpty : ByteArray := prog_9_method_57_code
def yX7_isEmpty : MethodName := ⟨RX7, "isEmpty", "(III)Z"⟩
abbrev cX7_figures : ByteArray := prog_9_method_58_code
def yX7_figures : MethodName := ⟨RX7, "figures", "(IIZ)I"⟩
abbrev cX7_lines : ByteArray := prog_9_method_59_code
def yX7_lines : MethodName := ⟨RX7, "lines", "(II)I"⟩
abbrev cX7_inside : ByteArray := prog_9_method_60_code
def yX7_inside : MethodName := ⟨RX7, "inside", "(IIIII)I"⟩
abbrev cX7_byBits : ByteArray := prog_9_method_61_code
def yX7_byBits : MethodName := ⟨RX7, "byBits", "(II)V"⟩
abbrev cX7_find : ByteArray := prog_9_method_62_code
def yX7_find : MethodName := ⟨RX7, "find", "(I)V"⟩
abbrev cX7_kinds : ByteArray := prog_9_method_63_code
def yX7_kinds : MethodName := ⟨RX7, "kinds", "(I)I"⟩
abbrev cX7_kind : ByteArray := prog_9_method_64_code
def yX7_kind : MethodName := ⟨RX7, "kind", "(III)Z"⟩
abbrev cX7_which : ByteArray := prog_9_method_65_code
def yX7_which : MethodName := ⟨RX7, "which", "(I)I"⟩
def RJ6 : String := "java/lang/Integer"
def TJ6 : u_T := fun k => match k with
  | _ => ("", "", "", false)
def tyJ6 : Nat → FieldType := fun k => match k with
  | _ => .int
abbrev wsJ60 : List Cond := u_ws RJ6 TJ6 0
theorem nmJ6 : ∀ a, a < 0 → ∀ b, b < 0 → a ≠ b → (TJ6 a).2.1 ≠ (TJ6 b).2.1 := by decide +kernel
theorem tyJ6_ok : ∀ k, k < 0 → parseFieldDescriptor (TJ6 k).2.2.1 = some (tyJ6 k) := by decide +kernel
abbrev cJ6_compare_7cf53 : ByteArray := prog_11_method_40_code
def yJ6_compare_7cf53 : MethodName := ⟨RJ6, "compare", "(II)I"⟩
abbrev cJ6_bitCount_0f7a4 : ByteArray := prog_11_method_49_code
def yJ6_bitCount_0f7a4 : MethodName := ⟨RJ6, "bitCount", "(I)I"⟩
def RJ9 : String := "java/lang/Math"
def TJ9 : u_T := fun k => match k with
  | _ => ("", "", "", false)
def tyJ9 : Nat → FieldType := fun k => match k with
  | _ => .int
abbrev wsJ90 : List Cond := u_ws RJ9 TJ9 0
theorem nmJ9 : ∀ a, a < 0 → ∀ b, b < 0 → a ≠ b → (TJ9 a).2.1 ≠ (TJ9 b).2.1 := by decide +kernel
theorem tyJ9_ok : ∀ k, k < 0 → parseFieldDescriptor (TJ9 k).2.2.1 = some (tyJ9 k) := by decide +kernel
abbrev cJ9_abs_0f7a4 : ByteArray := prog_12_method_59_code
def yJ9_abs_0f7a4 : MethodName := ⟨RJ9, "abs", "(I)I"⟩
abbrev cJ9_min_7cf53 : ByteArray := prog_12_method_69_code
def yJ9_min_7cf53 : MethodName := ⟨RJ9, "min", "(II)I"⟩
def RJ0 : String := "java/lang/String"
def TJ0 : u_T := fun k => match k with
  | _ => ("", "", "", false)
def tyJ0 : Nat → FieldType := fun k => match k with
  | _ => .int
abbrev wsJ00 : List Cond := u_ws RJ0 TJ0 0
theorem nmJ0 : ∀ a, a < 0 → ∀ b, b < 0 → a ≠ b → (TJ0 a).2.1 ≠ (TJ0 b).2.1 := by decide +kernel
theorem tyJ0_ok : ∀ k, k < 0 → parseFieldDescriptor (TJ0 k).2.2.1 = some (tyJ0 k) := by decide +kernel
def RJ10 : String := "java/lang/System"
def TJ10 : u_T := fun k => match k with
  | _ => ("", "", "", false)
def tyJ10 : Nat → FieldType := fun k => match k with
  | _ => .int
abbrev wsJ100 : List Cond := u_ws RJ10 TJ10 0
theorem nmJ10 : ∀ a, a < 0 → ∀ b, b < 0 → a ≠ b → (TJ10 a).2.1 ≠ (TJ10 b).2.1 := by decide +kernel
theorem tyJ10_ok : ∀ k, k < 0 → parseFieldDescriptor (TJ10 k).2.2.1 = some (tyJ10 k) := by decide +kernel
def RJ7 : String := "java/util/Arrays"
def TJ7 : u_T := fun k => match k with
  | _ => ("", "", "", false)
def tyJ7 : Nat → FieldType := fun k => match k with
  | _ => .int
abbrev wsJ70 : List Cond := u_ws RJ7 TJ7 0
theorem nmJ7 : ∀ a, a < 0 → ∀ b, b < 0 → a ≠ b → (TJ7 a).2.1 ≠ (TJ7 b).2.1 := by decide +kernel
theorem tyJ7_ok : ∀ k, k < 0 → parseFieldDescriptor (TJ7 k).2.2.1 = some (tyJ7 k) := by decide +kernel
abbrev cJ7_fill_53178 : ByteArray := prog_17_method_103_code
def yJ7_fill_53178 : MethodName := ⟨RJ7, "fill", "([II)V"⟩
def RL : String := "PointTablesLaw"
abbrev cL_onRim : ByteArray := method_3_code
def yL_onRim : MethodName := ⟨RL, "onRim", "(LPointTables;II[J)I"⟩
abbrev cL_octet : ByteArray := method_4_code
def yL_octet : MethodName := ⟨RL, "octet", "(LPointTables;I[J)I"⟩
abbrev cL_law : ByteArray := code
def yL_law : MethodName := ⟨RL, "law", "([I)Z"⟩
abbrev vwCl : List vw_C := [(RX0, TX0, 1), (RX3, TX3, 4), (RX4, TX4, 6), (RX5, TX5, 2), (RX6, TX6, 12), (RX7, TX7, 21)]
