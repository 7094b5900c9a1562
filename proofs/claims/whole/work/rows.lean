section
-- ===== PART A: goes FIRST, ahead of the names: the tables' words, and 'selects' of the private methods out of them =====
/-- a private method of a class that the tables say can be made, by its rows of tables_1 -/
def lw_okq (q : MethodName × Nat) : Prop := (q.1.cls ≠ "java/lang/invoke/MethodHandle" ∧ q.1.cls ≠ "java/lang/invoke/VarHandle") ∧ Cond.instantiable q.1.cls q.2 ∈ tables_1 ∧ Cond.privateMethod q.1 ∈ tables_1 ∧ Cond.instanceMethod q.1 ∈ tables_1
theorem lw_p0 : lw_okq (⟨"PointTables", "placeByTape", "(I)I"⟩, 12) := ⟨⟨by decide +kernel, by decide +kernel⟩, List.mem_of_getElem? (i := 18) (by decide +kernel), List.mem_of_getElem? (i := 162) (by decide +kernel), List.mem_of_getElem? (i := 163) (by decide +kernel)⟩
theorem lw_p1 : lw_okq (⟨"PointTables", "readPlaces", "(I)Z"⟩, 12) := ⟨⟨by decide +kernel, by decide +kernel⟩, List.mem_of_getElem? (i := 18) (by decide +kernel), List.mem_of_getElem? (i := 172) (by decide +kernel), List.mem_of_getElem? (i := 173) (by decide +kernel)⟩
theorem lw_p2 : lw_okq (⟨"PointTables", "placeSpare", "(I)I"⟩, 12) := ⟨⟨by decide +kernel, by decide +kernel⟩, List.mem_of_getElem? (i := 18) (by decide +kernel), List.mem_of_getElem? (i := 187) (by decide +kernel), List.mem_of_getElem? (i := 188) (by decide +kernel)⟩
theorem lw_p3 : lw_okq (⟨"PointTables$Table", "putOne", "(IIIZ)V"⟩, 6) := ⟨⟨by decide +kernel, by decide +kernel⟩, List.mem_of_getElem? (i := 27) (by decide +kernel), List.mem_of_getElem? (i := 206) (by decide +kernel), List.mem_of_getElem? (i := 207) (by decide +kernel)⟩
theorem lw_p4 : lw_okq (⟨"PointTables", "keepSpare", "(I)V"⟩, 12) := ⟨⟨by decide +kernel, by decide +kernel⟩, List.mem_of_getElem? (i := 18) (by decide +kernel), List.mem_of_getElem? (i := 210) (by decide +kernel), List.mem_of_getElem? (i := 211) (by decide +kernel)⟩
theorem lw_p5 : lw_okq (⟨"PointTables", "tableByTape", "(II)Z"⟩, 12) := ⟨⟨by decide +kernel, by decide +kernel⟩, List.mem_of_getElem? (i := 18) (by decide +kernel), List.mem_of_getElem? (i := 222) (by decide +kernel), List.mem_of_getElem? (i := 223) (by decide +kernel)⟩
theorem lw_p6 : lw_okq (⟨"PointTables", "tableAt", "(I)LPointTables$Table;"⟩, 12) := ⟨⟨by decide +kernel, by decide +kernel⟩, List.mem_of_getElem? (i := 18) (by decide +kernel), List.mem_of_getElem? (i := 243) (by decide +kernel), List.mem_of_getElem? (i := 244) (by decide +kernel)⟩
theorem lw_p7 : lw_okq (⟨"PointTables", "renameByTape", "(II)Z"⟩, 12) := ⟨⟨by decide +kernel, by decide +kernel⟩, List.mem_of_getElem? (i := 18) (by decide +kernel), List.mem_of_getElem? (i := 277) (by decide +kernel), List.mem_of_getElem? (i := 278) (by decide +kernel)⟩
theorem lw_p8 : lw_okq (⟨"PointTables", "lawfulAt", "(I)LPointTables$Table;"⟩, 12) := ⟨⟨by decide +kernel, by decide +kernel⟩, List.mem_of_getElem? (i := 18) (by decide +kernel), List.mem_of_getElem? (i := 323) (by decide +kernel), List.mem_of_getElem? (i := 324) (by decide +kernel)⟩
theorem lw_p9 : lw_okq (⟨"PointTables$Coder", "findFirstRow", "(LPointTables$Table;Z[I)V"⟩, 1) := ⟨⟨by decide +kernel, by decide +kernel⟩, List.mem_of_getElem? (i := 79) (by decide +kernel), List.mem_of_getElem? (i := 368) (by decide +kernel), List.mem_of_getElem? (i := 369) (by decide +kernel)⟩
theorem lw_p10 : lw_okq (⟨"PointTables$Coder", "nameBy", "(LPointTables$Table;IZ)V"⟩, 1) := ⟨⟨by decide +kernel, by decide +kernel⟩, List.mem_of_getElem? (i := 79) (by decide +kernel), List.mem_of_getElem? (i := 376) (by decide +kernel), List.mem_of_getElem? (i := 377) (by decide +kernel)⟩
theorem lw_p11 : lw_okq (⟨"PointTables$Coder", "offerRow", "(LPointTables$Table;Z[I)V"⟩, 1) := ⟨⟨by decide +kernel, by decide +kernel⟩, List.mem_of_getElem? (i := 79) (by decide +kernel), List.mem_of_getElem? (i := 382) (by decide +kernel), List.mem_of_getElem? (i := 383) (by decide +kernel)⟩
theorem lw_p12 : lw_okq (⟨"PointTables", "setOut", "([II)V"⟩, 12) := ⟨⟨by decide +kernel, by decide +kernel⟩, List.mem_of_getElem? (i := 18) (by decide +kernel), List.mem_of_getElem? (i := 394) (by decide +kernel), List.mem_of_getElem? (i := 395) (by decide +kernel)⟩
theorem lw_p13 : lw_okq (⟨"PointTables", "sweptByTape", "(II)Z"⟩, 12) := ⟨⟨by decide +kernel, by decide +kernel⟩, List.mem_of_getElem? (i := 18) (by decide +kernel), List.mem_of_getElem? (i := 418) (by decide +kernel), List.mem_of_getElem? (i := 419) (by decide +kernel)⟩
theorem lw_p14 : lw_okq (⟨"PointTables$Sweeper", "begin", "(I)V"⟩, 4) := ⟨⟨by decide +kernel, by decide +kernel⟩, List.mem_of_getElem? (i := 89) (by decide +kernel), List.mem_of_getElem? (i := 429) (by decide +kernel), List.mem_of_getElem? (i := 430) (by decide +kernel)⟩
theorem lw_p15 : lw_okq (⟨"PointTables$Sweeper", "swapAt", "(I)V"⟩, 4) := ⟨⟨by decide +kernel, by decide +kernel⟩, List.mem_of_getElem? (i := 89) (by decide +kernel), List.mem_of_getElem? (i := 434) (by decide +kernel), List.mem_of_getElem? (i := 435) (by decide +kernel)⟩
def lw_privs_1 : List (MethodName × Nat) := [(⟨"PointTables", "placeByTape", "(I)I"⟩, 12), (⟨"PointTables", "readPlaces", "(I)Z"⟩, 12), (⟨"PointTables", "placeSpare", "(I)I"⟩, 12), (⟨"PointTables$Table", "putOne", "(IIIZ)V"⟩, 6), (⟨"PointTables", "keepSpare", "(I)V"⟩, 12), (⟨"PointTables", "tableByTape", "(II)Z"⟩, 12), (⟨"PointTables", "tableAt", "(I)LPointTables$Table;"⟩, 12), (⟨"PointTables", "renameByTape", "(II)Z"⟩, 12), (⟨"PointTables", "lawfulAt", "(I)LPointTables$Table;"⟩, 12), (⟨"PointTables$Coder", "findFirstRow", "(LPointTables$Table;Z[I)V"⟩, 1), (⟨"PointTables$Coder", "nameBy", "(LPointTables$Table;IZ)V"⟩, 1), (⟨"PointTables$Coder", "offerRow", "(LPointTables$Table;Z[I)V"⟩, 1), (⟨"PointTables", "setOut", "([II)V"⟩, 12), (⟨"PointTables", "sweptByTape", "(II)Z"⟩, 12), (⟨"PointTables$Sweeper", "begin", "(I)V"⟩, 4), (⟨"PointTables$Sweeper", "swapAt", "(I)V"⟩, 4)]
theorem lw_r1 : ∀ q ∈ lw_privs_1, lw_okq q := List.forall_mem_cons.mpr ⟨lw_p0, List.forall_mem_cons.mpr ⟨lw_p1, List.forall_mem_cons.mpr ⟨lw_p2, List.forall_mem_cons.mpr ⟨lw_p3, List.forall_mem_cons.mpr ⟨lw_p4, List.forall_mem_cons.mpr ⟨lw_p5, List.forall_mem_cons.mpr ⟨lw_p6, List.forall_mem_cons.mpr ⟨lw_p7, List.forall_mem_cons.mpr ⟨lw_p8, List.forall_mem_cons.mpr ⟨lw_p9, List.forall_mem_cons.mpr ⟨lw_p10, List.forall_mem_cons.mpr ⟨lw_p11, List.forall_mem_cons.mpr ⟨lw_p12, List.forall_mem_cons.mpr ⟨lw_p13, List.forall_mem_cons.mpr ⟨lw_p14, List.forall_mem_cons.mpr ⟨lw_p15, fun _ h => absurd h List.not_mem_nil⟩⟩⟩⟩⟩⟩⟩⟩⟩⟩⟩⟩⟩⟩⟩⟩
theorem lw_p16 : lw_okq (⟨"PointTables$Sweeper", "leastPlace", "(LPointTables$Table;)I"⟩, 4) := ⟨⟨by decide +kernel, by decide +kernel⟩, List.mem_of_getElem? (i := 89) (by decide +kernel), List.mem_of_getElem? (i := 452) (by decide +kernel), List.mem_of_getElem? (i := 453) (by decide +kernel)⟩
theorem lw_p17 : lw_okq (⟨"PointTables$Sweeper", "isDue", "(LPointTables$Table;II)Z"⟩, 4) := ⟨⟨by decide +kernel, by decide +kernel⟩, List.mem_of_getElem? (i := 89) (by decide +kernel), List.mem_of_getElem? (i := 456) (by decide +kernel), List.mem_of_getElem? (i := 457) (by decide +kernel)⟩
theorem lw_p18 : lw_okq (⟨"PointTables$Sweeper", "isDueWith", "(LPointTables$Table;III)Z"⟩, 4) := ⟨⟨by decide +kernel, by decide +kernel⟩, List.mem_of_getElem? (i := 89) (by decide +kernel), List.mem_of_getElem? (i := 460) (by decide +kernel), List.mem_of_getElem? (i := 461) (by decide +kernel)⟩
theorem lw_p19 : lw_okq (⟨"PointTables$Sweeper", "areSwapped", "(II)Z"⟩, 4) := ⟨⟨by decide +kernel, by decide +kernel⟩, List.mem_of_getElem? (i := 89) (by decide +kernel), List.mem_of_getElem? (i := 464) (by decide +kernel), List.mem_of_getElem? (i := 465) (by decide +kernel)⟩
theorem lw_p20 : lw_okq (⟨"java/lang/Throwable", "fillInStackTrace", "(I)Ljava/lang/Throwable;"⟩, 6) := ⟨⟨by decide +kernel, by decide +kernel⟩, List.mem_of_getElem? (i := 565) (by decide +kernel), List.mem_of_getElem? (i := 563) (by decide +kernel), List.mem_of_getElem? (i := 564) (by decide +kernel)⟩
theorem lw_p21 : lw_okq (⟨"PointTablesModel", "four", "(I)V"⟩, 21) := ⟨⟨by decide +kernel, by decide +kernel⟩, List.mem_of_getElem? (i := 608) (by decide +kernel), List.mem_of_getElem? (i := 687) (by decide +kernel), List.mem_of_getElem? (i := 688) (by decide +kernel)⟩
theorem lw_p22 : lw_okq (⟨"PointTablesModel", "has", "(I)Z"⟩, 21) := ⟨⟨by decide +kernel, by decide +kernel⟩, List.mem_of_getElem? (i := 608) (by decide +kernel), List.mem_of_getElem? (i := 699) (by decide +kernel), List.mem_of_getElem? (i := 700) (by decide +kernel)⟩
theorem lw_p23 : lw_okq (⟨"PointTablesModel", "taken", "()V"⟩, 21) := ⟨⟨by decide +kernel, by decide +kernel⟩, List.mem_of_getElem? (i := 608) (by decide +kernel), List.mem_of_getElem? (i := 710) (by decide +kernel), List.mem_of_getElem? (i := 711) (by decide +kernel)⟩
theorem lw_p24 : lw_okq (⟨"PointTablesModel", "set", "(IIIII)V"⟩, 21) := ⟨⟨by decide +kernel, by decide +kernel⟩, List.mem_of_getElem? (i := 608) (by decide +kernel), List.mem_of_getElem? (i := 716) (by decide +kernel), List.mem_of_getElem? (i := 717) (by decide +kernel)⟩
theorem lw_p25 : lw_okq (⟨"PointTablesModel", "copy", "(II)V"⟩, 21) := ⟨⟨by decide +kernel, by decide +kernel⟩, List.mem_of_getElem? (i := 608) (by decide +kernel), List.mem_of_getElem? (i := 723) (by decide +kernel), List.mem_of_getElem? (i := 724) (by decide +kernel)⟩
theorem lw_p26 : lw_okq (⟨"PointTablesModel", "areThree", "(IIII)Z"⟩, 21) := ⟨⟨by decide +kernel, by decide +kernel⟩, List.mem_of_getElem? (i := 608) (by decide +kernel), List.mem_of_getElem? (i := 739) (by decide +kernel), List.mem_of_getElem? (i := 740) (by decide +kernel)⟩
theorem lw_p27 : lw_okq (⟨"PointTablesModel", "turnAt", "(IIII)I"⟩, 21) := ⟨⟨by decide +kernel, by decide +kernel⟩, List.mem_of_getElem? (i := 608) (by decide +kernel), List.mem_of_getElem? (i := 743) (by decide +kernel), List.mem_of_getElem? (i := 744) (by decide +kernel)⟩
theorem lw_p28 : lw_okq (⟨"PointTablesModel", "turnAll", "(I)V"⟩, 21) := ⟨⟨by decide +kernel, by decide +kernel⟩, List.mem_of_getElem? (i := 608) (by decide +kernel), List.mem_of_getElem? (i := 755) (by decide +kernel), List.mem_of_getElem? (i := 756) (by decide +kernel)⟩
theorem lw_p29 : lw_okq (⟨"PointTablesModel", "pick", "(III)V"⟩, 21) := ⟨⟨by decide +kernel, by decide +kernel⟩, List.mem_of_getElem? (i := 608) (by decide +kernel), List.mem_of_getElem? (i := 763) (by decide +kernel), List.mem_of_getElem? (i := 764) (by decide +kernel)⟩
theorem lw_p30 : lw_okq (⟨"PointTablesModel", "isLawful", "(I)Z"⟩, 21) := ⟨⟨by decide +kernel, by decide +kernel⟩, List.mem_of_getElem? (i := 608) (by decide +kernel), List.mem_of_getElem? (i := 775) (by decide +kernel), List.mem_of_getElem? (i := 776) (by decide +kernel)⟩
theorem lw_p31 : lw_okq (⟨"PointTablesModel", "whyNot", "(II)I"⟩, 21) := ⟨⟨by decide +kernel, by decide +kernel⟩, List.mem_of_getElem? (i := 608) (by decide +kernel), List.mem_of_getElem? (i := 779) (by decide +kernel), List.mem_of_getElem? (i := 780) (by decide +kernel)⟩
def lw_privs_2 : List (MethodName × Nat) := [(⟨"PointTables$Sweeper", "leastPlace", "(LPointTables$Table;)I"⟩, 4), (⟨"PointTables$Sweeper", "isDue", "(LPointTables$Table;II)Z"⟩, 4), (⟨"PointTables$Sweeper", "isDueWith", "(LPointTables$Table;III)Z"⟩, 4), (⟨"PointTables$Sweeper", "areSwapped", "(II)Z"⟩, 4), (⟨"java/lang/Throwable", "fillInStackTrace", "(I)Ljava/lang/Throwable;"⟩, 6), (⟨"PointTablesModel", "four", "(I)V"⟩, 21), (⟨"PointTablesModel", "has", "(I)Z"⟩, 21), (⟨"PointTablesModel", "taken", "()V"⟩, 21), (⟨"PointTablesModel", "set", "(IIIII)V"⟩, 21), (⟨"PointTablesModel", "copy", "(II)V"⟩, 21), (⟨"PointTablesModel", "areThree", "(IIII)Z"⟩, 21), (⟨"PointTablesModel", "turnAt", "(IIII)I"⟩, 21), (⟨"PointTablesModel", "turnAll", "(I)V"⟩, 21), (⟨"PointTablesModel", "pick", "(III)V"⟩, 21), (⟨"PointTablesModel", "isLawful", "(I)Z"⟩, 21), (⟨"PointTablesModel", "whyNot", "(II)I"⟩, 21)]
theorem lw_r2 : ∀ q ∈ lw_privs_2, lw_okq q := List.forall_mem_cons.mpr ⟨lw_p16, List.forall_mem_cons.mpr ⟨lw_p17, List.forall_mem_cons.mpr ⟨lw_p18, List.forall_mem_cons.mpr ⟨lw_p19, List.forall_mem_cons.mpr ⟨lw_p20, List.forall_mem_cons.mpr ⟨lw_p21, List.forall_mem_cons.mpr ⟨lw_p22, List.forall_mem_cons.mpr ⟨lw_p23, List.forall_mem_cons.mpr ⟨lw_p24, List.forall_mem_cons.mpr ⟨lw_p25, List.forall_mem_cons.mpr ⟨lw_p26, List.forall_mem_cons.mpr ⟨lw_p27, List.forall_mem_cons.mpr ⟨lw_p28, List.forall_mem_cons.mpr ⟨lw_p29, List.forall_mem_cons.mpr ⟨lw_p30, List.forall_mem_cons.mpr ⟨lw_p31, fun _ h => absurd h List.not_mem_nil⟩⟩⟩⟩⟩⟩⟩⟩⟩⟩⟩⟩⟩⟩⟩⟩
theorem lw_p32 : lw_okq (⟨"PointTablesModel", "breaks", "(III)Z"⟩, 21) := ⟨⟨by decide +kernel, by decide +kernel⟩, List.mem_of_getElem? (i := 608) (by decide +kernel), List.mem_of_getElem? (i := 786) (by decide +kernel), List.mem_of_getElem? (i := 787) (by decide +kernel)⟩
theorem lw_p33 : lw_okq (⟨"PointTablesModel", "breaksFour", "(IIIII)Z"⟩, 21) := ⟨⟨by decide +kernel, by decide +kernel⟩, List.mem_of_getElem? (i := 608) (by decide +kernel), List.mem_of_getElem? (i := 790) (by decide +kernel), List.mem_of_getElem? (i := 791) (by decide +kernel)⟩
theorem lw_p34 : lw_okq (⟨"PointTablesModel", "left", "(IIII)Z"⟩, 21) := ⟨⟨by decide +kernel, by decide +kernel⟩, List.mem_of_getElem? (i := 608) (by decide +kernel), List.mem_of_getElem? (i := 794) (by decide +kernel), List.mem_of_getElem? (i := 795) (by decide +kernel)⟩
theorem lw_p35 : lw_okq (⟨"PointTablesModel", "breaksFive", "(IIIIII)Z"⟩, 21) := ⟨⟨by decide +kernel, by decide +kernel⟩, List.mem_of_getElem? (i := 608) (by decide +kernel), List.mem_of_getElem? (i := 798) (by decide +kernel), List.mem_of_getElem? (i := 799) (by decide +kernel)⟩
theorem lw_p36 : lw_okq (⟨"PointTablesModel", "rimOf", "(II)I"⟩, 21) := ⟨⟨by decide +kernel, by decide +kernel⟩, List.mem_of_getElem? (i := 608) (by decide +kernel), List.mem_of_getElem? (i := 810) (by decide +kernel), List.mem_of_getElem? (i := 811) (by decide +kernel)⟩
theorem lw_p37 : lw_okq (⟨"PointTablesModel", "nextTo", "(III)I"⟩, 21) := ⟨⟨by decide +kernel, by decide +kernel⟩, List.mem_of_getElem? (i := 608) (by decide +kernel), List.mem_of_getElem? (i := 814) (by decide +kernel), List.mem_of_getElem? (i := 815) (by decide +kernel)⟩
theorem lw_p38 : lw_okq (⟨"PointTablesModel", "throwsIf", "(Z)Z"⟩, 21) := ⟨⟨by decide +kernel, by decide +kernel⟩, List.mem_of_getElem? (i := 608) (by decide +kernel), List.mem_of_getElem? (i := 822) (by decide +kernel), List.mem_of_getElem? (i := 823) (by decide +kernel)⟩
theorem lw_p39 : lw_okq (⟨"PointTablesModel", "codeOf", "(II)V"⟩, 21) := ⟨⟨by decide +kernel, by decide +kernel⟩, List.mem_of_getElem? (i := 608) (by decide +kernel), List.mem_of_getElem? (i := 834) (by decide +kernel), List.mem_of_getElem? (i := 835) (by decide +kernel)⟩
theorem lw_p40 : lw_okq (⟨"PointTablesModel", "least", "(II[I)V"⟩, 21) := ⟨⟨by decide +kernel, by decide +kernel⟩, List.mem_of_getElem? (i := 608) (by decide +kernel), List.mem_of_getElem? (i := 838) (by decide +kernel), List.mem_of_getElem? (i := 839) (by decide +kernel)⟩
theorem lw_p41 : lw_okq (⟨"PointTablesModel", "around", "(III)V"⟩, 21) := ⟨⟨by decide +kernel, by decide +kernel⟩, List.mem_of_getElem? (i := 608) (by decide +kernel), List.mem_of_getElem? (i := 842) (by decide +kernel), List.mem_of_getElem? (i := 843) (by decide +kernel)⟩
theorem lw_p42 : lw_okq (⟨"PointTablesModel", "rowOf", "(II[I)V"⟩, 21) := ⟨⟨by decide +kernel, by decide +kernel⟩, List.mem_of_getElem? (i := 608) (by decide +kernel), List.mem_of_getElem? (i := 846) (by decide +kernel), List.mem_of_getElem? (i := 847) (by decide +kernel)⟩
theorem lw_p43 : lw_okq (⟨"PointTablesModel", "fill", "(II[I)V"⟩, 21) := ⟨⟨by decide +kernel, by decide +kernel⟩, List.mem_of_getElem? (i := 608) (by decide +kernel), List.mem_of_getElem? (i := 864) (by decide +kernel), List.mem_of_getElem? (i := 865) (by decide +kernel)⟩
theorem lw_p44 : lw_okq (⟨"PointTablesModel", "swap", "(II)V"⟩, 21) := ⟨⟨by decide +kernel, by decide +kernel⟩, List.mem_of_getElem? (i := 608) (by decide +kernel), List.mem_of_getElem? (i := 876) (by decide +kernel), List.mem_of_getElem? (i := 877) (by decide +kernel)⟩
theorem lw_p45 : lw_okq (⟨"PointTablesModel", "maySwap", "(III)Z"⟩, 21) := ⟨⟨by decide +kernel, by decide +kernel⟩, List.mem_of_getElem? (i := 608) (by decide +kernel), List.mem_of_getElem? (i := 884) (by decide +kernel), List.mem_of_getElem? (i := 885) (by decide +kernel)⟩
theorem lw_p46 : lw_okq (⟨"PointTablesModel", "isNext", "(IIII)Z"⟩, 21) := ⟨⟨by decide +kernel, by decide +kernel⟩, List.mem_of_getElem? (i := 608) (by decide +kernel), List.mem_of_getElem? (i := 888) (by decide +kernel), List.mem_of_getElem? (i := 889) (by decide +kernel)⟩
theorem lw_p47 : lw_okq (⟨"PointTablesModel", "wasSwapped", "(II)Z"⟩, 21) := ⟨⟨by decide +kernel, by decide +kernel⟩, List.mem_of_getElem? (i := 608) (by decide +kernel), List.mem_of_getElem? (i := 892) (by decide +kernel), List.mem_of_getElem? (i := 893) (by decide +kernel)⟩
def lw_privs_3 : List (MethodName × Nat) := [(⟨"PointTablesModel", "breaks", "(III)Z"⟩, 21), (⟨"PointTablesModel", "breaksFour", "(IIIII)Z"⟩, 21), (⟨"PointTablesModel", "left", "(IIII)Z"⟩, 21), (⟨"PointTablesModel", "breaksFive", "(IIIIII)Z"⟩, 21), (⟨"PointTablesModel", "rimOf", "(II)I"⟩, 21), (⟨"PointTablesModel", "nextTo", "(III)I"⟩, 21), (⟨"PointTablesModel", "throwsIf", "(Z)Z"⟩, 21), (⟨"PointTablesModel", "codeOf", "(II)V"⟩, 21), (⟨"PointTablesModel", "least", "(II[I)V"⟩, 21), (⟨"PointTablesModel", "around", "(III)V"⟩, 21), (⟨"PointTablesModel", "rowOf", "(II[I)V"⟩, 21), (⟨"PointTablesModel", "fill", "(II[I)V"⟩, 21), (⟨"PointTablesModel", "swap", "(II)V"⟩, 21), (⟨"PointTablesModel", "maySwap", "(III)Z"⟩, 21), (⟨"PointTablesModel", "isNext", "(IIII)Z"⟩, 21), (⟨"PointTablesModel", "wasSwapped", "(II)Z"⟩, 21)]
theorem lw_r3 : ∀ q ∈ lw_privs_3, lw_okq q := List.forall_mem_cons.mpr ⟨lw_p32, List.forall_mem_cons.mpr ⟨lw_p33, List.forall_mem_cons.mpr ⟨lw_p34, List.forall_mem_cons.mpr ⟨lw_p35, List.forall_mem_cons.mpr ⟨lw_p36, List.forall_mem_cons.mpr ⟨lw_p37, List.forall_mem_cons.mpr ⟨lw_p38, List.forall_mem_cons.mpr ⟨lw_p39, List.forall_mem_cons.mpr ⟨lw_p40, List.forall_mem_cons.mpr ⟨lw_p41, List.forall_mem_cons.mpr ⟨lw_p42, List.forall_mem_cons.mpr ⟨lw_p43, List.forall_mem_cons.mpr ⟨lw_p44, List.forall_mem_cons.mpr ⟨lw_p45, List.forall_mem_cons.mpr ⟨lw_p46, List.forall_mem_cons.mpr ⟨lw_p47, fun _ h => absurd h List.not_mem_nil⟩⟩⟩⟩⟩⟩⟩⟩⟩⟩⟩⟩⟩⟩⟩⟩
theorem lw_p48 : lw_okq (⟨"PointTablesModel", "isEmpty", "(III)Z"⟩, 21) := ⟨⟨by decide +kernel, by decide +kernel⟩, List.mem_of_getElem? (i := 608) (by decide +kernel), List.mem_of_getElem? (i := 900) (by decide +kernel), List.mem_of_getElem? (i := 901) (by decide +kernel)⟩
theorem lw_p49 : lw_okq (⟨"PointTablesModel", "find", "(I)V"⟩, 21) := ⟨⟨by decide +kernel, by decide +kernel⟩, List.mem_of_getElem? (i := 608) (by decide +kernel), List.mem_of_getElem? (i := 916) (by decide +kernel), List.mem_of_getElem? (i := 917) (by decide +kernel)⟩
theorem lw_p50 : lw_okq (⟨"PointTablesModel", "byBits", "(II)V"⟩, 21) := ⟨⟨by decide +kernel, by decide +kernel⟩, List.mem_of_getElem? (i := 608) (by decide +kernel), List.mem_of_getElem? (i := 920) (by decide +kernel), List.mem_of_getElem? (i := 921) (by decide +kernel)⟩
def lw_privs_4 : List (MethodName × Nat) := [(⟨"PointTablesModel", "isEmpty", "(III)Z"⟩, 21), (⟨"PointTablesModel", "find", "(I)V"⟩, 21), (⟨"PointTablesModel", "byBits", "(II)V"⟩, 21)]
theorem lw_r4 : ∀ q ∈ lw_privs_4, lw_okq q := List.forall_mem_cons.mpr ⟨lw_p48, List.forall_mem_cons.mpr ⟨lw_p49, List.forall_mem_cons.mpr ⟨lw_p50, fun _ h => absurd h List.not_mem_nil⟩⟩⟩
def lw_privs : List (MethodName × Nat) := lw_privs_1 ++ (lw_privs_2 ++ (lw_privs_3 ++ (lw_privs_4)))
def lw_tbl : List Cond := k2_sels lw_privs ++ tables_1
theorem lw_privs_ok : ∀ q ∈ lw_privs, lw_okq q := by
  show ∀ q ∈ lw_privs_1 ++ (lw_privs_2 ++ (lw_privs_3 ++ (lw_privs_4))), lw_okq q
  exact List.forall_mem_append.mpr ⟨lw_r1, List.forall_mem_append.mpr ⟨lw_r2, List.forall_mem_append.mpr ⟨lw_r3, lw_r4⟩⟩⟩
def RX0 : String := "PointTables$Coder"
def TX0 : u_T := fun k => match k with
  | _ => ("PointTables$Coder", "names", "[I", true)
def tyX0 : Nat → FieldType := fun k => match k with
  | _ => .array .int
abbrev wsX00 : List Cond := u_ws RX0 TX0 1
theorem nmX0 : ∀ a, a < 1 → ∀ b, b < 1 → a ≠ b → (TX0 a).2.1 ≠ (TX0 b).2.1 := by decide +kernel
theorem tyX0_ok : ∀ k, k < 1 → parseFieldDescriptor (TX0 k).2.2.1 = some (tyX0 k) := by decide +kernel
abbrev cX0_init : ByteArray := prog_2_method_1_code
def yX0_init : MethodName := ⟨RX0, "<init>", "()V"⟩
abbrev cX0_codeOf : ByteArray := prog_2_method_2_code
def yX0_codeOf : MethodName := ⟨RX0, "codeOf", "(LPointTables$Table;)[I"⟩
abbrev cX0_findFirstRows : ByteArray := prog_2_method_3_code
def yX0_findFirstRows : MethodName := ⟨RX0, "findFirstRows", "(LPointTables$Table;)V"⟩
abbrev cX0_findFirstRow : ByteArray := prog_2_method_4_code
def yX0_findFirstRow : MethodName := ⟨RX0, "findFirstRow", "(LPointTables$Table;Z[I)V"⟩
abbrev cX0_nameBy : ByteArray := prog_2_method_5_code
def yX0_nameBy : MethodName := ⟨RX0, "nameBy", "(LPointTables$Table;IZ)V"⟩
abbrev cX0_offerRow : ByteArray := prog_2_method_6_code
def yX0_offerRow : MethodName := ⟨RX0, "offerRow", "(LPointTables$Table;Z[I)V"⟩
abbrev cX0_compareRows : ByteArray := prog_2_method_7_code
def yX0_compareRows : MethodName := ⟨RX0, "compareRows", "([I[II)I"⟩
abbrev cX0_bitsOf : ByteArray := prog_2_method_8_code
def yX0_bitsOf : MethodName := ⟨RX0, "bitsOf", "([II)I"⟩
def RX1 : String := "PointTables$Laws"
def TX1 : u_T := fun k => match k with
  | _ => ("", "", "", false)
def tyX1 : Nat → FieldType := fun k => match k with
  | _ => .int
abbrev wsX10 : List Cond := u_ws RX1 TX1 0
theorem nmX1 : ∀ a, a < 0 → ∀ b, b < 0 → a ≠ b → (TX1 a).2.1 ≠ (TX1 b).2.1 := by decide +kernel
theorem tyX1_ok : ∀ k, k < 0 → parseFieldDescriptor (TX1 k).2.2.1 = some (tyX1 k) := by decide +kernel
abbrev cX1_faultOf : ByteArray := prog_3_method_2_code
def yX1_faultOf : MethodName := ⟨RX1, "faultOf", "(LPointTables$Table;)I"⟩
abbrev cX1_firstFour : ByteArray := prog_3_method_3_code
def yX1_firstFour : MethodName := ⟨RX1, "firstFour", "(LPointTables$Table;)I"⟩
abbrev cX1_breaksFour : ByteArray := prog_3_method_4_code
def yX1_breaksFour : MethodName := ⟨RX1, "breaksFour", "(LPointTables$Table;IIII)Z"⟩
abbrev cX1_firstFive : ByteArray := prog_3_method_5_code
def yX1_firstFive : MethodName := ⟨RX1, "firstFive", "(LPointTables$Table;)I"⟩
abbrev cX1_breaksFive : ByteArray := prog_3_method_6_code
def yX1_breaksFive : MethodName := ⟨RX1, "breaksFive", "(LPointTables$Table;IIIII)Z"⟩
abbrev cX1_isOneSided : ByteArray := prog_3_method_7_code
def yX1_isOneSided : MethodName := ⟨RX1, "isOneSided", "(LPointTables$Table;IIIII)Z"⟩
def RX2 : String := "PointTables$Rims"
def TX2 : u_T := fun k => match k with
  | _ => ("", "", "", false)
def tyX2 : Nat → FieldType := fun k => match k with
  | _ => .int
abbrev wsX20 : List Cond := u_ws RX2 TX2 0
theorem nmX2 : ∀ a, a < 0 → ∀ b, b < 0 → a ≠ b → (TX2 a).2.1 ≠ (TX2 b).2.1 := by decide +kernel
theorem tyX2_ok : ∀ k, k < 0 → parseFieldDescriptor (TX2 k).2.2.1 = some (tyX2 k) := by decide +kernel
abbrev cX2_isIn : ByteArray := prog_4_method_2_code
def yX2_isIn : MethodName := ⟨RX2, "isIn", "(II)Z"⟩
abbrev cX2_leastOf : ByteArray := prog_4_method_3_code
def yX2_leastOf : MethodName := ⟨RX2, "leastOf", "(LPointTables$Table;I)I"⟩
abbrev cX2_nextTo : ByteArray := prog_4_method_4_code
def yX2_nextTo : MethodName := ⟨RX2, "nextTo", "(LPointTables$Table;II)I"⟩
abbrev cX2_rimOf : ByteArray := prog_4_method_5_code
def yX2_rimOf : MethodName := ⟨RX2, "rimOf", "(LPointTables$Table;I)I"⟩
abbrev cX2_layerOf : ByteArray := prog_4_method_6_code
def yX2_layerOf : MethodName := ⟨RX2, "layerOf", "(LPointTables$Table;I)I"⟩
abbrev cX2_isFigure : ByteArray := prog_4_method_7_code
def yX2_isFigure : MethodName := ⟨RX2, "isFigure", "(LPointTables$Table;I)Z"⟩
abbrev cX2_insideOf : ByteArray := prog_4_method_8_code
def yX2_insideOf : MethodName := ⟨RX2, "insideOf", "(LPointTables$Table;I)I"⟩
def RX3 : String := "PointTables$Sweeper"
def TX3 : u_T := fun k => match k with
  | 0 => ("PointTables$Sweeper", "places", "[I", true)
  | 1 => ("PointTables$Sweeper", "order", "[I", true)
  | 2 => ("PointTables$Sweeper", "swapped", "[I", true)
  | _ => ("PointTables$Sweeper", "steps", "[I", true)
def tyX3 : Nat → FieldType := fun k => match k with
  | 0 => .array .int
  | 1 => .array .int
  | 2 => .array .int
  | _ => .array .int
abbrev wsX30 : List Cond := u_ws RX3 TX3 4
theorem nmX3 : ∀ a, a < 4 → ∀ b, b < 4 → a ≠ b → (TX3 a).2.1 ≠ (TX3 b).2.1 := by decide +kernel
theorem tyX3_ok : ∀ k, k < 4 → parseFieldDescriptor (TX3 k).2.2.1 = some (tyX3 k) := by decide +kernel
abbrev cX3_init : ByteArray := prog_5_method_1_code
def yX3_init : MethodName := ⟨RX3, "<init>", "()V"⟩
abbrev cX3_read : ByteArray := prog_5_method_2_code
def yX3_read : MethodName := ⟨RX3, "read", "(LPointTables$Tape;I)Z"⟩
abbrev cX3_fill : ByteArray := prog_5_method_3_code
def yX3_fill : MethodName := ⟨RX3, "fill", "(LPointTables$Table;I)V"⟩
abbrev cX3_find : ByteArray := prog_5_method_4_code
def yX3_find : MethodName := ⟨RX3, "find", "(LPointTables$Table;)Z"⟩
abbrev cX3_begin : ByteArray := prog_5_method_5_code
def yX3_begin : MethodName := ⟨RX3, "begin", "(I)V"⟩
abbrev cX3_swapAt : ByteArray := prog_5_method_6_code
def yX3_swapAt : MethodName := ⟨RX3, "swapAt", "(I)V"⟩
abbrev cX3_leastPlace : ByteArray := prog_5_method_7_code
def yX3_leastPlace : MethodName := ⟨RX3, "leastPlace", "(LPointTables$Table;)I"⟩
abbrev cX3_isDue : ByteArray := prog_5_method_8_code
def yX3_isDue : MethodName := ⟨RX3, "isDue", "(LPointTables$Table;II)Z"⟩
abbrev cX3_isDueWith : ByteArray := prog_5_method_9_code
def yX3_isDueWith : MethodName := ⟨RX3, "isDueWith", "(LPointTables$Table;III)Z"⟩
abbrev cX3_areSwapped : ByteArray := prog_5_method_10_code
def yX3_areSwapped : MethodName := ⟨RX3, "areSwapped", "(II)Z"⟩
def RX4 : String := "PointTables$Table"
def TX4 : u_T := fun k => match k with
  | 0 => ("PointTables$Table", "size", "I", false)
  | 1 => ("PointTables$Table", "lefts", "[I", true)
  | 2 => ("PointTables$Table", "fault", "I", false)
  | 3 => ("PointTables$Table", "firstRowsKnown", "Z", false)
  | 4 => ("PointTables$Table", "firstRow", "[I", true)
  | _ => ("PointTables$Table", "firstMirrorRow", "[I", true)
def tyX4 : Nat → FieldType := fun k => match k with
  | 0 => .int
  | 1 => .array .int
  | 2 => .int
  | 3 => .boolean
  | 4 => .array .int
  | _ => .array .int
abbrev wsX40 : List Cond := u_ws RX4 TX4 6
theorem nmX4 : ∀ a, a < 6 → ∀ b, b < 6 → a ≠ b → (TX4 a).2.1 ≠ (TX4 b).2.1 := by decide +kernel
theorem tyX4_ok : ∀ k, k < 6 → parseFieldDescriptor (TX4 k).2.2.1 = some (tyX4 k) := by decide +kernel
abbrev cX4_init : ByteArray := prog_6_method_1_code
def yX4_init : MethodName := ⟨RX4, "<init>", "()V"⟩
abbrev cX4_begin : ByteArray := prog_6_method_2_code
def yX4_begin : MethodName := ⟨RX4, "begin", "(I)V"⟩
abbrev cX4_forget : ByteArray := prog_6_method_3_code
def yX4_forget : MethodName := ⟨RX4, "forget", "()V"⟩
abbrev cX4_everyPoint : ByteArray := prog_6_method_4_code
def yX4_everyPoint : MethodName := ⟨RX4, "everyPoint", "()I"⟩
abbrev cX4_hasPoint : ByteArray := prog_6_method_5_code
def yX4_hasPoint : MethodName := ⟨RX4, "hasPoint", "(I)Z"⟩
abbrev cX4_hasThree : ByteArray := prog_6_method_6_code
def yX4_hasThree : MethodName := ⟨RX4, "hasThree", "(III)Z"⟩
abbrev cX4_leftOf : ByteArray := prog_6_method_7_code
def yX4_leftOf : MethodName := ⟨RX4, "leftOf", "(II)I"⟩
abbrev cX4_isLeft : ByteArray := prog_6_method_8_code
def yX4_isLeft : MethodName := ⟨RX4, "isLeft", "(III)Z"⟩
abbrev cX4_put : ByteArray := prog_6_method_9_code
def yX4_put : MethodName := ⟨RX4, "put", "(IIIZ)V"⟩
abbrev cX4_putOne : ByteArray := prog_6_method_10_code
def yX4_putOne : MethodName := ⟨RX4, "putOne", "(IIIZ)V"⟩
abbrev cX4_takeRow : ByteArray := prog_6_method_11_code
def yX4_takeRow : MethodName := ⟨RX4, "takeRow", "(I[I)V"⟩
abbrev cX4_takeTurns : ByteArray := prog_6_method_12_code
def yX4_takeTurns : MethodName := ⟨RX4, "takeTurns", "(LPointTables$Table;[IIZ)V"⟩
def RX5 : String := "PointTables$Tape"
def TX5 : u_T := fun k => match k with
  | 0 => ("PointTables$Tape", "bytes", "[I", true)
  | _ => ("PointTables$Tape", "length", "I", false)
def tyX5 : Nat → FieldType := fun k => match k with
  | 0 => .array .int
  | _ => .int
abbrev wsX50 : List Cond := u_ws RX5 TX5 2
theorem nmX5 : ∀ a, a < 2 → ∀ b, b < 2 → a ≠ b → (TX5 a).2.1 ≠ (TX5 b).2.1 := by decide +kernel
theorem tyX5_ok : ∀ k, k < 2 → parseFieldDescriptor (TX5 k).2.2.1 = some (tyX5 k) := by decide +kernel
abbrev cX5_init : ByteArray := prog_7_method_1_code
def yX5_init : MethodName := ⟨RX5, "<init>", "()V"⟩
abbrev cX5_addNumber : ByteArray := prog_7_method_2_code
def yX5_addNumber : MethodName := ⟨RX5, "addNumber", "(I)V"⟩
abbrev cX5_byteAt : ByteArray := prog_7_method_3_code
def yX5_byteAt : MethodName := ⟨RX5, "byteAt", "(I)I"⟩
abbrev cX5_shortAt : ByteArray := prog_7_method_4_code
def yX5_shortAt : MethodName := ⟨RX5, "shortAt", "(I)I"⟩
abbrev cX5_hasBit : ByteArray := prog_7_method_5_code
def yX5_hasBit : MethodName := ⟨RX5, "hasBit", "(I)Z"⟩
def RX6 : String := "PointTables"
def TX6 : u_T := fun k => match k with
  | 0 => ("PointTables", "slots", "[LPointTables$Table;", true)
  | 1 => ("PointTables", "spare", "LPointTables$Table;", false)
  | 2 => ("PointTables", "tape", "LPointTables$Tape;", true)
  | 3 => ("PointTables", "coder", "LPointTables$Coder;", true)
  | 4 => ("PointTables", "sweeper", "LPointTables$Sweeper;", true)
  | 5 => ("PointTables", "out", "[I", true)
  | 6 => ("PointTables", "outLength", "I", false)
  | 7 => ("PointTables", "onLine", "I", false)
  | 8 => ("PointTables", "xs", "[I", true)
  | 9 => ("PointTables", "ys", "[I", true)
  | 10 => ("PointTables", "origins", "[I", true)
  | _ => ("PointTables", "row", "[I", true)
def tyX6 : Nat → FieldType := fun k => match k with
  | 0 => .array (.object "PointTables$Table")
  | 1 => .object "PointTables$Table"
  | 2 => .object "PointTables$Tape"
  | 3 => .object "PointTables$Coder"
  | 4 => .object "PointTables$Sweeper"
  | 5 => .array .int
  | 6 => .int
  | 7 => .int
  | 8 => .array .int
  | 9 => .array .int
  | 10 => .array .int
  | _ => .array .int
abbrev wsX60 : List Cond := u_ws RX6 TX6 12
theorem nmX6 : ∀ a, a < 12 → ∀ b, b < 12 → a ≠ b → (TX6 a).2.1 ≠ (TX6 b).2.1 := by decide +kernel
theorem tyX6_ok : ∀ k, k < 12 → parseFieldDescriptor (TX6 k).2.2.1 = some (tyX6 k) := by decide +kernel
abbrev cX6_init : ByteArray := prog_1_method_1_code
def yX6_init : MethodName := ⟨RX6, "<init>", "()V"⟩
abbrev cX6_feed : ByteArray := prog_1_method_2_code
def yX6_feed : MethodName := ⟨RX6, "feed", "(IIIII)I"⟩
abbrev cX6_end : ByteArray := prog_1_method_3_code
def yX6_end : MethodName := ⟨RX6, "end", "(I)Z"⟩
abbrev cX6_place : ByteArray := prog_1_method_4_code
def yX6_place : MethodName := ⟨RX6, "place", "(I)I"⟩
abbrev cX6_placeByTape : ByteArray := prog_1_method_5_code
def yX6_placeByTape : MethodName := ⟨RX6, "placeByTape", "(I)I"⟩
abbrev cX6_readPlaces : ByteArray := prog_1_method_6_code
def yX6_readPlaces : MethodName := ⟨RX6, "readPlaces", "(I)Z"⟩
abbrev cX6_placeSpare : ByteArray := prog_1_method_7_code
def yX6_placeSpare : MethodName := ⟨RX6, "placeSpare", "(I)I"⟩
abbrev cX6_line : ByteArray := prog_1_method_8_code
def yX6_line : MethodName := ⟨RX6, "line", "()I"⟩
abbrev cX6_table : ByteArray := prog_1_method_9_code
def yX6_table : MethodName := ⟨RX6, "table", "(II)Z"⟩
abbrev cX6_tableByTape : ByteArray := prog_1_method_10_code
def yX6_tableByTape : MethodName := ⟨RX6, "tableByTape", "(II)Z"⟩
abbrev cX6_turn : ByteArray := prog_1_method_11_code
def yX6_turn : MethodName := ⟨RX6, "turn", "(IIII)I"⟩
abbrev cX6_flip : ByteArray := prog_1_method_12_code
def yX6_flip : MethodName := ⟨RX6, "flip", "(IIII)Z"⟩
abbrev cX6_mirror : ByteArray := prog_1_method_13_code
def yX6_mirror : MethodName := ⟨RX6, "mirror", "(II)Z"⟩
abbrev cX6_rename : ByteArray := prog_1_method_14_code
def yX6_rename : MethodName := ⟨RX6, "rename", "(II)Z"⟩
abbrev cX6_renameByTape : ByteArray := prog_1_method_15_code
def yX6_renameByTape : MethodName := ⟨RX6, "renameByTape", "(II)Z"⟩
abbrev cX6_without : ByteArray := prog_1_method_16_code
def yX6_without : MethodName := ⟨RX6, "without", "(III)Z"⟩
abbrev cX6_lawful : ByteArray := prog_1_method_17_code
def yX6_lawful : MethodName := ⟨RX6, "lawful", "(I)I"⟩
abbrev cX6_why : ByteArray := prog_1_method_18_code
def yX6_why : MethodName := ⟨RX6, "why", "(I)I"⟩
abbrev cX6_rim : ByteArray := prog_1_method_19_code
def yX6_rim : MethodName := ⟨RX6, "rim", "(I)I"⟩
abbrev cX6_onRim : ByteArray := prog_1_method_20_code
def yX6_onRim : MethodName := ⟨RX6, "onRim", "(II)I"⟩
abbrev cX6_layer : ByteArray := prog_1_method_21_code
def yX6_layer : MethodName := ⟨RX6, "layer", "(II)I"⟩
abbrev cX6_code : ByteArray := prog_1_method_22_code
def yX6_code : MethodName := ⟨RX6, "code", "(I)I"⟩
abbrev cX6_named : ByteArray := prog_1_method_23_code
def yX6_named : MethodName := ⟨RX6, "named", "(II)Z"⟩
abbrev cX6_like : ByteArray := prog_1_method_24_code
def yX6_like : MethodName := ⟨RX6, "like", "(II)I"⟩
abbrev cX6_swept : ByteArray := prog_1_method_25_code
def yX6_swept : MethodName := ⟨RX6, "swept", "(II)Z"⟩
abbrev cX6_sweptByTape : ByteArray := prog_1_method_26_code
def yX6_sweptByTape : MethodName := ⟨RX6, "sweptByTape", "(II)Z"⟩
abbrev cX6_sweep : ByteArray := prog_1_method_27_code
def yX6_sweep : MethodName := ⟨RX6, "sweep", "(I)I"⟩
abbrev cX6_octet : ByteArray := prog_1_method_28_code
def yX6_octet : MethodName := ⟨RX6, "octet", "(I)I"⟩
abbrev cX6_figures : ByteArray := prog_1_method_29_code
def yX6_figures : MethodName := ⟨RX6, "figures", "(IIZ)I"⟩
abbrev cX6_lines : ByteArray := prog_1_method_30_code
def yX6_lines : MethodName := ⟨RX6, "lines", "(II)I"⟩
abbrev cX6_inside : ByteArray := prog_1_method_31_code
def yX6_inside : MethodName := ⟨RX6, "inside", "(IIIII)I"⟩
abbrev cX6_kinds : ByteArray := prog_1_method_32_code
def yX6_kinds : MethodName := ⟨RX6, "kinds", "(I)I"⟩
abbrev cX6_kind : ByteArray := prog_1_method_33_code
def yX6_kind : MethodName := ⟨RX6, "kind", "(III)Z"⟩
abbrev cX6_which : ByteArray := prog_1_method_34_code
def yX6_which : MethodName := ⟨RX6, "which", "(I)I"⟩
abbrev cX6_points : ByteArray := prog_1_method_35_code
def yX6_points : MethodName := ⟨RX6, "points", "(I)I"⟩
abbrev cX6_isSlot : ByteArray := prog_1_method_36_code
def yX6_isSlot : MethodName := ⟨RX6, "isSlot", "(I)Z"⟩
abbrev cX6_isSize : ByteArray := prog_1_method_37_code
def yX6_isSize : MethodName := ⟨RX6, "isSize", "(I)Z"⟩
abbrev cX6_turnsOf : ByteArray := prog_1_method_38_code
def yX6_turnsOf : MethodName := ⟨RX6, "turnsOf", "(I)I"⟩
abbrev cX6_swapsOf : ByteArray := prog_1_method_39_code
def yX6_swapsOf : MethodName := ⟨RX6, "swapsOf", "(I)I"⟩
abbrev cX6_kindsOf : ByteArray := prog_1_method_40_code
def yX6_kindsOf : MethodName := ⟨RX6, "kindsOf", "(I)[I"⟩
abbrev cX6_tableAt : ByteArray := prog_1_method_41_code
def yX6_tableAt : MethodName := ⟨RX6, "tableAt", "(I)LPointTables$Table;"⟩
abbrev cX6_lawfulAt : ByteArray := prog_1_method_42_code
def yX6_lawfulAt : MethodName := ⟨RX6, "lawfulAt", "(I)LPointTables$Table;"⟩
abbrev cX6_keepSpare : ByteArray := prog_1_method_43_code
def yX6_keepSpare : MethodName := ⟨RX6, "keepSpare", "(I)V"⟩
abbrev cX6_setOut : ByteArray := prog_1_method_44_code
def yX6_setOut : MethodName := ⟨RX6, "setOut", "([II)V"⟩
def RX7 : String := "PointTablesModel"
def TX7 : u_T := fun k => match k with
  | 0 => ("PointTablesModel", "thrown", "I", false)
  | 1 => ("PointTablesModel", "tape", "[B", true)
  | 2 => ("PointTablesModel", "length", "I", false)
  | 3 => ("PointTablesModel", "size", "I", false)
  | 4 => ("PointTablesModel", "many", "[I", true)
  | 5 => ("PointTablesModel", "turns", "[I", true)
  | 6 => ("PointTablesModel", "px", "[J", true)
  | 7 => ("PointTablesModel", "py", "[J", true)
  | 8 => ("PointTablesModel", "onLine", "I", false)
  | 9 => ("PointTablesModel", "is", "[I", true)
  | 10 => ("PointTablesModel", "some", "[I", true)
  | 11 => ("PointTablesModel", "row", "[I", true)
  | 12 => ("PointTablesModel", "best", "[I", true)
  | 13 => ("PointTablesModel", "mirrored", "[I", true)
  | 14 => ("PointTablesModel", "first", "[I", true)
  | 15 => ("PointTablesModel", "out", "[B", true)
  | 16 => ("PointTablesModel", "outMany", "I", false)
  | 17 => ("PointTablesModel", "order", "[I", true)
  | 18 => ("PointTablesModel", "when", "[I", true)
  | 19 => ("PointTablesModel", "kindMany", "[I", true)
  | _ => ("PointTablesModel", "kindBits", "[I", true)
def tyX7 : Nat → FieldType := fun k => match k with
  | 0 => .int
  | 1 => .array .byte
  | 2 => .int
  | 3 => .int
  | 4 => .array .int
  | 5 => .array .int
  | 6 => .array .long
  | 7 => .array .long
  | 8 => .int
  | 9 => .array .int
  | 10 => .array .int
  | 11 => .array .int
  | 12 => .array .int
  | 13 => .array .int
  | 14 => .array .int
  | 15 => .array .byte
  | 16 => .int
  | 17 => .array .int
  | 18 => .array .int
  | 19 => .array .int
  | _ => .array .int
abbrev wsX70 : List Cond := u_ws RX7 TX7 21
theorem nmX7 : ∀ a, a < 21 → ∀ b, b < 21 → a ≠ b → (TX7 a).2.1 ≠ (TX7 b).2.1 := by decide +kernel
theorem tyX7_ok : ∀ k, k < 21 → parseFieldDescriptor (TX7 k).2.2.1 = some (tyX7 k) := by decide +kernel
abbrev cX7_init : ByteArray := prog_9_method_1_code
def yX7_init : MethodName := ⟨RX7, "<init>", "()V"⟩
abbrev cX7_thrown : ByteArray := prog_9_method_2_code
def yX7_thrown : MethodName := ⟨RX7, "thrown", "()I"⟩
abbrev cX7_throwsIf : ByteArray := prog_9_method_3_code
def yX7_throwsIf : MethodName := ⟨RX7, "throwsIf", "(Z)Z"⟩
abbrev cX7_feed : ByteArray := prog_9_method_4_code
def yX7_feed : MethodName := ⟨RX7, "feed", "(IIIII)I"⟩
abbrev cX7_four : ByteArray := prog_9_method_5_code
def yX7_four : MethodName := ⟨RX7, "four", "(I)V"⟩
abbrev cX7_end : ByteArray := prog_9_method_6_code
def yX7_end : MethodName := ⟨RX7, "end", "(I)Z"⟩
abbrev cX7_taken : ByteArray := prog_9_method_7_code
def yX7_taken : MethodName := ⟨RX7, "taken", "()V"⟩
abbrev cX7_three : ByteArray := prog_9_method_8_code
def yX7_three : MethodName := ⟨RX7, "three", "(III)I"⟩
abbrev cX7_turnAt : ByteArray := prog_9_method_9_code
def yX7_turnAt : MethodName := ⟨RX7, "turnAt", "(IIII)I"⟩
abbrev cX7_left : ByteArray := prog_9_method_10_code
def yX7_left : MethodName := ⟨RX7, "left", "(IIII)Z"⟩
abbrev cX7_set : ByteArray := prog_9_method_11_code
def yX7_set : MethodName := ⟨RX7, "set", "(IIIII)V"⟩
abbrev cX7_isSlot : ByteArray := prog_9_method_12_code
def yX7_isSlot : MethodName := ⟨RX7, "isSlot", "(I)Z"⟩
abbrev cX7_has : ByteArray := prog_9_method_13_code
def yX7_has : MethodName := ⟨RX7, "has", "(I)Z"⟩
abbrev cX7_copy : ByteArray := prog_9_method_14_code
def yX7_copy : MethodName := ⟨RX7, "copy", "(II)V"⟩
abbrev cX7_points : ByteArray := prog_9_method_15_code
def yX7_points : MethodName := ⟨RX7, "points", "(I)I"⟩
abbrev cX7_place : ByteArray := prog_9_method_16_code
def yX7_place : MethodName := ⟨RX7, "place", "(I)I"⟩
abbrev cX7_line : ByteArray := prog_9_method_17_code
def yX7_line : MethodName := ⟨RX7, "line", "()I"⟩
abbrev cX7_table : ByteArray := prog_9_method_18_code
def yX7_table : MethodName := ⟨RX7, "table", "(II)Z"⟩
abbrev cX7_areThree : ByteArray := prog_9_method_19_code
def yX7_areThree : MethodName := ⟨RX7, "areThree", "(IIII)Z"⟩
abbrev cX7_turn : ByteArray := prog_9_method_20_code
def yX7_turn : MethodName := ⟨RX7, "turn", "(IIII)I"⟩
abbrev cX7_flip : ByteArray := prog_9_method_21_code
def yX7_flip : MethodName := ⟨RX7, "flip", "(IIII)Z"⟩
abbrev cX7_turnAll : ByteArray := prog_9_method_22_code
def yX7_turnAll : MethodName := ⟨RX7, "turnAll", "(I)V"⟩
abbrev cX7_mirror : ByteArray := prog_9_method_23_code
def yX7_mirror : MethodName := ⟨RX7, "mirror", "(II)Z"⟩
abbrev cX7_pick : ByteArray := prog_9_method_24_code
def yX7_pick : MethodName := ⟨RX7, "pick", "(III)V"⟩
abbrev cX7_rename : ByteArray := prog_9_method_25_code
def yX7_rename : MethodName := ⟨RX7, "rename", "(II)Z"⟩
abbrev cX7_without : ByteArray := prog_9_method_26_code
def yX7_without : MethodName := ⟨RX7, "without", "(III)Z"⟩
abbrev cX7_breaksFour : ByteArray := prog_9_method_27_code
def yX7_breaksFour : MethodName := ⟨RX7, "breaksFour", "(IIIII)Z"⟩
abbrev cX7_breaksFive : ByteArray := prog_9_method_28_code
def yX7_breaksFive : MethodName := ⟨RX7, "breaksFive", "(IIIIII)Z"⟩
abbrev cX7_breaks : ByteArray := prog_9_method_29_code
def yX7_breaks : MethodName := ⟨RX7, "breaks", "(III)Z"⟩
abbrev cX7_bits : ByteArray := prog_9_method_30_code
def yX7_bits : MethodName := ⟨RX7, "bits", "(I)I"⟩
abbrev cX7_whyNot : ByteArray := prog_9_method_31_code
def yX7_whyNot : MethodName := ⟨RX7, "whyNot", "(II)I"⟩
abbrev cX7_isLawful : ByteArray := prog_9_method_32_code
def yX7_isLawful : MethodName := ⟨RX7, "isLawful", "(I)Z"⟩
abbrev cX7_lawful : ByteArray := prog_9_method_33_code
def yX7_lawful : MethodName := ⟨RX7, "lawful", "(I)I"⟩
abbrev cX7_why : ByteArray := prog_9_method_34_code
def yX7_why : MethodName := ⟨RX7, "why", "(I)I"⟩
abbrev cX7_nextTo : ByteArray := prog_9_method_35_code
def yX7_nextTo : MethodName := ⟨RX7, "nextTo", "(III)I"⟩
abbrev cX7_rimOf : ByteArray := prog_9_method_36_code
def yX7_rimOf : MethodName := ⟨RX7, "rimOf", "(II)I"⟩
abbrev cX7_rim : ByteArray := prog_9_method_37_code
def yX7_rim : MethodName := ⟨RX7, "rim", "(I)I"⟩
abbrev cX7_onRim : ByteArray := prog_9_method_38_code
def yX7_onRim : MethodName := ⟨RX7, "onRim", "(II)I"⟩
abbrev cX7_layer : ByteArray := prog_9_method_39_code
def yX7_layer : MethodName := ⟨RX7, "layer", "(II)I"⟩
abbrev cX7_threesOf : ByteArray := prog_9_method_40_code
def yX7_threesOf : MethodName := ⟨RX7, "threesOf", "(I)I"⟩
abbrev cX7_around : ByteArray := prog_9_method_41_code
def yX7_around : MethodName := ⟨RX7, "around", "(III)V"⟩
abbrev cX7_rowOf : ByteArray := prog_9_method_42_code
def yX7_rowOf : MethodName := ⟨RX7, "rowOf", "(II[I)V"⟩
abbrev cX7_compare : ByteArray := prog_9_method_43_code
def yX7_compare : MethodName := ⟨RX7, "compare", "([I[II)I"⟩
abbrev cX7_least : ByteArray := prog_9_method_44_code
def yX7_least : MethodName := ⟨RX7, "least", "(II[I)V"⟩
abbrev cX7_codeOf : ByteArray := prog_9_method_45_code
def yX7_codeOf : MethodName := ⟨RX7, "codeOf", "(II)V"⟩
abbrev cX7_code : ByteArray := prog_9_method_46_code
def yX7_code : MethodName := ⟨RX7, "code", "(I)I"⟩
abbrev cX7_octet : ByteArray := prog_9_method_47_code
def yX7_octet : MethodName := ⟨RX7, "octet", "(I)I"⟩
abbrev cX7_fill : ByteArray := prog_9_method_48_code
def yX7_fill : MethodName := ⟨RX7, "fill", "(II[I)V"⟩
abbrev cX7_named : ByteArray := prog_9_method_49_code
def yX7_named : MethodName := ⟨RX7, "named", "(II)Z"⟩
abbrev cX7_like : ByteArray := prog_9_method_50_code
def yX7_like : MethodName := ⟨RX7, "like", "(II)I"⟩
abbrev cX7_swept : ByteArray := prog_9_method_51_code
def yX7_swept : MethodName := ⟨RX7, "swept", "(II)Z"⟩
abbrev cX7_swap : ByteArray := prog_9_method_52_code
def yX7_swap : MethodName := ⟨RX7, "swap", "(II)V"⟩
abbrev cX7_wasSwapped : ByteArray := prog_9_method_53_code
def yX7_wasSwapped : MethodName := ⟨RX7, "wasSwapped", "(II)Z"⟩
abbrev cX7_isNext : ByteArray := prog_9_method_54_code
def yX7_isNext : MethodName := ⟨RX7, "isNext", "(IIII)Z"⟩
abbrev cX7_sweep : ByteArray := prog_9_method_55_code
def yX7_sweep : MethodName := ⟨RX7, "sweep", "(I)I"⟩
abbrev cX7_maySwap : ByteArray := prog_9_method_56_code
def yX7_maySwap : MethodName := ⟨RX7, "maySwap", "(III)Z"⟩
abbrev cX7_isEmpty : ByteArray := prog_9_method_57_code
def yX7_isEmpty : MethodName := ⟨RX7, "isEmpty", "(III)Z"⟩
abbrev cX7_figures : ByteArray := prog_9_method_58_code
def yX7_figures : MethodName := ⟨RX7, "figures", "(IIZ)I"⟩
abbrev cX7_lines : ByteArray := prog_9_method_59_code
def yX7_lines : MethodName := ⟨RX7, "lines", "(II)I"⟩
abbrev cX7_inside : ByteArray := prog_9_method_60_code
def yX7_inside : MethodName := ⟨RX7, "inside", "(IIIII)I"⟩
abbrev cX7_byBits : ByteArray := prog_9_method_61_code
def yX7_byBits : MethodName := ⟨RX7, "byBits", "(II)V"⟩
abbrev cX7_find : ByteArray := prog_9_method_62_code
def yX7_find : MethodName := ⟨RX7, "find", "(I)V"⟩
abbrev cX7_kinds : ByteArray := prog_9_method_63_code
def yX7_kinds : MethodName := ⟨RX7, "kinds", "(I)I"⟩
abbrev cX7_kind : ByteArray := prog_9_method_64_code
def yX7_kind : MethodName := ⟨RX7, "kind", "(III)Z"⟩
abbrev cX7_which : ByteArray := prog_9_method_65_code
def yX7_which : MethodName := ⟨RX7, "which", "(I)I"⟩
def RJ6 : String := "java/lang/Integer"
def TJ6 : u_T := fun k => match k with
  | _ => ("", "", "", false)
def tyJ6 : Nat → FieldType := fun k => match k with
  | _ => .int
abbrev wsJ60 : List Cond := u_ws RJ6 TJ6 0
theorem nmJ6 : ∀ a, a < 0 → ∀ b, b < 0 → a ≠ b → (TJ6 a).2.1 ≠ (TJ6 b).2.1 := by decide +kernel
theorem tyJ6_ok : ∀ k, k < 0 → parseFieldDescriptor (TJ6 k).2.2.1 = some (tyJ6 k) := by decide +kernel
abbrev cJ6_compare_7cf53 : ByteArray := prog_11_method_40_code
def yJ6_compare_7cf53 : MethodName := ⟨RJ6, "compare", "(II)I"⟩
abbrev cJ6_bitCount_0f7a4 : ByteArray := prog_11_method_49_code
def yJ6_bitCount_0f7a4 : MethodName := ⟨RJ6, "bitCount", "(I)I"⟩
def RJ9 : String := "java/lang/Math"
def TJ9 : u_T := fun k => match k with
  | _ => ("", "", "", false)
def tyJ9 : Nat → FieldType := fun k => match k with
  | _ => .int
abbrev wsJ90 : List Cond := u_ws RJ9 TJ9 0
theorem nmJ9 : ∀ a, a < 0 → ∀ b, b < 0 → a ≠ b → (TJ9 a).2.1 ≠ (TJ9 b).2.1 := by decide +kernel
theorem tyJ9_ok : ∀ k, k < 0 → parseFieldDescriptor (TJ9 k).2.2.1 = some (tyJ9 k) := by decide +kernel
abbrev cJ9_abs_0f7a4 : ByteArray := prog_12_method_59_code
def yJ9_abs_0f7a4 : MethodName := ⟨RJ9, "abs", "(I)I"⟩
abbrev cJ9_min_7cf53 : ByteArray := prog_12_method_69_code
def yJ9_min_7cf53 : MethodName := ⟨RJ9, "min", "(II)I"⟩
def RJ0 : String := "java/lang/String"
def TJ0 : u_T := fun k => match k with
  | _ => ("", "", "", false)
def tyJ0 : Nat → FieldType := fun k => match k with
  | _ => .int
abbrev wsJ00 : List Cond := u_ws RJ0 TJ0 0
theorem nmJ0 : ∀ a, a < 0 → ∀ b, b < 0 → a ≠ b → (TJ0 a).2.1 ≠ (TJ0 b).2.1 := by decide +kernel
theorem tyJ0_ok : ∀ k, k < 0 → parseFieldDescriptor (TJ0 k).2.2.1 = some (tyJ0 k) := by decide +kernel
def RJ10 : String := "java/lang/System"
def TJ10 : u_T := fun k => match k with
  | _ => ("", "", "", false)
def tyJ10 : Nat → FieldType := fun k => match k with
  | _ => .int
abbrev wsJ100 : List Cond := u_ws RJ10 TJ10 0
theorem nmJ10 : ∀ a, a < 0 → ∀ b, b < 0 → a ≠ b → (TJ10 a).2.1 ≠ (TJ10 b).2.1 := by decide +kernel
theorem tyJ10_ok : ∀ k, k < 0 → parseFieldDescriptor (TJ10 k).2.2.1 = some (tyJ10 k) := by decide +kernel
def RJ7 : String := "java/util/Arrays"
def TJ7 : u_T := fun k => match k with
  | _ => ("", "", "", false)
def tyJ7 : Nat → FieldType := fun k => match k with
  | _ => .int
abbrev wsJ70 : List Cond := u_ws RJ7 TJ7 0
theorem nmJ7 : ∀ a, a < 0 → ∀ b, b < 0 → a ≠ b → (TJ7 a).2.1 ≠ (TJ7 b).2.1 := by decide +kernel
theorem tyJ7_ok : ∀ k, k < 0 → parseFieldDescriptor (TJ7 k).2.2.1 = some (tyJ7 k) := by decide +kernel
abbrev cJ7_fill_53178 : ByteArray := prog_17_method_103_code
def yJ7_fill_53178 : MethodName := ⟨RJ7, "fill", "([II)V"⟩
def RL : String := "PointTablesLaw"
abbrev cL_onRim : ByteArray := method_3_code
def yL_onRim : MethodName := ⟨RL, "onRim", "(LPointTables;II[J)I"⟩
abbrev cL_octet : ByteArray := method_4_code
def yL_octet : MethodName := ⟨RL, "octet", "(LPointTables;I[J)I"⟩
abbrev cL_law : ByteArray := code
def yL_law : MethodName := ⟨RL, "law", "([I)Z"⟩
abbrev vwCl : List vw_C := [(RX0, TX0, 1), (RX3, TX3, 4), (RX4, TX4, 6), (RX5, TX5, 2), (RX6, TX6, 12), (RX7, TX7, 21)]
end
section
/-- the tables' words that stay -/
def pt_tb : List Cond := lw_tbl.filter goodWord
theorem pt_tb_of {w : Cond} (h : w ∈ lw_tbl) (g : goodWord w = true) : w ∈ pt_tb := List.mem_filter.mpr ⟨h, g⟩
/-! THE ABSTRACT MACHINE: values whose references are (kind, number); a memory of plain functions; what a state of it says of the machine's -/
abbrev pt_V : Type := Int32 ⊕ (Int64 ⊕ (Nat × Nat))
abbrev pt_i (x : Int32) : pt_V := Sum.inl x
abbrev pt_l (x : Int64) : pt_V := Sum.inr (Sum.inl x)
abbrev pt_r (k i : Nat) : pt_V := Sum.inr (Sum.inr (k, i))
abbrev pt_n : pt_V := Sum.inr (Sum.inr (0, 0))
/-- fields F kind field number; arrays A kind number place; longs; the tables in the slots and the spare; the script -/
abbrev pt_M : Type := (Nat → Nat → Nat → Int32) × (Nat → Nat → Nat → Int32) × (Nat → Nat → Int64) × (Nat → Nat) × Nat × (Nat → Int32)
abbrev pt_S : Type := Nat × List (Nat × pt_V) × List pt_V × pt_M
def pt_F (M : pt_M) : Nat → Nat → Nat → Int32 := M.1
def pt_A (M : pt_M) : Nat → Nat → Nat → Int32 := M.2.1
def pt_G (M : pt_M) : Nat → Nat → Int64 := M.2.2.1
def pt_R (M : pt_M) : Nat → Nat := M.2.2.2.1
def pt_L (M : pt_M) : Nat := M.2.2.2.2.1
def pt_X (M : pt_M) : Nat → Int32 := M.2.2.2.2.2
def pt_wF (M : pt_M) (k f i : Nat) (v : Int32) : pt_M := (fun k' f' i' => if k' = k ∧ f' = f ∧ i' = i then v else M.1 k' f' i', M.2)
/-- a whole array's new contents -/
def pt_wA (M : pt_M) (k i : Nat) (g : Nat → Int32) : pt_M := (M.1, fun k' i' => if k' = k ∧ i' = i then g else M.2.1 k' i', M.2.2)
def pt_wG (M : pt_M) (k : Nat) (g : Nat → Int64) : pt_M := (M.1, M.2.1, fun k' => if k' = k then g else M.2.2.1 k', M.2.2.2)
def pt_wR (M : pt_M) (p v : Nat) : pt_M := (M.1, M.2.1, M.2.2.1, fun q => if q = p then v else M.2.2.2.1 q, M.2.2.2.2)
def pt_cv (ad : Nat → Nat → Nat) : pt_V → Value
  | .inl x => .int x
  | .inr (.inl y) => .long y
  | .inr (.inr (0, _)) => .null
  | .inr (.inr (k + 1, i)) => .ref (ad (k + 1) i)
def pt_cl (ad : Nat → Nat → Nat) (l : List (Nat × pt_V)) : List (Nat × Value) := l.map fun q => (q.1, pt_cv ad q.2)
/-- the objects: class number among vwCl, how many fields -/
def pt_ob (k : Nat) : Option (Nat × Nat) := match k with
  | 2 => some (4, 12)
  | 3 => some (2, 6)
  | 4 => some (3, 2)
  | 5 => some (0, 1)
  | 6 => some (1, 4)
  | 7 => some (5, 21)
  | _ => none
/-- what a field is: 0 a number, 1 the spare, else a fixed reference to that kind -/
def pt_fs (k f : Nat) : Nat := match k with
  | 2 => [10, 1, 4, 5, 6, 20, 0, 0, 21, 22, 23, 24].getD f 0
  | 3 => [0, 11, 0, 0, 12, 13].getD f 0
  | 4 => [14, 0].getD f 0
  | 5 => [15].getD f 0
  | 6 => [16, 17, 18, 19].getD f 0
  | 7 => [0, 30, 0, 0, 31, 32, 33, 34, 0, 35, 36, 37, 38, 39, 40, 41, 0, 42, 43, 44, 45].getD f 0
  | _ => 0
def pt_fv (M : pt_M) (k f i : Nat) : pt_V := match pt_fs k f with
  | 0 => pt_i (pt_F M k f i)
  | 1 => pt_r 3 (pt_R M 0)
  | n + 2 => pt_r (n + 2) i
/-- the arrays: of ints 0, bytes 1, longs 2, tables 3; their lengths -/
def pt_ak (k : Nat) : Option (Nat × Nat) := match k with
  | 10 => some (3, 6)
  | 11 => some (0, 100)
  | 12 => some (0, 120)
  | 13 => some (0, 120)
  | 14 => some (0, 140)
  | 15 => some (0, 10)
  | 16 => some (0, 45)
  | 17 => some (0, 10)
  | 18 => some (0, 10)
  | 19 => some (0, 100)
  | 20 => some (0, 120)
  | 21 => some (0, 10)
  | 22 => some (0, 10)
  | 23 => some (0, 10)
  | 24 => some (0, 120)
  | 30 => some (1, 140)
  | 31 => some (0, 6)
  | 32 => some (0, 960)
  | 33 => some (2, 10)
  | 34 => some (2, 10)
  | 35 => some (0, 10)
  | 36 => some (0, 5)
  | 37 => some (0, 120)
  | 38 => some (0, 120)
  | 39 => some (0, 120)
  | 40 => some (0, 120)
  | 41 => some (1, 120)
  | 42 => some (0, 10)
  | 43 => some (0, 100)
  | 44 => some (0, 7)
  | 45 => some (0, 448)
  | 50 => some (2, 1)
  | _ => none
/-- how many of a kind -/
def pt_ct (k : Nat) : Nat := match k with
  | 3 => 7
  | 11 => 7
  | 12 => 7
  | 13 => 7
  | _ => 1
def pt_dm (k i : Nat) : Prop := i < pt_ct k ∧ (pt_ob k ≠ none ∨ pt_ak k ≠ none)
def pt_ce (ad : Nat → Nat → Nat) (cA : Nat → ClassId) (M : pt_M) (k i : Nat) : Option va_E := match pt_ob k with
  | some q => some (.inr (q.1, (List.range q.2).map fun f => pt_cv ad (pt_fv M k f i)))
  | none => match pt_ak k with
    | none => none
    | some (2, n) => some (.inl (cA 2, n, .inr (.inl (pt_G M k))))
    | some (3, n) => some (.inl (cA 3, n, .inr (.inr (.inr (.inr fun p => some (ad 3 (pt_R M (p + 1))))))))
    | some (t, n) => some (.inl (cA t, n, .inl (pt_A M k i)))
/-- the heap holds the memory -/
def pt_Hd (D : va_G) (ad : Nat → Nat → Nat) (cA : Nat → ClassId) (M : pt_M) (H : Heap) : Prop := ∀ (k i : Nat) (e : va_E), i < pt_ct k → pt_ce ad cA M k i = some e → va_at D vwCl (ad k i, e) H
def pt_ty (t : Nat) : FieldType := match t with
  | 0 => .int
  | 1 => .byte
  | 2 => .long
  | _ => .object "PointTables$Table"
/-- private methods of the outer class -/
def pt_nw (s : State) : Prop := va_Nw (.methodLinkNest RX0 31 yX6_turnsOf "PointTables") s ∧ va_Nw (.methodLinkNest RX3 30 yX6_swapsOf "PointTables") s
/-- what the tables say, and that the addresses are apart -/
def pt_Wd (D : va_G) (ad : Nat → Nat → Nat) (cA : Nat → ClassId) (s : State) : Prop :=
  va_K D vwCl [(cA 0, .int), (cA 1, .byte), (cA 2, .long), (cA 3, .object "PointTables$Table")] s ∧ (∀ k i k' i', pt_dm k i → pt_dm k' i' → ad k i = ad k' i' → k = k' ∧ i = i') ∧ pt_nw s
/-- arrays that are only read: the script, the class's constants -/
def pt_ro (M : pt_M) (k : Nat) : Option (Nat × (Nat → Int32)) := match k with
  | 51 => some (pt_L M, pt_X M)
  | 60 => some (0, fun _ => 0)
  | 61 => some (1, fun _ => 0)
  | 62 => some (2, fun j => [0, 1].getD j 0)
  | 63 => some (3, fun j => [0, 1, 7].getD j 0)
  | 64 => some (16, fun j => [0, 1, 3, 7, 15, 23, 31, 63, 76, 183, 191, 254, 255, 510, 531, 947].getD j 0)
  | _ => none
def pt_sn (k : Nat) : Option String := match k with
  | 60 => some "NO_KINDS"
  | 61 => some "KINDS_OF_3"
  | 62 => some "KINDS_OF_4"
  | 63 => some "KINDS_OF_5"
  | 64 => some "KINDS_OF_6"
  | _ => none
def pt_Ro (ad : Nat → Nat → Nat) (A : Nat → Prop) (M : pt_M) (s : State) : Prop :=
  (∀ k q, pt_ro M k = some q → va_X (ad k 0) q.1 q.2 s s.heap ∧ ¬ A (ad k 0)) ∧ ∀ k nm, pt_sn k = some nm → va_Z "PointTables" nm "[I" (.ref (ad k 0)) A s s.heap
/-- a method: its class, code, locals, type, room -/
abbrev pt_Y : Type := Nat × ByteArray × Nat × Option FieldType × Room
def pt_own (n : Nat) : String := [RX6, RX4, RX5, RX0, RX3, RX1, RX2, RX7, RL, RJ6, RJ9, RJ7].getD n ""
def pt_Cx (Y : pt_Y) (p : Program) (s : State) (m : MethodId) (args : Array Value) (meth : Method) (c : Code) (D : va_G) (ad : Nat → Nat → Nat) (cA : Nat → ClassId) (A : Nat → Prop) (cells slots : Nat) : Prop :=
  p.tables.exec = Jvm.exec ∧ c.code = Y.2.1 ∧ meth.sig.returnType = Y.2.2.2.1 ∧ c.maxLocals = Y.2.2.1 ∧ s.vm.findClass (pt_own Y.1) = some m.cls ∧ (∀ w ∈ pt_tb, w.before args s = true) ∧ (meth.locks = false ∧ cells ≤ Y.2.2.2.2.cells ∧ slots ≤ Y.2.2.2.2.slots) ∧ pt_Wd D ad cA s ∧ ∀ k i, pt_dm k i → A (ad k i)
def pt_At (Y : pt_Y) (p : Program) (l : Launch) (e : Env) (s : State) (m : MethodId) (args : Array Value) (below : List Frame) (meth : Method) (c : Code) (D : va_G) (ad : Nat → Nat → Nat) (cA : Nat → ClassId) (A : Nat → Prop) (cells slots : Nat) (Q : State → Prop) (σ : pt_S) : Prop :=
  ∀ (H : Heap) (locs : List Loc) (ls : Array Slot), pt_Hd D ad cA σ.2.2.2 H → pt_Ro ad A σ.2.2.2 s → va_S A s.heap H locs → lv_has ls Y.2.2.1 (pt_cl ad σ.2.1) →
    W p l e Y.2.2.2.2 s m args below meth c H locs cells slots Q (F0 m σ.1 ls (σ.2.2.1.map (pt_cv ad)))
/-- from one state the machine comes to the other -/
def pt_Go (Y : pt_Y) (σ τ : pt_S) : Prop :=
  ∀ (p : Program) (l : Launch) (e : Env) (s : State) (m : MethodId) (args : Array Value) (below : List Frame) (meth : Method) (c : Code) (D : va_G) (ad : Nat → Nat → Nat) (cA : Nat → ClassId) (A : Nat → Prop) (cells slots : Nat) (Q : State → Prop),
    pt_Cx Y p s m args meth c D ad cA A cells slots → pt_At Y p l e s m args below meth c D ad cA A cells slots Q τ → pt_At Y p l e s m args below meth c D ad cA A cells slots Q σ
theorem pt_Go.rf {Y : pt_Y} {σ : pt_S} : pt_Go Y σ σ := fun _ _ _ _ _ _ _ _ _ _ _ _ _ _ _ _ _ h => h
theorem pt_Go.tr {Y : pt_Y} {σ τ υ : pt_S} (h : pt_Go Y σ τ) (k : pt_Go Y τ υ) : pt_Go Y σ υ := fun p l e s m args below meth c D ad cA A cells slots Q C h1 => h p l e s m args below meth c D ad cA A cells slots Q C (k p l e s m args below meth c D ad cA A cells slots Q C h1)
theorem pt_Go.to {Y : pt_Y} {σ τ υ : pt_S} (h : pt_Go Y σ τ) (k : τ = υ) : pt_Go Y σ υ := k ▸ h
theorem pt_Go.fr {Y : pt_Y} {σ τ υ : pt_S} (h : pt_Go Y σ τ) (k : υ = σ) : pt_Go Y υ τ := k ▸ h
theorem pt_has_sub {ls : Array Slot} {n : Nat} {l l' : List (Nat × Value)} (h : lv_has ls n l) (hs : ∀ q ∈ l', q ∈ l) : lv_has ls n l' := ⟨h.1, h.2.1, fun q hq => h.2.2 q (hs q hq)⟩
/-- fewer locals are told -/
theorem pt_drop {Y : pt_Y} {pc : Nat} {l l' : List (Nat × pt_V)} {st : List pt_V} {M : pt_M} (hs : ∀ q ∈ l', q ∈ l) : pt_Go Y (pc, l, st, M) (pc, l', st, M) := by
  intro p l0 e s m args below meth c D ad cA A cells slots Q C h H locs ls h1 h2 h3 h4
  refine h H locs ls h1 h2 h3 (pt_has_sub h4 ?_)
  intro q hq
  obtain ⟨z, hz, rfl⟩ := List.mem_map.mp hq
  exact List.mem_map.mpr ⟨z, hs z hz, rfl⟩
def pt_lk : List (Nat × pt_V) → Nat → Option pt_V
  | [], _ => none
  | q :: t, i => match Nat.beq q.1 i with
    | true => some q.2
    | false => pt_lk t i
theorem pt_lk_mem : ∀ {l : List (Nat × pt_V)} {i : Nat} {v : pt_V}, pt_lk l i = some v → (i, v) ∈ l
  | [], _, _, h => by cases h
  | q :: t, i, v, h => by
    unfold pt_lk at h
    split at h
    · rename_i hq
      cases h
      have : q.1 = i := Nat.eq_of_beq_eq_true hq
      subst this
      exact List.mem_cons_self
    · exact List.mem_cons_of_mem _ (pt_lk_mem h)
def pt_isL : pt_V → Bool
  | .inr (.inl _) => true
  | _ => false
theorem pt_cat (ad : Nat → Nat → Nat) (v : pt_V) : (pt_cv ad v).category = if pt_isL v then 2 else 1 := by
  rcases v with x | y | ⟨k, i⟩
  · rfl
  · rfl
  · cases k <;> rfl
/-- a new value of one slot at i: in its place, or behind the others -/
def pt_st1 : List (Nat × pt_V) → Nat → pt_V → List (Nat × pt_V)
  | [], i, v => [(i, v)]
  | q :: t, i, v => match Nat.beq q.1 i with
    | true => (i, v) :: t.filter (fun z => !(Nat.beq z.1 i) && !(Nat.beq (z.1 + 1) i && pt_isL z.2))
    | false => match Nat.beq (q.1 + 1) i && pt_isL q.2 with
      | true => pt_st1 t i v
      | false => q :: pt_st1 t i v
theorem pt_st1_mem {i : Nat} {v : pt_V} : ∀ {l : List (Nat × pt_V)} {z : Nat × pt_V}, z ∈ pt_st1 l i v → z = (i, v) ∨ (z ∈ l ∧ Nat.beq z.1 i = false ∧ (Nat.beq (z.1 + 1) i && pt_isL z.2) = false)
  | [], z, h => by
    unfold pt_st1 at h
    exact Or.inl (List.mem_singleton.mp h)
  | q :: t, z, h => by
    unfold pt_st1 at h
    split at h
    · rcases List.mem_cons.mp h with h | h
      · exact Or.inl h
      · obtain ⟨h1, h2⟩ := List.mem_filter.mp h
        simp only [Bool.and_eq_true, Bool.not_eq_true'] at h2
        exact Or.inr ⟨List.mem_cons_of_mem _ h1, h2.1, h2.2⟩
    · rename_i hq
      split at h
      · rcases pt_st1_mem h with h | h
        · exact Or.inl h
        · exact Or.inr ⟨List.mem_cons_of_mem _ h.1, h.2⟩
      · rename_i hq2
        rcases List.mem_cons.mp h with h | h
        · subst h
          exact Or.inr ⟨List.mem_cons_self, hq, hq2⟩
        · rcases pt_st1_mem h with h | h
          · exact Or.inl h
          · exact Or.inr ⟨List.mem_cons_of_mem _ h.1, h.2⟩
def pt_st2 (l : List (Nat × pt_V)) (i : Nat) (v : pt_V) : List (Nat × pt_V) := l.filter (fun z => !(Nat.beq z.1 i) && (!(Nat.beq z.1 (i + 1)) && !(Nat.beq (z.1 + 1) i && pt_isL z.2))) ++ [(i, v)]
theorem pt_beq (a b : Nat) : Nat.beq a b = (a == b) := by
  rw [Bool.eq_iff_iff]
  simp [Nat.beq_eq]
theorem pt_has1 {ad : Nat → Nat → Nat} {ls : Array Slot} {n i : Nat} {l : List (Nat × pt_V)} {v : pt_V} (h : lv_has ls n ((i, pt_cv ad v) :: (pt_cl ad l).filter (fun q => !(q.1 == i) && !(q.1 + 1 == i && q.2.category == 2)))) : lv_has ls n (pt_cl ad (pt_st1 l i v)) := by
  refine pt_has_sub h ?_
  intro q hq
  obtain ⟨z, hz, rfl⟩ := List.mem_map.mp hq
  rcases pt_st1_mem hz with rfl | ⟨h1, h2, h3⟩
  · exact List.mem_cons_self
  · refine List.mem_cons_of_mem _ (List.mem_filter.mpr ⟨List.mem_map.mpr ⟨z, h1, rfl⟩, ?_⟩)
    rw [pt_beq] at h2 h3
    have hc := pt_cat ad z.2
    cases hL : pt_isL z.2 <;> simp_all
theorem pt_has2 {ad : Nat → Nat → Nat} {ls : Array Slot} {n i : Nat} {l : List (Nat × pt_V)} {v : pt_V} (h : lv_has ls n ((i, pt_cv ad v) :: (pt_cl ad l).filter (fun q => !(q.1 == i) && (!(q.1 == i + 1) && !(q.1 + 1 == i && q.2.category == 2))))) : lv_has ls n (pt_cl ad (pt_st2 l i v)) := by
  refine pt_has_sub h ?_
  intro q hq
  obtain ⟨z, hz, rfl⟩ := List.mem_map.mp hq
  rcases List.mem_append.mp hz with hz | hz
  · obtain ⟨h1, h2⟩ := List.mem_filter.mp hz
    refine List.mem_cons_of_mem _ (List.mem_filter.mpr ⟨List.mem_map.mpr ⟨z, h1, rfl⟩, ?_⟩)
    have hc := pt_cat ad z.2
    simp only [pt_beq] at h2
    cases hL : pt_isL z.2 <;> simp_all
  · rw [List.mem_singleton.mp hz]
    exact List.mem_cons_self
end
section
/-! reading and writing the memory: what it does to the heap's picture -/
theorem pt_one {D : va_G} {q : Nat × va_E} {H : Heap} (h : va_at D vwCl q H) : va_P D vwCl [q] H := by
  intro k z hz
  cases k with
  | zero => cases hz; exact h
  | succ k => cases hz
theorem pt_Hd.at {D : va_G} {ad : Nat → Nat → Nat} {cA : Nat → ClassId} {M : pt_M} {H : Heap} (h : pt_Hd D ad cA M H) {k i : Nat} {e : va_E} (hi : i < pt_ct k) (he : pt_ce ad cA M k i = some e) : va_P D vwCl [(ad k i, e)] H := pt_one (h k i e hi he)
theorem pt_dm_of {ad : Nat → Nat → Nat} {cA : Nat → ClassId} {M : pt_M} {k i : Nat} {e : va_E} (hi : i < pt_ct k) (he : pt_ce ad cA M k i = some e) : pt_dm k i := by
  refine ⟨hi, ?_⟩
  unfold pt_ce at he
  cases h : pt_ob k with
  | some q => exact Or.inl (by simp)
  | none =>
    rw [h] at he
    cases h2 : pt_ak k with
    | some q => exact Or.inr (by simp)
    | none => rw [h2] at he; cases he
/-- a cell is written: the heap holds the memory in which that cell alone is another -/
theorem pt_Hd.put {D : va_G} {ad : Nat → Nat → Nat} {cA : Nat → ClassId} {M M' : pt_M} {H H1 : Heap} {s : State} (hW : pt_Wd D ad cA s) (h : pt_Hd D ad cA M H) {k i : Nat} {e : va_E} (hd : pt_dm k i) (he : pt_ce ad cA M' k i = some e) (h1 : va_at D vwCl (ad k i, e) H1) (hq : ∀ q, q ≠ ad k i → H1[q]? = H[q]?)
    (ho : ∀ k' i', i' < pt_ct k' → ¬ (k' = k ∧ i' = i) → pt_ce ad cA M' k' i' = pt_ce ad cA M k' i') : pt_Hd D ad cA M' H1 := by
  intro k' i' e' hi' he'
  by_cases hk : k' = k ∧ i' = i
  · obtain ⟨rfl, rfl⟩ := hk
    rw [he] at he'
    cases he'
    exact h1
  · rw [ho k' i' hi' hk] at he'
    have hd' := pt_dm_of hi' he'
    refine (h k' i' e' hi' he').kept (hq _ fun z => hk ?_)
    exact hW.2.1 k' i' k i hd' hd z
theorem pt_fv_wF {M : pt_M} {k f i k' f' i' : Nat} {v : Int32} (h : ¬ (k' = k ∧ i' = i)) : pt_fv (pt_wF M k f i v) k' f' i' = pt_fv M k' f' i' := by
  unfold pt_fv
  split
  · rename_i h0
    have : pt_F (pt_wF M k f i v) k' f' i' = pt_F M k' f' i' := if_neg fun z => h ⟨z.1, z.2.2⟩
    rw [this]
  · rfl
  · rfl
theorem pt_ce_wF {ad : Nat → Nat → Nat} {cA : Nat → ClassId} {M : pt_M} {k f i k' i' : Nat} {v : Int32} (h : ¬ (k' = k ∧ i' = i)) : pt_ce ad cA (pt_wF M k f i v) k' i' = pt_ce ad cA M k' i' := by
  unfold pt_ce
  cases pt_ob k' with
  | some q => simp only [pt_fv_wF h]
  | none => rfl
theorem pt_ce_wA {ad : Nat → Nat → Nat} {cA : Nat → ClassId} {M : pt_M} {k i k' i' : Nat} {g : Nat → Int32} (h : ¬ (k' = k ∧ i' = i)) : pt_ce ad cA (pt_wA M k i g) k' i' = pt_ce ad cA M k' i' := by
  unfold pt_ce
  cases pt_ob k' with
  | some q => rfl
  | none =>
    have : pt_A (pt_wA M k i g) k' i' = pt_A M k' i' := if_neg h
    rw [this]
    rfl
theorem pt_A_wA {M : pt_M} {k i : Nat} {g : Nat → Int32} : pt_A (pt_wA M k i g) k i = g := if_pos ⟨rfl, rfl⟩
theorem pt_G_wG {M : pt_M} {k : Nat} {g : Nat → Int64} : pt_G (pt_wG M k g) k = g := if_pos rfl
theorem pt_ce_wG {ad : Nat → Nat → Nat} {cA : Nat → ClassId} {M : pt_M} {k k' i' : Nat} {g : Nat → Int64} (h : ¬ k' = k) : pt_ce ad cA (pt_wG M k g) k' i' = pt_ce ad cA M k' i' := by
  unfold pt_ce
  cases pt_ob k' with
  | some q => rfl
  | none =>
    have : pt_G (pt_wG M k g) k' = pt_G M k' := if_neg h
    rw [this]
    rfl
/-- the arrays' classes -/
theorem pt_Wd.ar {D : va_G} {ad : Nat → Nat → Nat} {cA : Nat → ClassId} {s : State} (h : pt_Wd D ad cA s) : va_K D vwCl [(cA 0, .int), (cA 1, .byte), (cA 2, .long), (cA 3, .object "PointTables$Table")] s := h.1
def pt_in (i : Int32) (n : Nat) : Prop := 0 ≤ i.toInt ∧ i.toInt < n
theorem pt_in_vp {i : Int32} {n : Nat} (h : pt_in i n) : vp_in i n := vp_in_iff.mpr h
def pt_nt (i : Int32) : Nat := i.toNatClampNeg
/-- the arrays of ints and bytes have that cell -/
theorem pt_ce_a {ad : Nat → Nat → Nat} {cA : Nat → ClassId} {M : pt_M} {k i t n : Nat} (h0 : pt_ob k = none) (ha : pt_ak k = some (t, n)) (ht : t < 2) : pt_ce ad cA M k i = some (.inl (cA t, n, .inl (pt_A M k i))) := by
  unfold pt_ce
  rw [h0, ha]
  match t, ht with
  | 0, _ => rfl
  | 1, _ => rfl
theorem pt_ce_l {ad : Nat → Nat → Nat} {cA : Nat → ClassId} {M : pt_M} {k i n : Nat} (h0 : pt_ob k = none) (ha : pt_ak k = some (2, n)) : pt_ce ad cA M k i = some (.inl (cA 2, n, .inr (.inl (pt_G M k)))) := by
  unfold pt_ce
  rw [h0, ha]
  rfl
theorem pt_ce_q {ad : Nat → Nat → Nat} {cA : Nat → ClassId} {M : pt_M} {k i n : Nat} (h0 : pt_ob k = none) (ha : pt_ak k = some (3, n)) : pt_ce ad cA M k i = some (.inl (cA 3, n, .inr (.inr (.inr (.inr fun p => some (ad 3 (pt_R M (p + 1)))))))) := by
  unfold pt_ce
  rw [h0, ha]
  rfl
theorem pt_ce_o {ad : Nat → Nat → Nat} {cA : Nat → ClassId} {M : pt_M} {k i ci n : Nat} (h0 : pt_ob k = some (ci, n)) : pt_ce ad cA M k i = some (.inr (ci, (List.range n).map fun f => pt_cv ad (pt_fv M k f i))) := by
  unfold pt_ce
  rw [h0]
theorem pt_ob_ak : ∀ {k : Nat} {q : Nat × Nat}, pt_ak k = some q → pt_ob k = none := by
  intro k q h
  unfold pt_ak at h
  split at h <;> first | rfl | cases h

theorem pt_gd {l : List Nat} (h : ∀ x ∈ l, x ≠ 1) (f : Nat) : l.getD f 0 ≠ 1 := by
  rw [List.getD_eq_getElem?_getD]
  cases hf : l[f]? with
  | none => exact fun z => by cases z
  | some x => exact h x (List.mem_of_getElem? hf)
theorem pt_fs1 {k f : Nat} (h : pt_fs k f = 1) : k = 2 := by
  unfold pt_fs at h
  split at h
  · rfl
  · exact absurd h (pt_gd (by decide) f)
  · exact absurd h (pt_gd (by decide) f)
  · exact absurd h (pt_gd (by decide) f)
  · exact absurd h (pt_gd (by decide) f)
  · exact absurd h (pt_gd (by decide) f)
  · cases h
end
section
def pt_flT : List (List (Nat × Nat × Nat)) := [
  [(11, 2, 0), (16, 2, 1), (23, 2, 2), (30, 2, 3), (37, 2, 4), (41, 2, 5), (45, 2, 6), (49, 2, 7), (52, 2, 8), (55, 2, 9), (58, 2, 10), (61, 2, 11), (64, 4, 1), (134, 3, 0), (208, 3, 4), (215, 3, 5), (233, 6, 0)],
  [(9, 3, 0), (15, 3, 1), (19, 3, 2), (22, 3, 3), (26, 3, 4), (29, 3, 5)],
  [(9, 4, 0), (15, 4, 1)],
  [(9, 5, 0), (19, 3, 4), (24, 3, 5), (27, 3, 0), (39, 3, 3)],
  [(9, 6, 0), (15, 6, 1), (18, 6, 2), (21, 6, 3), (24, 4, 1), (51, 3, 0)],
  [(7, 3, 2), (22, 3, 0)],
  [(9, 3, 0)],
  [(7, 7, 1), (13, 7, 4), (17, 7, 5), (20, 7, 6), (24, 7, 7), (27, 7, 8), (31, 7, 9), (34, 7, 10), (37, 7, 11), (40, 7, 12), (43, 7, 13), (46, 7, 14), (49, 7, 15), (52, 7, 17), (55, 7, 18), (58, 7, 19), (61, 7, 20), (64, 7, 0), (67, 7, 2), (74, 7, 3), (174, 7, 16)],
  [],
  [],
  [],
  []]

def pt_fd : List (Nat × Nat × Nat) → Nat → Option (Nat × Nat)
  | [], _ => none
  | q :: t, i => match Nat.beq q.1 i with
    | true => some q.2
    | false => pt_fd t i
theorem pt_fd_mem : ∀ {l : List (Nat × Nat × Nat)} {i : Nat} {v : Nat × Nat}, pt_fd l i = some v → (i, v) ∈ l
  | [], _, _, h => by cases h
  | q :: t, i, v, h => by
    unfold pt_fd at h
    split at h
    · rename_i hq
      cases h
      have : q.1 = i := Nat.eq_of_beq_eq_true hq
      subst this
      exact List.mem_cons_self
    · exact List.mem_cons_of_mem _ (pt_fd_mem h)
def pt_fl (cn idx : Nat) : Option (Nat × Nat) := pt_fd (pt_flT.getD cn []) idx
def pt_flB (cn : Nat) (q : Nat × Nat × Nat) : Bool := match pt_ob q.2.1 with
  | none => false
  | some z => match vwCl[z.1]? with
    | none => false
    | some c => decide (c.2.2 = z.2) && decide (q.2.2 < z.2) && decide (Cond.fieldLink (pt_own cn) q.1 (c.2.1 q.2.2).1 (c.2.1 q.2.2).2.1 (c.2.1 q.2.2).2.2.1 ∈ pt_tb)
set_option maxRecDepth 100000 in
theorem pt_flT_ok : (List.range 12).all (fun cn => (pt_flT.getD cn []).all (pt_flB cn)) = true := by decide +kernel
theorem pt_fl_ok {cn idx k f : Nat} (h : pt_fl cn idx = some (k, f)) : ∃ ci N C T, pt_ob k = some (ci, N) ∧ vwCl[ci]? = some (C, T, N) ∧ f < N ∧ Cond.fieldLink (pt_own cn) idx (T f).1 (T f).2.1 (T f).2.2.1 ∈ pt_tb := by
  have h1 := pt_fd_mem h
  have hcn : cn < 12 := by
    rcases Nat.lt_or_ge cn 12 with q | q
    · exact q
    · have : pt_flT.getD cn [] = [] := by
        rw [List.getD_eq_getElem?_getD, List.getElem?_eq_none (by exact q)]
        rfl
      rw [this] at h1
      cases h1
  have h2 := List.all_eq_true.mp (List.all_eq_true.mp pt_flT_ok cn (List.mem_range.mpr hcn)) _ h1
  unfold pt_flB at h2
  split at h2
  · cases h2
  · rename_i z hz
    split at h2
    · cases h2
    · rename_i c hc
      simp only [Bool.and_eq_true, decide_eq_true_eq] at h2
      obtain ⟨ci, N⟩ := z
      obtain ⟨C, T, N'⟩ := c
      obtain ⟨⟨e1, e2⟩, e3⟩ := h2
      dsimp only at e1 e2 e3 hz hc
      subst e1
      exact ⟨ci, N', C, T, hz, hc, e2, e3⟩
def pt_t0 (T : u_T) (k : Nat) : FieldType := (parseFieldDescriptor (T k).2.2.1).getD .int
set_option maxRecDepth 100000 in
theorem pt_us : vwCl.all (fun q => (u_ws q.1 q.2.1 q.2.2).all (fun w => decide (w ∈ pt_tb))) = true := by decide +kernel
theorem pt_us' {ci : Nat} {C : String} {T : u_T} {N : Nat} (h : vwCl[ci]? = some (C, T, N)) : ∀ w ∈ u_ws C T N, w ∈ pt_tb := by
  intro w hw
  have h1 := List.all_eq_true.mp pt_us _ (List.mem_of_getElem? h)
  exact of_decide_eq_true (List.all_eq_true.mp h1 w hw)
theorem pt_t0_of {T : u_T} {ty : Nat → FieldType} {N : Nat} (h : ∀ k, k < N → parseFieldDescriptor (T k).2.2.1 = some (ty k)) : ∀ k, k < N → parseFieldDescriptor (T k).2.2.1 = some (pt_t0 T k) := by
  intro k hk
  unfold pt_t0
  rw [h k hk]
  rfl
theorem pt_tn {ci : Nat} {C : String} {T : u_T} {N : Nat} (h : vwCl[ci]? = some (C, T, N)) : (∀ k, k < N → parseFieldDescriptor (T k).2.2.1 = some (pt_t0 T k)) ∧ ∀ a, a < N → ∀ b, b < N → a ≠ b → (T a).2.1 ≠ (T b).2.1 := by
  match ci, h with
  | 0, h => cases h; exact ⟨pt_t0_of tyX0_ok, nmX0⟩
  | 1, h => cases h; exact ⟨pt_t0_of tyX3_ok, nmX3⟩
  | 2, h => cases h; exact ⟨pt_t0_of tyX4_ok, nmX4⟩
  | 3, h => cases h; exact ⟨pt_t0_of tyX5_ok, nmX5⟩
  | 4, h => cases h; exact ⟨pt_t0_of tyX6_ok, nmX6⟩
  | 5, h => cases h; exact ⟨pt_t0_of tyX7_ok, nmX7⟩
  | n + 6, h => cases h
section PTM
variable {p : Program} {l : Launch} {e : Env} {R : Room} {s : State} {m : MethodId} {args : Array Value} {below : List Frame} {meth : Method} {c : Code} {H : Heap} {locs : List Loc} {cells slots : Nat} {Q : State → Prop}
variable {cc : ByteArray} {pc : Nat} {ls : Array Slot} {rest : List Value} {D : va_G} {A : Nat → Prop} {tys : List (ClassId × FieldType)}
/-- a field is written; all other cells stay -/
theorem pt_putW {a : Nat} (hexec : p.tables.exec = Jvm.exec) (hb : c.code = cc) {own : String} {ci index : Nat} {C : String} {T : u_T} {N : Nat} (hts : ∀ w ∈ pt_tb, w.before args s = true) (hown : s.vm.findClass own = some m.cls) (hK : va_K D vwCl tys s) (hS0 : va_S A s.heap H locs) {fs : List Value} (he : va_at D vwCl (a, .inr (ci, fs)) H) (hc : vwCl[ci]? = some (C, T, N)) (k : Nat) (hk : k < N) (hlink : Cond.fieldLink own index (T k).1 (T k).2.1 (T k).2.2.1 ∈ pt_tb) (hfin : (T k).2.2.2 = false) {v : Value} (hn : narrow (pt_t0 T k) v = v) (hfit : fits (pt_t0 T k) v = true) (hl : k < fs.length) (hAa : A a)
    (hdg : decode cc pc = .ok (.putfield index, 3)) (kk : ∀ (H1 : Heap) (locs1 : List Loc), va_at D vwCl (a, .inr (ci, fs.set k v)) H1 → (∀ q, q ≠ a → H1[q]? = H[q]?) → va_S A s.heap H1 locs1 → W p l e R s m args below meth c H1 locs1 cells slots Q (F0 m (pc + 3) ls rest)) : W p l e R s m args below meth c H locs cells slots Q (F0 m pc ls (v :: .ref a :: rest)) := by
  have hin := pt_us' hc
  obtain ⟨hty, hnm⟩ := pt_tn hc
  have hap := va_apart (own := own) hts hin (pt_t0 T) hty hnm hK hc
  obtain ⟨r, h1, cell, q1, q2, q3, q4⟩ := he
  have hr : r = (C, T, N) := Option.some.inj (h1.symm.trans hc)
  subst hr
  obtain ⟨hS, hfc, kC, hkC, hkind⟩ := hK.1 ci _ hc
  obtain ⟨cf, kf, fi, f, hi, hsl⟩ := hS k hk
  have hlay := hts _ (hin _ (u_in_lay hk))
  unfold u_lay at hlay
  rw [if_neg (by rw [hfin]; decide)] at hlay
  have hst := (u_facts hfc hkC (u_lays hts hin hk) hi).1
  have h6 := u_store hfc hkC hkind hlay hi (hty k hk) hn hfit
  refine W.putK hexec hb (f := f) ⟨hown, hts _ hlink, ⟨_, _, _, hi⟩, hst⟩ (by rw [q2]; exact h6) q1 q3 (by rw [hsl]; exact k2_hasslot (q4 k hk)) rfl rfl hdg fun H' e1 e2 e3 => ?_
  rw [hsl] at e1 ⊢
  exact kk H' _ ⟨_, hc, t_OB.to (V := updV (vp_V fs) k v) ⟨_, e1, q2, q3, t_set q4 hap hk v⟩ (fun j _ => vp_updV_set hl v j)⟩ e3 (hS0.put e2 e3 hAa)
theorem pt_iastW {a : Nat} (hexec : p.tables.exec = Jvm.exec) (hb : c.code = cc) (hK : va_K D vwCl tys s) (hS : va_S A s.heap H locs) (t0 : Nat) {cA : ClassId} {n : Nat} {f : Nat → Int32} (ha : va_at D vwCl (a, .inl (cA, n, .inl f)) H) (ht : tys[t0]? = some (cA, .int)) {i : Int32} {x : Int32} (hin : vp_in i n) (hAa : A a) (hdg : decode cc pc = .ok (.iastore, 1))
    (kk : ∀ (H1 : Heap) (locs1 : List Loc), va_at D vwCl (a, .inl (cA, n, .inl (upd f i.toNatClampNeg x))) H1 → (∀ q, q ≠ a → H1[q]? = H[q]?) → va_S A s.heap H1 locs1 → W p l e R s m args below meth c H1 locs1 cells slots Q (F0 m (pc + 1) ls rest)) : W p l e R s m args below meth c H locs cells slots Q (F0 m pc ls (.int x :: .int i :: .ref a :: rest)) := by
  refine W.iast hexec hb ha ((hK.2 t0 _ ht).1 n (fun j => .int (f j))) (fun q => by cases q) (by show ¬ (i < 0 ∨ (arrV _ _ _).slots.size ≤ _); rw [arrV_size]; exact hin) rfl rfl hdg fun H1 e z oq => ?_
  refine kk H1 _ ?_ oq (hS.put z oq hAa)
  show H1[a]? = some (vp_cell _ _)
  rw [e, vp_cell_i, vp_cell_i, arrV_store]
  congr 2
  funext q
  by_cases hq : q = i.toNatClampNeg
  · subst hq
    simp [updV, upd]
  · simp [updV, upd, hq]
theorem pt_bastW {a : Nat} (hexec : p.tables.exec = Jvm.exec) (hb : c.code = cc) (hK : va_K D vwCl tys s) (hS : va_S A s.heap H locs) (t0 : Nat) {cA : ClassId} {n : Nat} {f : Nat → Int32} (ha : va_at D vwCl (a, .inl (cA, n, .inl f)) H) (ht : tys[t0]? = some (cA, .byte)) {i : Int32} {x : Int32} (hin : vp_in i n) (hAa : A a) (hdg : decode cc pc = .ok (.bastore, 1))
    (kk : ∀ (H1 : Heap) (locs1 : List Loc), va_at D vwCl (a, .inl (cA, n, .inl (upd f i.toNatClampNeg x.toInt8.toInt32))) H1 → (∀ q, q ≠ a → H1[q]? = H[q]?) → va_S A s.heap H1 locs1 → W p l e R s m args below meth c H1 locs1 cells slots Q (F0 m (pc + 1) ls rest)) : W p l e R s m args below meth c H locs cells slots Q (F0 m pc ls (.int x :: .int i :: .ref a :: rest)) := by
  refine W.bast hexec hb ha ((hK.2 t0 _ ht).1 n (fun j => .int (f j))) (fun q => by cases q) (by show ¬ (i < 0 ∨ (arrV _ _ _).slots.size ≤ _); rw [arrV_size]; exact hin) rfl rfl hdg fun H1 e z oq => ?_
  refine kk H1 _ ?_ oq (hS.put z oq hAa)
  show H1[a]? = some (vp_cell _ _)
  rw [e, vp_cell_i, vp_cell_i, arrV_store]
  congr 2
  funext q
  by_cases hq : q = i.toNatClampNeg
  · subst hq
    simp [updV, upd, narrow_byte]
  · simp [updV, upd, hq]
theorem pt_lastW {a : Nat} (hexec : p.tables.exec = Jvm.exec) (hb : c.code = cc) (hK : va_K D vwCl tys s) (hS : va_S A s.heap H locs) (t0 : Nat) {cA : ClassId} {n : Nat} {f : Nat → Int64} (ha : va_at D vwCl (a, .inl (cA, n, .inr (.inl f))) H) (ht : tys[t0]? = some (cA, .long)) {i : Int32} {x : Int64} (hin : vp_in i n) (hAa : A a) (hdg : decode cc pc = .ok (.lastore, 1))
    (kk : ∀ (H1 : Heap) (locs1 : List Loc), va_at D vwCl (a, .inl (cA, n, .inr (.inl (vp_updL f i.toNatClampNeg x)))) H1 → (∀ q, q ≠ a → H1[q]? = H[q]?) → va_S A s.heap H1 locs1 → W p l e R s m args below meth c H1 locs1 cells slots Q (F0 m (pc + 1) ls rest)) : W p l e R s m args below meth c H locs cells slots Q (F0 m pc ls (.long x :: .int i :: .ref a :: rest)) := by
  refine W.last hexec hb ha ((hK.2 t0 _ ht).1 n (fun j => .long (f j))) (fun q => by cases q) (by show ¬ (i < 0 ∨ (arrV _ _ _).slots.size ≤ _); rw [arrV_size]; exact hin) rfl rfl hdg fun H1 e z oq => ?_
  refine kk H1 _ ?_ oq (hS.put z oq hAa)
  show H1[a]? = some (vp_cell _ _)
  rw [e, vp_cell_l, vp_cell_l, arrV_store]
  congr 2
  funext q
  by_cases hq : q = i.toNatClampNeg
  · subst hq
    simp [updV, vp_updL]
  · simp [updV, vp_updL, hq]
theorem pt_aastW {a v : Nat} (hexec : p.tables.exec = Jvm.exec) (hb : c.code = cc) (hK : va_K D vwCl tys s) (hS : va_S A s.heap H locs) (t0 ci : Nat) {cA : ClassId} {r : vw_C} {n : Nat} {vs : List Value} {f : Nat → Option Nat} (ha : va_at D vwCl (a, .inl (cA, n, .inr (.inr (.inr (.inr f))))) H) (ht : tys[t0]? = some (cA, .object r.1)) (hv : va_at D vwCl (v, .inr (ci, vs)) H) (hc : vwCl[ci]? = some r) {i : Int32} (hin : vp_in i n) (hAa : A a) (hdg : decode cc pc = .ok (.aastore, 1))
    (kk : ∀ (H1 : Heap) (locs1 : List Loc), va_at D vwCl (a, .inl (cA, n, .inr (.inr (.inr (.inr (va_up f i.toNatClampNeg (some v))))))) H1 → (∀ q, q ≠ a → H1[q]? = H[q]?) → va_S A s.heap H1 locs1 → W p l e R s m args below meth c H1 locs1 cells slots Q (F0 m (pc + 1) ls rest)) : W p l e R s m args below meth c H locs cells slots Q (F0 m pc ls (.ref v :: .int i :: .ref a :: rest)) := by
  have hlt : i.toNatClampNeg < n := Nat.not_le.mp fun q => hin (Or.inr q)
  have h0 : ¬ i < 0 := fun q => hin (Or.inl q)
  obtain ⟨r', hr', cellV, g1, g2, g3, -⟩ := hv
  have hcls := (hK.1 ci r hc).2
  obtain ⟨kA, comp, k1, k2, k3, -⟩ := (hK.2 t0 _ ht).2
  have hcomp : comp = D.1 ci := Option.some.inj (k3.symm.trans hcls.1)
  subst hcomp
  obtain ⟨kC, hkC, -⟩ := hcls.2
  refine W.aast hexec hb ha (fun q h => by cases h) (fun h => by cases h) k1 k2 rfl hkC ⟨h0, by show _ < (arrV _ _ _).slots.size; rw [arrV_size]; exact hlt⟩ g1 (fun q h => by rw [g3] at h; cases h) (by rw [g2]; exact hkC) (by rw [g2]; exact va_assign hcls) rfl rfl hdg fun H1 e z oq => ?_
  refine kk H1 _ ?_ oq (hS.put z oq hAa)
  show H1[a]? = some (vp_cell _ _)
  rw [e, vp_cell_q, vp_cell_q, arrV_store]
  congr 2
  funext q
  by_cases hq : q = i.toNatClampNeg
  · subst hq
    simp [updV, va_up, va_rf]
  · simp [updV, va_up, hq]
end PTM
end
section
/-! one instruction, as a step of the abstract machine -/
theorem pt_k1 {k : Nat} (h : k ≠ 0) : ∃ n, k = n + 1 := ⟨k - 1, by omega⟩
theorem pt_ob0 {k : Nat} {q : Nat × Nat} (h : pt_ob k = some q) : ∃ n, k = n + 1 := by
  apply pt_k1
  rintro rfl
  cases h
theorem pt_ak0 {k : Nat} {q : Nat × Nat} (h : pt_ak k = some q) : ∃ n, k = n + 1 := by
  apply pt_k1
  rintro rfl
  cases h
theorem pt_getf {Y : pt_Y} {pc idx k f i : Nat} {L : List (Nat × pt_V)} {st : List pt_V} {M : pt_M} (hf : pt_fl Y.1 idx = some (k, f)) (hi : i < pt_ct k) (hd : decode Y.2.1 pc = .ok (.getfield idx, 3)) : pt_Go Y (pc, L, pt_r k i :: st, M) (pc + 3, L, pt_fv M k f i :: st, M) := by
  obtain ⟨ci, N, C, T, h1, h2, h3, h4⟩ := pt_fl_ok hf
  obtain ⟨k, rfl⟩ := pt_ob0 h1
  intro p l e s m args below meth c D ad cA A cells slots Q hC hA H locs ls g1 g2 g3 g4
  obtain ⟨hx, hb, hr, hml, hown, hts, hlk, hW, hAd⟩ := hC
  have hP := g1.at hi (pt_ce_o (ad := ad) (cA := cA) (M := M) (i := i) h1)
  exact va_get hx hb hts (pt_us' h2) hown hW.1 hP 0 rfl h2 f h3 (hts _ h4) (fun _ z => z) (v := pt_cv ad (pt_fv M (k + 1) f i)) (by simp [h3]) hd (hA H locs ls g1 g2 g3 g4)
/-- a number is written into a field; b: it is a boolean -/
theorem pt_putf {Y : pt_Y} {pc idx k f i : Nat} {x : Int32} {L : List (Nat × pt_V)} {st : List pt_V} {M : pt_M} (hf : pt_fl Y.1 idx = some (k, f)) (hi : i < pt_ct k) (hs : pt_fs k f = 0) (hw : ∀ ci C T N, pt_ob k = some (ci, N) → vwCl[ci]? = some (C, T, N) → (T f).2.2.2 = false ∧ narrow (pt_t0 T f) (.int x) = .int x ∧ fits (pt_t0 T f) (.int x) = true) (hd : decode Y.2.1 pc = .ok (.putfield idx, 3)) : pt_Go Y (pc, L, pt_i x :: pt_r k i :: st, M) (pc + 3, L, st, pt_wF M k f i x) := by
  obtain ⟨ci, N, C, T, h1, h2, h3, h4⟩ := pt_fl_ok hf
  obtain ⟨w1, w2, w3⟩ := hw ci C T N h1 h2
  obtain ⟨k, rfl⟩ := pt_ob0 h1
  intro p l e s m args below meth c D ad cA A cells slots Q hC hA H locs ls g1 g2 g3 g4
  obtain ⟨hx, hb, hr, hml, hown, hts, hlk, hW, hAd⟩ := hC
  have hce := pt_ce_o (ad := ad) (cA := cA) (M := M) (i := i) h1
  have hdm := pt_dm_of hi hce
  refine pt_putW hx hb hts hown hW.1 g3 (g1 _ _ _ hi hce) h2 f h3 h4 w1 w2 w3 (by simp [h3]) (hAd _ _ hdm) hd fun H1 locs1 e1 e2 e3 => ?_
  refine hA H1 locs1 ls ?_ g2 e3 g4
  refine g1.put hW hdm (pt_ce_o (ad := ad) (cA := cA) (M := pt_wF M (k + 1) f i x) (i := i) h1) ?_ e2 (fun k' i' _ h => pt_ce_wF h)
  have : (List.range N).map (fun f' => pt_cv ad (pt_fv (pt_wF M (k + 1) f i x) (k + 1) f' i)) = ((List.range N).map (fun f' => pt_cv ad (pt_fv M (k + 1) f' i))).set f (.int x) := by
    apply List.ext_getElem?
    intro j
    rw [List.getElem?_set]
    by_cases hj : f = j
    · subst hj
      simp only [List.getElem?_map, List.length_map, List.length_range, h3, List.getElem?_range, if_true, Option.map_some]
      congr 1
      unfold pt_fv
      rw [hs]
      show Value.int (if _ then x else _) = _
      rw [if_pos ⟨rfl, rfl, rfl⟩]
    · rw [if_neg hj]
      simp only [List.getElem?_map]
      cases hr : (List.range N)[j]? with
      | none => rfl
      | some z =>
        have hz : j = z := by
          obtain ⟨hz1, hz2⟩ := List.getElem?_eq_some_iff.mp hr
          simpa using hz2
        subst hz
        simp only [Option.map_some]
        congr 2
        unfold pt_fv
        split
        · have : pt_F (pt_wF M (k + 1) f i x) (k + 1) j i = pt_F M (k + 1) j i := if_neg fun z => hj z.2.1.symm
          rw [this]
        · rfl
        · rfl
  rw [this]
  exact e1
/-- the spare is another table -/
theorem pt_putS {Y : pt_Y} {pc idx t : Nat} {L : List (Nat × pt_V)} {st : List pt_V} {M : pt_M} (hf : pt_fl Y.1 idx = some (2, 1)) (hd : decode Y.2.1 pc = .ok (.putfield idx, 3)) : pt_Go Y (pc, L, pt_r 3 t :: pt_r 2 0 :: st, M) (pc + 3, L, st, pt_wR M 0 t) := by
  obtain ⟨ci, N, C, T, h1, h2, h3, h4⟩ := pt_fl_ok hf
  cases h1
  cases h2
  intro p l e s m args below meth c D ad cA A cells slots Q hC hA H locs ls g1 g2 g3 g4
  obtain ⟨hx, hb, hr, hml, hown, hts, hlk, hW, hAd⟩ := hC
  have hi : 0 < pt_ct 2 := by decide
  have hce := pt_ce_o (ad := ad) (cA := cA) (M := M) (i := 0) (k := 2) (ci := 4) (n := 12) rfl
  have hdm := pt_dm_of hi hce
  have hty : pt_t0 TX6 1 = .object "PointTables$Table" := by decide +kernel
  refine pt_putW hx hb hts hown hW.1 g3 (g1 _ _ _ hi hce) rfl 1 h3 h4 rfl (v := .ref (ad 3 t)) (by rw [hty]; rfl) (by rw [hty]; rfl) (by simp) (hAd _ _ hdm) hd fun H1 locs1 e1 e2 e3 => ?_
  refine hA H1 locs1 ls ?_ g2 e3 g4
  refine g1.put hW hdm (pt_ce_o (ad := ad) (cA := cA) (M := pt_wR M 0 t) (i := 0) (k := 2) (ci := 4) (n := 12) rfl) e1 e2 (fun k' i' hi9 h => ?_)
  unfold pt_ce
  cases hk : pt_ob k' with
  | none => rfl
  | some q =>
    simp only [Option.some.injEq, Sum.inr.injEq, Prod.mk.injEq, true_and]
    apply List.map_congr_left
    intro f hf9
    congr 1
    unfold pt_fv
    split
    · rfl
    · rename_i hfs
      exfalso
      have := pt_fs1 hfs
      subst this
      exact h ⟨rfl, Nat.lt_one_iff.mp hi9⟩
    · rfl
/-- arrays: reading -/
theorem pt_iald {Y : pt_Y} {pc k i n : Nat} {j : Int32} {L : List (Nat × pt_V)} {st : List pt_V} {M : pt_M} (ha : pt_ak k = some (0, n)) (hi : i < pt_ct k) (hj : pt_in j n) (hd : decode Y.2.1 pc = .ok (.iaload, 1)) : pt_Go Y (pc, L, pt_i j :: pt_r k i :: st, M) (pc + 1, L, pt_i (pt_A M k i (pt_nt j)) :: st, M) := by
  obtain ⟨k, rfl⟩ := pt_ak0 ha
  intro p l e s m args below meth c D ad cA A cells slots Q hC hA H locs ls g1 g2 g3 g4
  obtain ⟨hx, hb, hr, hml, hown, hts, hlk, hW, hAd⟩ := hC
  exact va_iald hx hb hW.1 (g1.at hi (pt_ce_a (pt_ob_ak ha) ha (by decide))) 0 0 rfl rfl (pt_in_vp hj) hd (hA H locs ls g1 g2 g3 g4)
theorem pt_bald {Y : pt_Y} {pc k i n : Nat} {j : Int32} {L : List (Nat × pt_V)} {st : List pt_V} {M : pt_M} (ha : pt_ak k = some (1, n)) (hi : i < pt_ct k) (hj : pt_in j n) (hd : decode Y.2.1 pc = .ok (.baload, 1)) : pt_Go Y (pc, L, pt_i j :: pt_r k i :: st, M) (pc + 1, L, pt_i (pt_A M k i (pt_nt j)) :: st, M) := by
  obtain ⟨k, rfl⟩ := pt_ak0 ha
  intro p l e s m args below meth c D ad cA A cells slots Q hC hA H locs ls g1 g2 g3 g4
  obtain ⟨hx, hb, hr, hml, hown, hts, hlk, hW, hAd⟩ := hC
  exact va_bald hx hb hW.1 (g1.at hi (pt_ce_a (pt_ob_ak ha) ha (by decide))) 0 1 rfl rfl (pt_in_vp hj) hd (hA H locs ls g1 g2 g3 g4)
theorem pt_lald {Y : pt_Y} {pc k i n : Nat} {j : Int32} {L : List (Nat × pt_V)} {st : List pt_V} {M : pt_M} (ha : pt_ak k = some (2, n)) (hi : i < pt_ct k) (hj : pt_in j n) (hd : decode Y.2.1 pc = .ok (.laload, 1)) : pt_Go Y (pc, L, pt_i j :: pt_r k i :: st, M) (pc + 1, L, pt_l (pt_G M k (pt_nt j)) :: st, M) := by
  obtain ⟨k, rfl⟩ := pt_ak0 ha
  intro p l e s m args below meth c D ad cA A cells slots Q hC hA H locs ls g1 g2 g3 g4
  obtain ⟨hx, hb, hr, hml, hown, hts, hlk, hW, hAd⟩ := hC
  exact va_lald hx hb hW.1 (g1.at hi (pt_ce_l (pt_ob_ak ha) ha)) 0 2 rfl rfl (pt_in_vp hj) hd (hA H locs ls g1 g2 g3 g4)
theorem pt_aald {Y : pt_Y} {pc k i n : Nat} {j : Int32} {L : List (Nat × pt_V)} {st : List pt_V} {M : pt_M} (ha : pt_ak k = some (3, n)) (hi : i < pt_ct k) (hj : pt_in j n) (hd : decode Y.2.1 pc = .ok (.aaload, 1)) : pt_Go Y (pc, L, pt_i j :: pt_r k i :: st, M) (pc + 1, L, pt_r 3 (pt_R M (pt_nt j + 1)) :: st, M) := by
  obtain ⟨k, rfl⟩ := pt_ak0 ha
  intro p l e s m args below meth c D ad cA A cells slots Q hC hA H locs ls g1 g2 g3 g4
  obtain ⟨hx, hb, hr, hml, hown, hts, hlk, hW, hAd⟩ := hC
  exact va_aldq hx hb hW.1 (g1.at hi (pt_ce_q (pt_ob_ak ha) ha)) 0 3 rfl rfl (pt_in_vp hj) hd (hA H locs ls g1 g2 g3 g4)
theorem pt_xald {Y : pt_Y} {pc k n : Nat} {f : Nat → Int32} {j : Int32} {L : List (Nat × pt_V)} {st : List pt_V} {M : pt_M} (ha : pt_ro M k = some (n, f)) (hj : pt_in j n) (hd : decode Y.2.1 pc = .ok (.iaload, 1)) : pt_Go Y (pc, L, pt_i j :: pt_r k 0 :: st, M) (pc + 1, L, pt_i (f (pt_nt j)) :: st, M) := by
  obtain ⟨k, rfl⟩ : ∃ n, k = n + 1 := by
    apply pt_k1
    rintro rfl
    cases ha
  intro p l e s m args below meth c D ad cA A cells slots Q hC hA H locs ls g1 g2 g3 g4
  obtain ⟨hx, hb, hr, hml, hown, hts, hlk, hW, hAd⟩ := hC
  obtain ⟨hX, hnA⟩ := g2.1 _ _ ha
  have hlt : ad (k + 1) 0 < s.heap.size := by
    obtain ⟨scr, h1, -⟩ := hX
    exact (Array.getElem?_eq_some_iff.mp h1).1
  exact va_sld hx hb hX hlt hnA g3 (pt_in_vp hj) hd (hA H locs ls g1 g2 g3 g4)
theorem pt_xlen {Y : pt_Y} {pc k n : Nat} {f : Nat → Int32} {L : List (Nat × pt_V)} {st : List pt_V} {M : pt_M} (ha : pt_ro M k = some (n, f)) (hd : decode Y.2.1 pc = .ok (.arraylength, 1)) : pt_Go Y (pc, L, pt_r k 0 :: st, M) (pc + 1, L, pt_i (nI n) :: st, M) := by
  obtain ⟨k, rfl⟩ : ∃ n, k = n + 1 := by
    apply pt_k1
    rintro rfl
    cases ha
  intro p l e s m args below meth c D ad cA A cells slots Q hC hA H locs ls g1 g2 g3 g4
  obtain ⟨hx, hb, hr, hml, hown, hts, hlk, hW, hAd⟩ := hC
  obtain ⟨hX, hnA⟩ := g2.1 _ _ ha
  have hlt : ad (k + 1) 0 < s.heap.size := by
    obtain ⟨scr, h1, -⟩ := hX
    exact (Array.getElem?_eq_some_iff.mp h1).1
  exact va_slen hx hb hX hlt hnA g3 hd (hA H locs ls g1 g2 g3 g4)
theorem pt_alen {Y : pt_Y} {pc k i t n : Nat} {L : List (Nat × pt_V)} {st : List pt_V} {M : pt_M} (ha : pt_ak k = some (t, n)) (ht : t < 2) (hi : i < pt_ct k) (hd : decode Y.2.1 pc = .ok (.arraylength, 1)) : pt_Go Y (pc, L, pt_r k i :: st, M) (pc + 1, L, pt_i (nI n) :: st, M) := by
  obtain ⟨k, rfl⟩ := pt_ak0 ha
  intro p l e s m args below meth c D ad cA A cells slots Q hC hA H locs ls g1 g2 g3 g4
  obtain ⟨hx, hb, hr, hml, hown, hts, hlk, hW, hAd⟩ := hC
  have hP := g1.at hi (pt_ce_a (ad := ad) (cA := cA) (M := M) (i := i) (pt_ob_ak ha) ha ht)
  match t, ht, hP with
  | 0, _, hP => exact va_alen hx hb hW.1 hP 0 0 rfl rfl rfl hd (hA H locs ls g1 g2 g3 g4)
  | 1, _, hP => exact va_alen hx hb hW.1 hP 0 1 rfl rfl rfl hd (hA H locs ls g1 g2 g3 g4)
/-- arrays: writing -/
theorem pt_iast {Y : pt_Y} {pc k i n : Nat} {j x : Int32} {L : List (Nat × pt_V)} {st : List pt_V} {M : pt_M} (ha : pt_ak k = some (0, n)) (hi : i < pt_ct k) (hj : pt_in j n) (hd : decode Y.2.1 pc = .ok (.iastore, 1)) : pt_Go Y (pc, L, pt_i x :: pt_i j :: pt_r k i :: st, M) (pc + 1, L, st, pt_wA M k i (upd (pt_A M k i) (pt_nt j) x)) := by
  obtain ⟨k, rfl⟩ := pt_ak0 ha
  intro p l e s m args below meth c D ad cA A cells slots Q hC hA H locs ls g1 g2 g3 g4
  obtain ⟨hx, hb, hr, hml, hown, hts, hlk, hW, hAd⟩ := hC
  have hce := pt_ce_a (ad := ad) (cA := cA) (M := M) (i := i) (pt_ob_ak ha) ha (by decide)
  have hdm := pt_dm_of hi hce
  refine pt_iastW hx hb hW.1 g3 0 (g1 _ _ _ hi hce) rfl (pt_in_vp hj) (hAd _ _ hdm) hd fun H1 locs1 e1 e2 e3 => ?_
  refine hA H1 locs1 ls ?_ g2 e3 g4
  refine g1.put hW hdm (pt_ce_a (pt_ob_ak ha) ha (by decide)) ?_ e2 (fun k' i' _ h => pt_ce_wA h)
  rw [pt_A_wA]
  exact e1
theorem pt_bast {Y : pt_Y} {pc k i n : Nat} {j x : Int32} {L : List (Nat × pt_V)} {st : List pt_V} {M : pt_M} (ha : pt_ak k = some (1, n)) (hi : i < pt_ct k) (hj : pt_in j n) (hd : decode Y.2.1 pc = .ok (.bastore, 1)) : pt_Go Y (pc, L, pt_i x :: pt_i j :: pt_r k i :: st, M) (pc + 1, L, st, pt_wA M k i (upd (pt_A M k i) (pt_nt j) x.toInt8.toInt32)) := by
  obtain ⟨k, rfl⟩ := pt_ak0 ha
  intro p l e s m args below meth c D ad cA A cells slots Q hC hA H locs ls g1 g2 g3 g4
  obtain ⟨hx, hb, hr, hml, hown, hts, hlk, hW, hAd⟩ := hC
  have hce := pt_ce_a (ad := ad) (cA := cA) (M := M) (i := i) (pt_ob_ak ha) ha (by decide)
  have hdm := pt_dm_of hi hce
  refine pt_bastW hx hb hW.1 g3 1 (g1 _ _ _ hi hce) rfl (pt_in_vp hj) (hAd _ _ hdm) hd fun H1 locs1 e1 e2 e3 => ?_
  refine hA H1 locs1 ls ?_ g2 e3 g4
  refine g1.put hW hdm (pt_ce_a (pt_ob_ak ha) ha (by decide)) ?_ e2 (fun k' i' _ h => pt_ce_wA h)
  rw [pt_A_wA]
  exact e1
theorem pt_last {Y : pt_Y} {pc k n : Nat} {j : Int32} {x : Int64} {L : List (Nat × pt_V)} {st : List pt_V} {M : pt_M} (ha : pt_ak k = some (2, n)) (h1 : pt_ct k = 1) (hj : pt_in j n) (hd : decode Y.2.1 pc = .ok (.lastore, 1)) : pt_Go Y (pc, L, pt_l x :: pt_i j :: pt_r k 0 :: st, M) (pc + 1, L, st, pt_wG M k (vp_updL (pt_G M k) (pt_nt j) x)) := by
  have hi : 0 < pt_ct k := by omega
  obtain ⟨k, rfl⟩ := pt_ak0 ha
  intro p l e s m args below meth c D ad cA A cells slots Q hC hA H locs ls g1 g2 g3 g4
  obtain ⟨hx, hb, hr, hml, hown, hts, hlk, hW, hAd⟩ := hC
  have hce := pt_ce_l (ad := ad) (cA := cA) (M := M) (i := 0) (pt_ob_ak ha) ha
  have hdm := pt_dm_of hi hce
  refine pt_lastW hx hb hW.1 g3 2 (g1 _ _ _ hi hce) rfl (pt_in_vp hj) (hAd _ _ hdm) hd fun H1 locs1 e1 e2 e3 => ?_
  refine hA H1 locs1 ls ?_ g2 e3 g4
  refine g1.put hW hdm (pt_ce_l (pt_ob_ak ha) ha) ?_ e2 (fun k' i' hi9 h => pt_ce_wG (fun z => h ⟨z, by rw [z] at hi9; omega⟩))
  rw [pt_G_wG]
  exact e1
theorem pt_aast {Y : pt_Y} {pc t : Nat} {j : Int32} {L : List (Nat × pt_V)} {st : List pt_V} {M : pt_M} (ht : t < 7) (hj : pt_in j 6) (hd : decode Y.2.1 pc = .ok (.aastore, 1)) : pt_Go Y (pc, L, pt_r 3 t :: pt_i j :: pt_r 10 0 :: st, M) (pc + 1, L, st, pt_wR M (pt_nt j + 1) t) := by
  intro p l e s m args below meth c D ad cA A cells slots Q hC hA H locs ls g1 g2 g3 g4
  obtain ⟨hx, hb, hr, hml, hown, hts, hlk, hW, hAd⟩ := hC
  have hi : 0 < pt_ct 10 := by decide
  have hce := pt_ce_q (ad := ad) (cA := cA) (M := M) (i := 0) (k := 10) (n := 6) rfl rfl
  have hdm := pt_dm_of hi hce
  have hv := g1 3 t _ ht (pt_ce_o (ad := ad) (cA := cA) (M := M) (i := t) (k := 3) (ci := 2) (n := 6) rfl)
  refine pt_aastW (r := (RX4, TX4, 6)) hx hb hW.1 g3 3 2 (g1 _ _ _ hi hce) rfl hv rfl (pt_in_vp hj) (hAd _ _ hdm) hd fun H1 locs1 e1 e2 e3 => ?_
  refine hA H1 locs1 ls ?_ g2 e3 g4
  refine g1.put hW hdm (pt_ce_q (ad := ad) (cA := cA) (M := pt_wR M (pt_nt j + 1) t) (i := 0) (k := 10) (n := 6) rfl rfl) ?_ e2 (fun k' i' hi9 h => ?_)
  · have : (fun p => some (ad 3 (pt_R (pt_wR M (pt_nt j + 1) t) (p + 1)))) = va_up (fun p => some (ad 3 (pt_R M (p + 1)))) j.toNatClampNeg (some (ad 3 t)) := by
      funext q
      show some (ad 3 (if q + 1 = pt_nt j + 1 then t else _)) = if q = _ then _ else _
      by_cases hq : q = j.toNatClampNeg
      · rw [if_pos hq, if_pos (by rw [hq]; rfl)]
      · rw [if_neg hq, if_neg (show ¬ q + 1 = pt_nt j + 1 from fun z => hq (Nat.succ.inj z))]
        rfl
    rw [this]
    exact e1
  · unfold pt_ce
    cases hk : pt_ob k' with
    | some q =>
      simp only [Option.some.injEq, Sum.inr.injEq, Prod.mk.injEq, true_and]
      apply List.map_congr_left
      intro f hf9
      congr 1
    | none =>
      dsimp only
      unfold pt_ak
      split
      all_goals first | rfl | skip
      all_goals (rename_i hz; split at hz)
      all_goals first | (cases hz; done) | (exfalso; exact h ⟨rfl, Nat.lt_one_iff.mp hi9⟩) | skip
end
section
/-! the abstract machine's steps, as a function of the instruction; o: which way a branch goes, what a call gives -/
abbrev pt_O : Type := Bool ⊕ (Nat × Option pt_V × pt_M)
abbrev pt_T : Type := Option Prop × List pt_O × pt_S
def pt_w (v : pt_V) : Nat := match pt_isL v with
  | true => 2
  | false => 1
/-- a call that the machine does: from the arguments on the stack to the answer there -/
def pt_Cal (Y : pt_Y) (I : Instr) (vs : List pt_V) (M : pt_M) (r : Option pt_V) (M' : pt_M) : Prop :=
  ∀ pc L st, decode Y.2.1 pc = .ok (I, 3) → (st.map pt_w).sum ≤ 8 → pt_Go Y (pc, L, vs.reverse ++ st, M) (pc + 3, L, r.toList ++ st, M')
def pt_vd (k i : Nat) : Option (Option Prop) := match pt_ct k with
  | 7 => some (some (i < 7))
  | _ => match i with
    | 0 => some none
    | _ => none
theorem pt_vd_ok {k i : Nat} {c : Option Prop} (h : pt_vd k i = some c) (hc : ∀ P, c = some P → P) : i < pt_ct k := by
  unfold pt_vd at h
  split at h
  · rename_i h7
    cases h
    rw [h7]
    exact hc _ rfl
  · split at h
    · unfold pt_ct
      split <;> decide
    · cases h
def pt_cj (P : Prop) (c : Option Prop) : Option Prop := match c with
  | none => some P
  | some P' => some (P ∧ P')
theorem pt_cj_ok {P : Prop} {c : Option Prop} (h : ∀ Z, pt_cj P c = some Z → Z) : P ∧ ∀ Z, c = some Z → Z := by
  unfold pt_cj at h
  cases c with
  | none => exact ⟨h _ rfl, fun Z z => by cases z⟩
  | some P' => exact ⟨(h _ rfl).1, fun Z z => by cases z; exact (h _ rfl).2⟩
def pt_kc (cn idx : Nat) : Option Int32 := match cn with
  | 9 => match idx with
    | 265 => some 1431655765
    | 266 => some 858993459
    | 267 => some 252645135
    | _ => none
  | _ => none
def pt_kl (cn idx : Nat) : Option Int64 := match cn with
  | 7 => match idx with
    | 95 => some (-10000)
    | 97 => some 10000
    | _ => none
  | _ => none
def pt_sk (cn idx : Nat) : Option Nat := match cn with
  | 0 => match idx with
    | 260 => some 61
    | 263 => some 62
    | 266 => some 63
    | 269 => some 64
    | 272 => some 60
    | _ => none
  | _ => none
def pt_cm (q : ClassFile.Cond) (x y : Int32) : Prop := match q with
  | .eq => x = y
  | .ne => ¬ x = y
  | .lt => x < y
  | .ge => y ≤ x
  | .gt => y < x
  | .le => x ≤ y
def pt_nc (q : ClassFile.Cond) (x y : Int32) : Prop := match q with
  | .eq => ¬ x = y
  | .ne => x = y
  | .lt => ¬ x < y
  | .ge => ¬ y ≤ x
  | .gt => ¬ y < x
  | .le => ¬ x ≤ y
def pt_s2 (o : List pt_O) (pc : Nat) (L : List (Nat × pt_V)) (M : pt_M) (f : Int32 → Int32 → Int32) (c : Int32 → Option Prop) (st : List pt_V) : Option pt_T := match st with
  | .inl y :: .inl x :: st => some (c y, o, (pc + 1, L, .inl (f x y) :: st, M))
  | _ => none
def pt_s1 (o : List pt_O) (pc : Nat) (L : List (Nat × pt_V)) (M : pt_M) (f : Int32 → pt_V) (st : List pt_V) : Option pt_T := match st with
  | .inl x :: st => some (none, o, (pc + 1, L, f x :: st, M))
  | _ => none
def pt_g2 (o : List pt_O) (pc : Nat) (L : List (Nat × pt_V)) (M : pt_M) (f : Int64 → Int64 → pt_V) (st : List pt_V) : Option pt_T := match st with
  | .inr (.inl y) :: .inr (.inl x) :: st => some (none, o, (pc + 1, L, f x y :: st, M))
  | _ => none
/-- 0 a number, 1 a long, 2 a reference -/
def pt_kd (v : pt_V) : Nat := match v with
  | .inl _ => 0
  | .inr (.inl _) => 1
  | .inr (.inr _) => 2
def pt_ld (o : List pt_O) (pc : Nat) (L : List (Nat × pt_V)) (M : pt_M) (st : List pt_V) (n i kd : Nat) : Option pt_T := match pt_lk L i with
  | none => none
  | some v => match Nat.beq (pt_kd v) kd with
    | true => some (none, o, (pc + n, L, v :: st, M))
    | false => none
def pt_sv (mx : Nat) (o : List pt_O) (pc : Nat) (L : List (Nat × pt_V)) (M : pt_M) (n i kd : Nat) (st : List pt_V) : Option pt_T := match st with
  | [] => none
  | v :: st => match Nat.beq (pt_kd v) kd && Nat.blt i mx with
    | true => some (none, o, (pc + n, pt_st1 L i v, st, M))
    | false => none
def pt_br (o : List pt_O) (L : List (Nat × pt_V)) (M : pt_M) (st : List pt_V) (pc tgt : Nat) (P N : Prop) : Option pt_T := match o with
  | .inl true :: o => some (some P, o, (tgt, L, st, M))
  | .inl false :: o => some (some N, o, (pc + 3, L, st, M))
  | _ => none
def pt_cal (Y : pt_Y) (I : Instr) (o : List pt_O) (pc : Nat) (L : List (Nat × pt_V)) (M : pt_M) (st : List pt_V) : Option pt_T := match o with
  | .inr (n, r, M') :: o => match Nat.ble n st.length && Nat.ble ((st.drop n).map pt_w).sum 8 with
    | true => some (some (pt_Cal Y I (st.take n).reverse M r M'), o, (pc + 3, L, r.toList ++ st.drop n, M'))
    | false => none
  | _ => none
def pt_bz (k f : Nat) : Bool := match k with
  | 3 => Nat.beq f 3
  | _ => false
def pt_pf (o : List pt_O) (pc : Nat) (L : List (Nat × pt_V)) (M : pt_M) (q : Option (Nat × Nat)) (st : List pt_V) : Option pt_T := match q with
  | none => none
  | some (k, f) => match st with
    | .inl x :: .inr (.inr (k', i)) :: st => match Nat.beq k k' && Nat.beq (pt_fs k f) 0 with
      | false => none
      | true => match pt_vd k i with
        | none => none
        | some c => some (match pt_bz k f with
          | true => pt_cj (x = 0 ∨ x = 1) c
          | false => c, o, (pc + 3, L, st, pt_wF M k f i x))
    | .inr (.inr (3, t)) :: .inr (.inr (2, 0)) :: st => match Nat.beq k 2 && Nat.beq f 1 with
      | true => some (none, o, (pc + 3, L, st, pt_wR M 0 t))
      | false => none
    | _ => none
def pt_gf (o : List pt_O) (pc : Nat) (L : List (Nat × pt_V)) (M : pt_M) (q : Option (Nat × Nat)) (st : List pt_V) : Option pt_T := match q with
  | none => none
  | some (k, f) => match st with
    | .inr (.inr (k', i)) :: st => match Nat.beq k k' with
      | false => none
      | true => match pt_vd k i with
        | none => none
        | some c => some (c, o, (pc + 3, L, pt_fv M k f i :: st, M))
    | _ => none
def pt_al (t : Nat) (o : List pt_O) (pc : Nat) (L : List (Nat × pt_V)) (M : pt_M) (st : List pt_V) : Option pt_T := match st with
  | .inl j :: .inr (.inr (k, i)) :: st => match pt_ak k with
    | some (t', n) => match Nat.beq t t' with
      | false => none
      | true => match pt_vd k i with
        | none => none
        | some c => some (pt_cj (pt_in j n) c, o, (pc + 1, L, (match t with
          | 2 => pt_l (pt_G M k (pt_nt j))
          | 3 => pt_r 3 (pt_R M (pt_nt j + 1))
          | _ => pt_i (pt_A M k i (pt_nt j))) :: st, M))
    | none => match t with
      | 0 => match i with
        | 0 => match pt_ro M k with
          | some q => some (some (pt_in j q.1), o, (pc + 1, L, pt_i (q.2 (pt_nt j)) :: st, M))
          | none => none
        | _ => none
      | _ => none
  | _ => none
def pt_len (o : List pt_O) (pc : Nat) (L : List (Nat × pt_V)) (M : pt_M) (st : List pt_V) : Option pt_T := match st with
  | .inr (.inr (k, i)) :: st => match pt_ak k with
    | some (t, n) => match Nat.blt t 2 with
      | false => none
      | true => match pt_vd k i with
        | none => none
        | some c => some (c, o, (pc + 1, L, pt_i (nI n) :: st, M))
    | none => match i with
      | 0 => match pt_ro M k with
        | some q => some (none, o, (pc + 1, L, pt_i (nI q.1) :: st, M))
        | none => none
      | _ => none
  | _ => none
def pt_as (t : Nat) (o : List pt_O) (pc : Nat) (L : List (Nat × pt_V)) (M : pt_M) (st : List pt_V) : Option pt_T := match st with
  | .inl x :: .inl j :: .inr (.inr (k, i)) :: st => match pt_ak k with
    | some (t', n) => match Nat.beq t t' with
      | false => none
      | true => match pt_vd k i with
        | none => none
        | some c => match t with
          | 0 => some (pt_cj (pt_in j n) c, o, (pc + 1, L, st, pt_wA M k i (upd (pt_A M k i) (pt_nt j) x)))
          | 1 => some (pt_cj (pt_in j n) c, o, (pc + 1, L, st, pt_wA M k i (upd (pt_A M k i) (pt_nt j) x.toInt8.toInt32)))
          | _ => none
    | none => none
  | .inr (.inl x) :: .inl j :: .inr (.inr (k, 0)) :: st => match pt_ak k with
    | some (2, n) => match Nat.beq t 2 && Nat.beq (pt_ct k) 1 with
      | true => some (some (pt_in j n), o, (pc + 1, L, st, pt_wG M k (vp_updL (pt_G M k) (pt_nt j) x)))
      | false => none
    | _ => none
  | .inr (.inr (3, q)) :: .inl j :: .inr (.inr (10, 0)) :: st => match Nat.beq t 3 with
    | true => some (some (pt_in j 6 ∧ q < 7), o, (pc + 1, L, st, pt_wR M (pt_nt j + 1) q))
    | false => none
  | _ => none
def pt_stp (Y : pt_Y) (I : Instr) (n tgt : Nat) (o : List pt_O) (σ : pt_S) : Option pt_T := match σ with
  | (pc, L, st, M) => match I with
    | .iload i => pt_ld o pc L M st 2 i 0
    | .iload_n i => pt_ld o pc L M st 1 i.val 0
    | .aload i => pt_ld o pc L M st 2 i 2
    | .aload_n i => pt_ld o pc L M st 1 i.val 2
    | .lload i => pt_ld o pc L M st 2 i 1
    | .istore i => pt_sv Y.2.2.1 o pc L M 2 i 0 st
    | .istore_n i => pt_sv Y.2.2.1 o pc L M 1 i.val 0 st
    | .astore i => pt_sv Y.2.2.1 o pc L M 2 i 2 st
    | .astore_n i => pt_sv Y.2.2.1 o pc L M 1 i.val 2 st
    | .lstore i => match st with
      | .inr (.inl x) :: st => match Nat.blt (i + 1) Y.2.2.1 with
        | true => some (none, o, (pc + 2, pt_st2 L i (pt_l x), st, M))
        | false => none
      | _ => none
    | .iconst z => some (none, o, (pc + 1, L, .inl (Int32.ofInt z) :: st, M))
    | .bipush z => some (none, o, (pc + 2, L, .inl (Int8.ofInt z).toInt32 :: st, M))
    | .sipush z => some (none, o, (pc + 3, L, .inl (Int16.ofInt z).toInt32 :: st, M))
    | .lconst z => some (none, o, (pc + 1, L, .inr (.inl (Int64.ofNat z.val)) :: st, M))
    | .ldc_w i => match pt_kc Y.1 i with
      | some v => some (none, o, (pc + 3, L, .inl v :: st, M))
      | none => none
    | .ldc2_w i => match pt_kl Y.1 i with
      | some v => some (none, o, (pc + 3, L, .inr (.inl v) :: st, M))
      | none => none
    | .aconst_null => some (none, o, (pc + 1, L, pt_n :: st, M))
    | .iadd => pt_s2 o pc L M (fun x y => x + y) (fun _ => none) st
    | .isub => pt_s2 o pc L M (fun x y => x - y) (fun _ => none) st
    | .imul => pt_s2 o pc L M (fun x y => x * y) (fun _ => none) st
    | .idiv => pt_s2 o pc L M (fun x y => x / y) (fun y => some (¬ y = 0)) st
    | .irem => pt_s2 o pc L M (fun x y => x - x / y * y) (fun y => some (¬ y = 0)) st
    | .iand => pt_s2 o pc L M (fun x y => x &&& y) (fun _ => none) st
    | .ior => pt_s2 o pc L M (fun x y => x ||| y) (fun _ => none) st
    | .ixor => pt_s2 o pc L M (fun x y => x ^^^ y) (fun _ => none) st
    | .ishl => pt_s2 o pc L M (fun x y => x <<< (y &&& 31)) (fun _ => none) st
    | .ishr => pt_s2 o pc L M (fun x y => x >>> (y &&& 31)) (fun _ => none) st
    | .iushr => pt_s2 o pc L M (fun x y => (x.toUInt32 >>> (y.toUInt32 &&& Int32.toUInt32 31)).toInt32) (fun _ => none) st
    | .ineg => pt_s1 o pc L M (fun x => .inl (-x)) st
    | .i2b => pt_s1 o pc L M (fun x => .inl x.toInt8.toInt32) st
    | .i2s => pt_s1 o pc L M (fun x => .inl x.toInt16.toInt32) st
    | .i2l => pt_s1 o pc L M (fun x => .inr (.inl x.toInt64)) st
    | .lsub => pt_g2 o pc L M (fun x y => .inr (.inl (x - y))) st
    | .lmul => pt_g2 o pc L M (fun x y => .inr (.inl (x * y))) st
    | .lcmp => pt_g2 o pc L M (fun x y => .inl (lg_cmp x y)) st
    | .goto _ => some (none, o, (tgt, L, st, M))
    | .if_icmp q _ => match st with
      | .inl y :: .inl x :: st => pt_br o L M st pc tgt (pt_cm q x y) (pt_nc q x y)
      | _ => none
    | .ifCond q _ => match st with
      | .inl x :: st => pt_br o L M st pc tgt (pt_cm q x 0) (pt_nc q x 0)
      | _ => none
    | .ifnull _ => match st with
      | .inr (.inr (0, _)) :: st => some (none, o, (tgt, L, st, M))
      | .inr (.inr (_ + 1, _)) :: st => some (none, o, (pc + 3, L, st, M))
      | _ => none
    | .ifnonnull _ => match st with
      | .inr (.inr (0, _)) :: st => some (none, o, (pc + 3, L, st, M))
      | .inr (.inr (_ + 1, _)) :: st => some (none, o, (tgt, L, st, M))
      | _ => none
    | .iinc i z => match pt_lk L i with
      | some (.inl x) => match Nat.blt i Y.2.2.1 with
        | true => some (none, o, (pc + 3, pt_st1 L i (.inl (x + Int32.ofInt z)), st, M))
        | false => none
      | _ => none
    | .dup => match st with
      | v :: st => match pt_isL v with
        | false => some (none, o, (pc + 1, L, v :: v :: st, M))
        | true => none
      | _ => none
    | .dup2 => match st with
      | v :: w :: st => match pt_isL v || pt_isL w with
        | false => some (none, o, (pc + 1, L, v :: w :: v :: w :: st, M))
        | true => none
      | _ => none
    | .getfield i => pt_gf o pc L M (pt_fl Y.1 i) st
    | .putfield i => pt_pf o pc L M (pt_fl Y.1 i) st
    | .getstatic i => match pt_sk Y.1 i with
      | some k => some (none, o, (pc + 3, L, pt_r k 0 :: st, M))
      | none => none
    | .iaload => pt_al 0 o pc L M st
    | .baload => pt_al 1 o pc L M st
    | .laload => pt_al 2 o pc L M st
    | .aaload => pt_al 3 o pc L M st
    | .iastore => pt_as 0 o pc L M st
    | .bastore => pt_as 1 o pc L M st
    | .lastore => pt_as 2 o pc L M st
    | .aastore => pt_as 3 o pc L M st
    | .arraylength => pt_len o pc L M st
    | .invokevirtual _ => pt_cal Y I o pc L M st
    | .invokestatic _ => pt_cal Y I o pc L M st
    | _ => none
end
section
/-! the steps are the machine's -/
def pt_tg (I : Instr) (pc tgt : Nat) : Bool := match I with
  | .goto z => decide ((pc : Int) + z = (tgt : Int))
  | .if_icmp _ z => decide ((pc : Int) + z = (tgt : Int))
  | .ifCond _ z => decide ((pc : Int) + z = (tgt : Int))
  | .ifnull z => decide ((pc : Int) + z = (tgt : Int))
  | .ifnonnull z => decide ((pc : Int) + z = (tgt : Int))
  | _ => true
theorem pt_lvat {ad : Nat → Nat → Nat} {ls : Array Slot} {n i : Nat} {L : List (Nat × pt_V)} {v : pt_V} (h : lv_has ls n (pt_cl ad L)) (hv : pt_lk L i = some v) : ls[i]? = some (.val (pt_cv ad v)) :=
  h.2.2 (i, pt_cv ad v) (List.mem_map.mpr ⟨(i, v), pt_lk_mem hv, rfl⟩)
section PTS
variable {Y : pt_Y} {n tgt : Nat} {o o' : List pt_O} {pc : Nat} {L : List (Nat × pt_V)} {st : List pt_V} {M : pt_M} {c : Option Prop} {σ' : pt_S}
theorem pt_ldi_ok {i : Nat} (hd : decode Y.2.1 pc = .ok (.iload i, 2)) (h : pt_ld o pc L M st 2 i 0 = some (c, o', σ')) : pt_Go Y (pc, L, st, M) σ' := by
  unfold pt_ld at h
  split at h
  · cases h
  · rename_i v hv
    split at h
    · rename_i hk
      cases h
      rcases v with x | y | ⟨k, j⟩
      · intro p l e s m args below meth c D ad cA A cells slots Q hC hA H locs ls g1 g2 g3 g4
        exact lv_iload hC.1 hC.2.1 hd (pt_lvat g4 hv) (hA H locs ls g1 g2 g3 g4)
      · cases hk
      · cases hk
    · cases h
theorem pt_ldin_ok {i : Fin 4} (hd : decode Y.2.1 pc = .ok (.iload_n i, 1)) (h : pt_ld o pc L M st 1 i.val 0 = some (c, o', σ')) : pt_Go Y (pc, L, st, M) σ' := by
  unfold pt_ld at h
  split at h
  · cases h
  · rename_i v hv
    split at h
    · rename_i hk
      cases h
      rcases v with x | y | ⟨k, j⟩
      · intro p l e s m args below meth c D ad cA A cells slots Q hC hA H locs ls g1 g2 g3 g4
        exact lv_iload_n hC.1 hC.2.1 hd rfl (pt_lvat g4 hv) (hA H locs ls g1 g2 g3 g4)
      · cases hk
      · cases hk
    · cases h
theorem pt_lda_ok {i : Nat} (hd : decode Y.2.1 pc = .ok (.aload i, 2)) (h : pt_ld o pc L M st 2 i 2 = some (c, o', σ')) : pt_Go Y (pc, L, st, M) σ' := by
  unfold pt_ld at h
  split at h
  · cases h
  · rename_i v hv
    split at h
    · rename_i hk
      cases h
      rcases v with x | y | ⟨k, j⟩
      · cases hk
      · cases hk
      · intro p l e s m args below meth c D ad cA A cells slots Q hC hA H locs ls g1 g2 g3 g4
        cases k with
        | zero => exact lv_aloadN hC.1 hC.2.1 hd (pt_lvat g4 hv) (hA H locs ls g1 g2 g3 g4)
        | succ k => exact lv_aload hC.1 hC.2.1 hd (pt_lvat g4 hv) (hA H locs ls g1 g2 g3 g4)
    · cases h
theorem pt_ldan_ok {i : Fin 4} (hd : decode Y.2.1 pc = .ok (.aload_n i, 1)) (h : pt_ld o pc L M st 1 i.val 2 = some (c, o', σ')) : pt_Go Y (pc, L, st, M) σ' := by
  unfold pt_ld at h
  split at h
  · cases h
  · rename_i v hv
    split at h
    · rename_i hk
      cases h
      rcases v with x | y | ⟨k, j⟩
      · cases hk
      · cases hk
      · intro p l e s m args below meth c D ad cA A cells slots Q hC hA H locs ls g1 g2 g3 g4
        cases k with
        | zero => exact lv_aload_nN hC.1 hC.2.1 hd rfl (pt_lvat g4 hv) (hA H locs ls g1 g2 g3 g4)
        | succ k => exact lv_aload_n hC.1 hC.2.1 hd rfl (pt_lvat g4 hv) (hA H locs ls g1 g2 g3 g4)
    · cases h
theorem pt_ldl_ok {i : Nat} (hd : decode Y.2.1 pc = .ok (.lload i, 2)) (h : pt_ld o pc L M st 2 i 1 = some (c, o', σ')) : pt_Go Y (pc, L, st, M) σ' := by
  unfold pt_ld at h
  split at h
  · cases h
  · rename_i v hv
    split at h
    · rename_i hk
      cases h
      rcases v with x | y | ⟨k, j⟩
      · cases hk
      · intro p l e s m args below meth c D ad cA A cells slots Q hC hA H locs ls g1 g2 g3 g4
        exact lv_lload hC.1 hC.2.1 hd (pt_lvat g4 hv) (hA H locs ls g1 g2 g3 g4)
      · cases hk
    · cases h
theorem pt_svi_ok {i : Nat} (hd : decode Y.2.1 pc = .ok (.istore i, 2)) (h : pt_sv Y.2.2.1 o pc L M 2 i 0 st = some (c, o', σ')) : pt_Go Y (pc, L, st, M) σ' := by
  unfold pt_sv at h
  split at h
  · cases h
  · rename_i v st'
    split at h
    · rename_i hk
      cases h
      rw [Bool.and_eq_true] at hk
      rcases v with x | y | ⟨k, j⟩
      · intro p l e s m args below meth c D ad cA A cells slots Q hC hA H locs ls g1 g2 g3 g4
        exact lv_istore hC.1 hC.2.1 hd g4 (Nat.le_of_ble_eq_true hk.2) rfl (fun ls' h' => hA H locs ls' g1 g2 g3 (pt_has1 h'))
      · cases hk.1
      · cases hk.1
    · cases h
theorem pt_svin_ok {i : Fin 4} (hd : decode Y.2.1 pc = .ok (.istore_n i, 1)) (h : pt_sv Y.2.2.1 o pc L M 1 i.val 0 st = some (c, o', σ')) : pt_Go Y (pc, L, st, M) σ' := by
  unfold pt_sv at h
  split at h
  · cases h
  · rename_i v st'
    split at h
    · rename_i hk
      cases h
      rw [Bool.and_eq_true] at hk
      rcases v with x | y | ⟨k, j⟩
      · intro p l e s m args below meth c D ad cA A cells slots Q hC hA H locs ls g1 g2 g3 g4
        exact lv_istore_n hC.1 hC.2.1 hd rfl g4 (Nat.le_of_ble_eq_true hk.2) rfl (fun ls' h' => hA H locs ls' g1 g2 g3 (pt_has1 h'))
      · cases hk.1
      · cases hk.1
    · cases h
theorem pt_sva_ok {i : Nat} (hd : decode Y.2.1 pc = .ok (.astore i, 2)) (h : pt_sv Y.2.2.1 o pc L M 2 i 2 st = some (c, o', σ')) : pt_Go Y (pc, L, st, M) σ' := by
  unfold pt_sv at h
  split at h
  · cases h
  · rename_i v st'
    split at h
    · rename_i hk
      cases h
      rw [Bool.and_eq_true] at hk
      rcases v with x | y | ⟨k, j⟩
      · cases hk.1
      · cases hk.1
      · intro p l e s m args below meth c D ad cA A cells slots Q hC hA H locs ls g1 g2 g3 g4
        cases k with
        | zero => exact lv_astoreN hC.1 hC.2.1 hd g4 (Nat.le_of_ble_eq_true hk.2) rfl (fun ls' h' => hA H locs ls' g1 g2 g3 (pt_has1 (v := pt_r 0 j) h'))
        | succ k => exact lv_astore hC.1 hC.2.1 hd g4 (Nat.le_of_ble_eq_true hk.2) rfl (fun ls' h' => hA H locs ls' g1 g2 g3 (pt_has1 (v := pt_r (k + 1) j) h'))
    · cases h
theorem pt_svan_ok {i : Fin 4} (hd : decode Y.2.1 pc = .ok (.astore_n i, 1)) (h : pt_sv Y.2.2.1 o pc L M 1 i.val 2 st = some (c, o', σ')) : pt_Go Y (pc, L, st, M) σ' := by
  unfold pt_sv at h
  split at h
  · cases h
  · rename_i v st'
    split at h
    · rename_i hk
      cases h
      rw [Bool.and_eq_true] at hk
      rcases v with x | y | ⟨k, j⟩
      · cases hk.1
      · cases hk.1
      · intro p l e s m args below meth c D ad cA A cells slots Q hC hA H locs ls g1 g2 g3 g4
        cases k with
        | zero => exact lv_astore_nN hC.1 hC.2.1 hd rfl g4 (Nat.le_of_ble_eq_true hk.2) rfl (fun ls' h' => hA H locs ls' g1 g2 g3 (pt_has1 (v := pt_r 0 j) h'))
        | succ k => exact lv_astore_n hC.1 hC.2.1 hd rfl g4 (Nat.le_of_ble_eq_true hk.2) rfl (fun ls' h' => hA H locs ls' g1 g2 g3 (pt_has1 (v := pt_r (k + 1) j) h'))
    · cases h
theorem pt_s2_in {f : Int32 → Int32 → Int32} {q : Int32 → Option Prop} (h : pt_s2 o pc L M f q st = some (c, o', σ')) : ∃ x y st', st = pt_i y :: pt_i x :: st' ∧ c = q y ∧ σ' = (pc + 1, L, pt_i (f x y) :: st', M) := by
  unfold pt_s2 at h
  split at h
  · cases h
    exact ⟨_, _, _, rfl, rfl, rfl⟩
  · cases h
theorem pt_s1_in {f : Int32 → pt_V} (h : pt_s1 o pc L M f st = some (c, o', σ')) : ∃ x st', st = pt_i x :: st' ∧ σ' = (pc + 1, L, f x :: st', M) := by
  unfold pt_s1 at h
  split at h
  · cases h
    exact ⟨_, _, rfl, rfl⟩
  · cases h
theorem pt_g2_in {f : Int64 → Int64 → pt_V} (h : pt_g2 o pc L M f st = some (c, o', σ')) : ∃ x y st', st = pt_l y :: pt_l x :: st' ∧ σ' = (pc + 1, L, f x y :: st', M) := by
  unfold pt_g2 at h
  split at h
  · cases h
    exact ⟨_, _, _, rfl, rfl⟩
  · cases h
theorem pt_br_in {P N : Prop} (h : pt_br o L M st pc tgt P N = some (c, o', σ')) (hc : ∀ Z, c = some Z → Z) : (P ∧ σ' = (tgt, L, st, M)) ∨ (N ∧ σ' = (pc + 3, L, st, M)) := by
  unfold pt_br at h
  split at h
  · cases h
    exact Or.inl ⟨hc _ rfl, rfl⟩
  · cases h
    exact Or.inr ⟨hc _ rfl, rfl⟩
  · cases h
theorem pt_icmp_ok {q : ClassFile.Cond} {z : Int} {x y : Int32} (hd : decode Y.2.1 pc = .ok (.if_icmp q z, 3)) (ht : (pc : Int) + z = (tgt : Int)) (h : (pt_cm q x y ∧ σ' = (tgt, L, st, M)) ∨ (pt_nc q x y ∧ σ' = (pc + 3, L, st, M))) : pt_Go Y (pc, L, pt_i y :: pt_i x :: st, M) σ' := by
  intro p l e s m args below meth c D ad cA A cells slots Q hC hA H locs ls g1 g2 g3 g4
  cases q <;> rcases h with ⟨hP, rfl⟩ | ⟨hP, rfl⟩
  · exact lv_icmp_eq hC.1 hC.2.1 hd ht (fun _ => hA H locs ls g1 g2 g3 g4) (fun hn => absurd hP hn)
  · exact lv_icmp_eq hC.1 hC.2.1 hd ht (fun hn => absurd hn hP) (fun _ => hA H locs ls g1 g2 g3 g4)
  · exact lv_icmp_ne hC.1 hC.2.1 hd ht (fun _ => hA H locs ls g1 g2 g3 g4) (fun hn => absurd hn hP)
  · exact lv_icmp_ne hC.1 hC.2.1 hd ht (fun hn => absurd hP hn) (fun _ => hA H locs ls g1 g2 g3 g4)
  · exact lv_icmp_lt hC.1 hC.2.1 hd ht (fun _ => hA H locs ls g1 g2 g3 g4) (fun hn => absurd hP hn)
  · exact lv_icmp_lt hC.1 hC.2.1 hd ht (fun hn => absurd hn hP) (fun _ => hA H locs ls g1 g2 g3 g4)
  · exact lv_icmp_ge hC.1 hC.2.1 hd ht (fun _ => hA H locs ls g1 g2 g3 g4) (fun hn => absurd hP hn)
  · exact lv_icmp_ge hC.1 hC.2.1 hd ht (fun hn => absurd hn hP) (fun _ => hA H locs ls g1 g2 g3 g4)
  · exact lv_icmp_gt hC.1 hC.2.1 hd ht (fun _ => hA H locs ls g1 g2 g3 g4) (fun hn => absurd hP hn)
  · exact lv_icmp_gt hC.1 hC.2.1 hd ht (fun hn => absurd hn hP) (fun _ => hA H locs ls g1 g2 g3 g4)
  · exact lv_icmp_le hC.1 hC.2.1 hd ht (fun _ => hA H locs ls g1 g2 g3 g4) (fun hn => absurd hP hn)
  · exact lv_icmp_le hC.1 hC.2.1 hd ht (fun hn => absurd hn hP) (fun _ => hA H locs ls g1 g2 g3 g4)
theorem pt_if_ok {q : ClassFile.Cond} {z : Int} {x : Int32} (hd : decode Y.2.1 pc = .ok (.ifCond q z, 3)) (ht : (pc : Int) + z = (tgt : Int)) (h : (pt_cm q x 0 ∧ σ' = (tgt, L, st, M)) ∨ (pt_nc q x 0 ∧ σ' = (pc + 3, L, st, M))) : pt_Go Y (pc, L, pt_i x :: st, M) σ' := by
  intro p l e s m args below meth c D ad cA A cells slots Q hC hA H locs ls g1 g2 g3 g4
  cases q <;> rcases h with ⟨hP, rfl⟩ | ⟨hP, rfl⟩
  · exact lv_if_eq hC.1 hC.2.1 hd ht (fun _ => hA H locs ls g1 g2 g3 g4) (fun hn => absurd hP hn)
  · exact lv_if_eq hC.1 hC.2.1 hd ht (fun hn => absurd hn hP) (fun _ => hA H locs ls g1 g2 g3 g4)
  · exact lv_if_ne hC.1 hC.2.1 hd ht (fun _ => hA H locs ls g1 g2 g3 g4) (fun hn => absurd hn hP)
  · exact lv_if_ne hC.1 hC.2.1 hd ht (fun hn => absurd hP hn) (fun _ => hA H locs ls g1 g2 g3 g4)
  · exact lv_if_lt hC.1 hC.2.1 hd ht (fun _ => hA H locs ls g1 g2 g3 g4) (fun hn => absurd hP hn)
  · exact lv_if_lt hC.1 hC.2.1 hd ht (fun hn => absurd hn hP) (fun _ => hA H locs ls g1 g2 g3 g4)
  · exact lv_if_ge hC.1 hC.2.1 hd ht (fun _ => hA H locs ls g1 g2 g3 g4) (fun hn => absurd hP hn)
  · exact lv_if_ge hC.1 hC.2.1 hd ht (fun hn => absurd hn hP) (fun _ => hA H locs ls g1 g2 g3 g4)
  · exact lv_if_gt hC.1 hC.2.1 hd ht (fun _ => hA H locs ls g1 g2 g3 g4) (fun hn => absurd hP hn)
  · exact lv_if_gt hC.1 hC.2.1 hd ht (fun hn => absurd hn hP) (fun _ => hA H locs ls g1 g2 g3 g4)
  · exact lv_if_le hC.1 hC.2.1 hd ht (fun _ => hA H locs ls g1 g2 g3 g4) (fun hn => absurd hP hn)
  · exact lv_if_le hC.1 hC.2.1 hd ht (fun hn => absurd hn hP) (fun _ => hA H locs ls g1 g2 g3 g4)
theorem pt_gf_ok {i : Nat} (hd : decode Y.2.1 pc = .ok (.getfield i, 3)) (h : pt_gf o pc L M (pt_fl Y.1 i) st = some (c, o', σ')) (hc : ∀ Z, c = some Z → Z) : pt_Go Y (pc, L, st, M) σ' := by
  unfold pt_gf at h
  split at h
  · cases h
  · rename_i k f hf
    split at h
    · split at h
      · cases h
      · rename_i hk
        split at h
        · cases h
        · rename_i hv
          cases h
          cases Nat.eq_of_beq_eq_true hk
          exact pt_getf hf (pt_vd_ok hv hc) hd
    · cases h
end PTS
end
section
section PTS2
variable {Y : pt_Y} {n tgt : Nat} {o o' : List pt_O} {pc : Nat} {L : List (Nat × pt_V)} {st : List pt_V} {M : pt_M} {c : Option Prop} {σ' : pt_S}
/-- a field that is a number: not final, of type int, or boolean -/
def pt_pb (k f : Nat) : Bool := match pt_ob k with
  | none => true
  | some z => match vwCl[z.1]? with
    | none => true
    | some q => !(Nat.blt f z.2) || !(Nat.beq (pt_fs k f) 0) || (!(q.2.1 f).2.2.2 && decide (pt_t0 q.2.1 f = if pt_bz k f then .boolean else .int))
set_option maxRecDepth 100000 in
theorem pt_pb_ok : (List.range 8).all (fun k => (List.range 21).all (fun f => pt_pb k f)) = true := by decide +kernel
theorem pt_pb_of {k f ci N : Nat} {C : String} {T : u_T} (h1 : pt_ob k = some (ci, N)) (h2 : vwCl[ci]? = some (C, T, N)) (h3 : f < N) (h0 : pt_fs k f = 0) : (T f).2.2.2 = false ∧ pt_t0 T f = if pt_bz k f then .boolean else .int := by
  have hk : k < 8 := by
    unfold pt_ob at h1
    split at h1 <;> first | decide | cases h1
  have hN : N ≤ 21 := by
    unfold pt_ob at h1
    split at h1 <;> cases h1 <;> decide
  have h := List.all_eq_true.mp (List.all_eq_true.mp pt_pb_ok k (List.mem_range.mpr hk)) f (List.mem_range.mpr (by omega))
  unfold pt_pb at h
  rw [h1] at h
  dsimp only at h
  rw [h2] at h
  dsimp only at h
  rw [h0] at h
  have hb : Nat.blt f N = true := Nat.ble_eq_true_of_le h3
  rw [hb] at h
  simpa using h
theorem pt_pf_ok {i : Nat} (hd : decode Y.2.1 pc = .ok (.putfield i, 3)) (h : pt_pf o pc L M (pt_fl Y.1 i) st = some (c, o', σ')) (hc : ∀ Z, c = some Z → Z) : pt_Go Y (pc, L, st, M) σ' := by
  unfold pt_pf at h
  split at h
  · cases h
  · rename_i k f hf
    split at h
    · split at h
      · cases h
      · rename_i x k' i' st' hk
        rw [Bool.and_eq_true] at hk
        obtain ⟨hk1, hk2⟩ := hk
        split at h
        · cases h
        · rename_i c0 hv
          cases Nat.eq_of_beq_eq_true hk1
          have h0 := Nat.eq_of_beq_eq_true hk2
          cases hbz : pt_bz k f with
          | true =>
            rw [hbz] at h
            cases h
            obtain ⟨hb, hc'⟩ := pt_cj_ok hc
            refine pt_putf hf (pt_vd_ok hv hc') h0 (fun ci C T N h1 h2 => ?_) hd
            obtain ⟨_, _, _, _, e1, e2, e3, -⟩ := pt_fl_ok hf
            cases e1.symm.trans h1
            obtain ⟨w1, w2⟩ := pt_pb_of h1 h2 e3 h0
            rw [hbz] at w2
            rw [w2]
            rcases hb with rfl | rfl
            · exact ⟨w1, rfl, rfl⟩
            · exact ⟨w1, rfl, rfl⟩
          | false =>
            rw [hbz] at h
            cases h
            refine pt_putf hf (pt_vd_ok hv hc) h0 (fun ci C T N h1 h2 => ?_) hd
            obtain ⟨_, _, _, _, e1, e2, e3, -⟩ := pt_fl_ok hf
            cases e1.symm.trans h1
            obtain ⟨w1, w2⟩ := pt_pb_of h1 h2 e3 h0
            rw [hbz] at w2
            rw [w2]
            exact ⟨w1, rfl, rfl⟩
    · split at h
      · rename_i hk
        cases h
        rw [Bool.and_eq_true] at hk
        cases Nat.eq_of_beq_eq_true hk.1
        cases Nat.eq_of_beq_eq_true hk.2
        exact pt_putS hf hd
      · cases h
    · cases h
theorem pt_al_ok {I : Instr} {t : Nat} (hd : decode Y.2.1 pc = .ok (I, 1)) (hI : (t = 0 ∧ I = .iaload) ∨ (t = 1 ∧ I = .baload) ∨ (t = 2 ∧ I = .laload) ∨ (t = 3 ∧ I = .aaload)) (h : pt_al t o pc L M st = some (c, o', σ')) (hc : ∀ Z, c = some Z → Z) : pt_Go Y (pc, L, st, M) σ' := by
  unfold pt_al at h
  split at h
  · rename_i j k i st'
    split at h
    · rename_i t' n' ha
      split at h
      · cases h
      · rename_i ht
        cases Nat.eq_of_beq_eq_true ht
        split at h
        · cases h
        · rename_i c0 hv
          rcases hI with ⟨rfl, rfl⟩ | ⟨rfl, rfl⟩ | ⟨rfl, rfl⟩ | ⟨rfl, rfl⟩
          · cases h
            obtain ⟨hj, hc'⟩ := pt_cj_ok hc
            exact pt_iald ha (pt_vd_ok hv hc') hj hd
          · cases h
            obtain ⟨hj, hc'⟩ := pt_cj_ok hc
            exact pt_bald ha (pt_vd_ok hv hc') hj hd
          · cases h
            obtain ⟨hj, hc'⟩ := pt_cj_ok hc
            exact pt_lald ha (pt_vd_ok hv hc') hj hd
          · cases h
            obtain ⟨hj, hc'⟩ := pt_cj_ok hc
            exact pt_aald ha (pt_vd_ok hv hc') hj hd
    · split at h
      · split at h
        · split at h
          · rename_i q hq
            cases h
            rcases hI with ⟨-, rfl⟩ | ⟨z, -⟩ | ⟨z, -⟩ | ⟨z, -⟩
            · exact pt_xald (n := q.1) (f := q.2) hq (hc _ rfl) hd
            · cases z
            · cases z
            · cases z
          · cases h
        · cases h
      · cases h
  · cases h
theorem pt_len_ok (hd : decode Y.2.1 pc = .ok (.arraylength, 1)) (h : pt_len o pc L M st = some (c, o', σ')) (hc : ∀ Z, c = some Z → Z) : pt_Go Y (pc, L, st, M) σ' := by
  unfold pt_len at h
  split at h
  · split at h
    · rename_i ha
      split at h
      · cases h
      · rename_i ht
        split at h
        · cases h
        · rename_i hv
          cases h
          exact pt_alen ha (Nat.le_of_ble_eq_true ht) (pt_vd_ok hv hc) hd
    · split at h
      · split at h
        · rename_i q hq
          cases h
          exact pt_xlen (n := q.1) (f := q.2) hq hd
        · cases h
      · cases h
  · cases h
theorem pt_as_ok {I : Instr} {t : Nat} (hd : decode Y.2.1 pc = .ok (I, 1)) (hI : (t = 0 ∧ I = .iastore) ∨ (t = 1 ∧ I = .bastore) ∨ (t = 2 ∧ I = .lastore) ∨ (t = 3 ∧ I = .aastore)) (h : pt_as t o pc L M st = some (c, o', σ')) (hc : ∀ Z, c = some Z → Z) : pt_Go Y (pc, L, st, M) σ' := by
  unfold pt_as at h
  split at h
  · split at h
    · rename_i ha
      split at h
      · cases h
      · rename_i ht
        cases Nat.eq_of_beq_eq_true ht
        split at h
        · cases h
        · rename_i hv
          rcases hI with ⟨rfl, rfl⟩ | ⟨rfl, rfl⟩ | ⟨rfl, rfl⟩ | ⟨rfl, rfl⟩
          · cases h
            obtain ⟨hj, hc'⟩ := pt_cj_ok hc
            exact pt_iast ha (pt_vd_ok hv hc') hj hd
          · cases h
            obtain ⟨hj, hc'⟩ := pt_cj_ok hc
            exact pt_bast ha (pt_vd_ok hv hc') hj hd
          · cases h
          · cases h
    · cases h
  · split at h
    · rename_i ha
      split at h
      · rename_i ht
        rw [Bool.and_eq_true] at ht
        cases h
        cases Nat.eq_of_beq_eq_true ht.1
        rcases hI with ⟨z, -⟩ | ⟨z, -⟩ | ⟨-, rfl⟩ | ⟨z, -⟩
        · cases z
        · cases z
        · exact pt_last ha (Nat.eq_of_beq_eq_true ht.2) (hc _ rfl) hd
        · cases z
      · cases h
    · cases h
  · split at h
    · rename_i ht
      cases h
      cases Nat.eq_of_beq_eq_true ht
      rcases hI with ⟨z, -⟩ | ⟨z, -⟩ | ⟨z, -⟩ | ⟨-, rfl⟩
      · cases z
      · cases z
      · cases z
      · exact pt_aast (hc _ rfl).2 (hc _ rfl).1 hd
    · cases h
  · cases h
theorem pt_cal_ok {I : Instr} (hd : decode Y.2.1 pc = .ok (I, 3)) (h : pt_cal Y I o pc L M st = some (c, o', σ')) (hc : ∀ Z, c = some Z → Z) : pt_Go Y (pc, L, st, M) σ' := by
  unfold pt_cal at h
  split at h
  · rename_i n r M' o1
    split at h
    · rename_i hn
      rw [Bool.and_eq_true] at hn
      cases h
      have h1 := hc _ rfl pc L (st.drop n) hd (Nat.le_of_ble_eq_true hn.2)
      rw [List.reverse_reverse, List.take_append_drop] at h1
      exact h1
    · cases h
  · cases h
end PTS2

/-- an instruction's length -/
def pt_ln (I : Instr) : Nat := match I with
  | .iload _ => 2
  | .aload _ => 2
  | .lload _ => 2
  | .istore _ => 2
  | .astore _ => 2
  | .lstore _ => 2
  | .bipush _ => 2
  | .sipush _ => 3
  | .ldc_w _ => 3
  | .ldc2_w _ => 3
  | .goto _ => 3
  | .if_icmp _ _ => 3
  | .ifCond _ _ => 3
  | .ifnull _ => 3
  | .ifnonnull _ => 3
  | .iinc _ _ => 3
  | .getfield _ => 3
  | .putfield _ => 3
  | .getstatic _ => 3
  | .invokevirtual _ => 3
  | .invokestatic _ => 3
  | .invokespecial _ => 3
  | .new _ => 3
  | _ => 1
set_option maxRecDepth 100000 in
theorem pt_kc_ok {cn idx : Nat} {v : Int32} (h : pt_kc cn idx = some v) : Cond.constant (pt_own cn) idx v ∈ pt_tb := by
  unfold pt_kc at h
  split at h
  · split at h
    · cases h; decide +kernel
    · cases h; decide +kernel
    · cases h; decide +kernel
    · cases h
  · cases h
set_option maxRecDepth 100000 in
theorem pt_kl_ok {cn idx : Nat} {v : Int64} (h : pt_kl cn idx = some v) : Cond.constantLong (pt_own cn) idx v ∈ pt_tb := by
  unfold pt_kl at h
  split at h
  · split at h
    · cases h; decide +kernel
    · cases h; decide +kernel
    · cases h
  · cases h
set_option maxRecDepth 100000 in
theorem pt_sk_ok {cn idx k : Nat} (h : pt_sk cn idx = some k) : ∃ nm, pt_sn k = some nm ∧ Cond.fieldLink (pt_own cn) idx "PointTables" nm "[I" ∈ pt_tb := by
  unfold pt_sk at h
  split at h
  · split at h
    · cases h; exact ⟨_, rfl, by decide +kernel⟩
    · cases h; exact ⟨_, rfl, by decide +kernel⟩
    · cases h; exact ⟨_, rfl, by decide +kernel⟩
    · cases h; exact ⟨_, rfl, by decide +kernel⟩
    · cases h; exact ⟨_, rfl, by decide +kernel⟩
    · cases h
  · cases h
end
section
set_option maxHeartbeats 4000000 in
theorem pt_stp_ok {Y : pt_Y} {I : Instr} {n tgt : Nat} {o o' : List pt_O} {σ σ' : pt_S} {c : Option Prop} (h : pt_stp Y I n tgt o σ = some (c, o', σ')) (hc : ∀ Z, c = some Z → Z) (hd : decode Y.2.1 σ.1 = .ok (I, n)) (hn : n = pt_ln I) (ht : pt_tg I σ.1 tgt = true) : pt_Go Y σ σ' := by
  obtain ⟨pc, L, st, M⟩ := σ
  subst hn
  unfold pt_stp at h
  dsimp only at h hd ht
  split at h
  · exact pt_ldi_ok hd h
  · exact pt_ldin_ok hd h
  · exact pt_lda_ok hd h
  · exact pt_ldan_ok hd h
  · exact pt_ldl_ok hd h
  · exact pt_svi_ok hd h
  · exact pt_svin_ok hd h
  · exact pt_sva_ok hd h
  · exact pt_svan_ok hd h
  · split at h
    · split at h
      · rename_i hk
        cases h
        intro p l e s m args below meth c D ad cA A cells slots Q hC hA H locs ls g1 g2 g3 g4
        exact lv_lstore hC.1 hC.2.1 hd g4 (Nat.le_of_ble_eq_true hk) rfl (fun ls' h' => hA H locs ls' g1 g2 g3 (pt_has2 (v := pt_l _) h'))
      · cases h
    · cases h
  · cases h
    intro p l e s m args below meth c D ad cA A cells slots Q hC hA H locs ls g1 g2 g3 g4
    exact lv_iconst hC.1 hC.2.1 hd rfl (hA H locs ls g1 g2 g3 g4)
  · cases h
    intro p l e s m args below meth c D ad cA A cells slots Q hC hA H locs ls g1 g2 g3 g4
    exact lv_bipush hC.1 hC.2.1 hd rfl (hA H locs ls g1 g2 g3 g4)
  · cases h
    intro p l e s m args below meth c D ad cA A cells slots Q hC hA H locs ls g1 g2 g3 g4
    exact lv_sipush hC.1 hC.2.1 hd rfl (hA H locs ls g1 g2 g3 g4)
  · cases h
    intro p l e s m args below meth c D ad cA A cells slots Q hC hA H locs ls g1 g2 g3 g4
    exact lv_lconst hC.1 hC.2.1 hd rfl (hA H locs ls g1 g2 g3 g4)
  · split at h
    · rename_i hk
      cases h
      intro p l e s m args below meth c D ad cA A cells slots Q hC hA H locs ls g1 g2 g3 g4
      exact lv_ldcw hC.1 hC.2.1 hC.2.2.2.2.1 (hC.2.2.2.2.2.1 _ (pt_kc_ok hk)) hd (hA H locs ls g1 g2 g3 g4)
    · cases h
  · split at h
    · rename_i hk
      cases h
      intro p l e s m args below meth c D ad cA A cells slots Q hC hA H locs ls g1 g2 g3 g4
      exact lv_ldc2 hC.1 hC.2.1 hC.2.2.2.2.1 (hC.2.2.2.2.2.1 _ (pt_kl_ok hk)) hd (hA H locs ls g1 g2 g3 g4)
    · cases h
  · cases h
    intro p l e s m args below meth c D ad cA A cells slots Q hC hA H locs ls g1 g2 g3 g4
    exact lv_null hC.1 hC.2.1 hd (hA H locs ls g1 g2 g3 g4)
  · obtain ⟨x, y, st', rfl, -, rfl⟩ := pt_s2_in h
    intro p l e s m args below meth c D ad cA A cells slots Q hC hA H locs ls g1 g2 g3 g4
    exact lv_iadd hC.1 hC.2.1 hd (hA H locs ls g1 g2 g3 g4)
  · obtain ⟨x, y, st', rfl, -, rfl⟩ := pt_s2_in h
    intro p l e s m args below meth c D ad cA A cells slots Q hC hA H locs ls g1 g2 g3 g4
    exact lv_isub hC.1 hC.2.1 hd (hA H locs ls g1 g2 g3 g4)
  · obtain ⟨x, y, st', rfl, -, rfl⟩ := pt_s2_in h
    intro p l e s m args below meth c D ad cA A cells slots Q hC hA H locs ls g1 g2 g3 g4
    exact lv_imul hC.1 hC.2.1 hd (hA H locs ls g1 g2 g3 g4)
  · obtain ⟨x, y, st', rfl, hq, rfl⟩ := pt_s2_in h
    intro p l e s m args below meth c D ad cA A cells slots Q hC hA H locs ls g1 g2 g3 g4
    exact lv_idiv hC.1 hC.2.1 hd (hc _ hq) (hA H locs ls g1 g2 g3 g4)
  · obtain ⟨x, y, st', rfl, hq, rfl⟩ := pt_s2_in h
    intro p l e s m args below meth c D ad cA A cells slots Q hC hA H locs ls g1 g2 g3 g4
    exact lv_irem hC.1 hC.2.1 hd (hc _ hq) (hA H locs ls g1 g2 g3 g4)
  · obtain ⟨x, y, st', rfl, -, rfl⟩ := pt_s2_in h
    intro p l e s m args below meth c D ad cA A cells slots Q hC hA H locs ls g1 g2 g3 g4
    exact lv_iand hC.1 hC.2.1 hd (hA H locs ls g1 g2 g3 g4)
  · obtain ⟨x, y, st', rfl, -, rfl⟩ := pt_s2_in h
    intro p l e s m args below meth c D ad cA A cells slots Q hC hA H locs ls g1 g2 g3 g4
    exact lv_ior hC.1 hC.2.1 hd (hA H locs ls g1 g2 g3 g4)
  · obtain ⟨x, y, st', rfl, -, rfl⟩ := pt_s2_in h
    intro p l e s m args below meth c D ad cA A cells slots Q hC hA H locs ls g1 g2 g3 g4
    exact lv_ixor hC.1 hC.2.1 hd (hA H locs ls g1 g2 g3 g4)
  · obtain ⟨x, y, st', rfl, -, rfl⟩ := pt_s2_in h
    intro p l e s m args below meth c D ad cA A cells slots Q hC hA H locs ls g1 g2 g3 g4
    exact lv_ishl hC.1 hC.2.1 hd (hA H locs ls g1 g2 g3 g4)
  · obtain ⟨x, y, st', rfl, -, rfl⟩ := pt_s2_in h
    intro p l e s m args below meth c D ad cA A cells slots Q hC hA H locs ls g1 g2 g3 g4
    exact lv_ishr hC.1 hC.2.1 hd (hA H locs ls g1 g2 g3 g4)
  · obtain ⟨x, y, st', rfl, -, rfl⟩ := pt_s2_in h
    intro p l e s m args below meth c D ad cA A cells slots Q hC hA H locs ls g1 g2 g3 g4
    exact lv_iushr hC.1 hC.2.1 hd rfl (hA H locs ls g1 g2 g3 g4)
  · obtain ⟨x, st', rfl, rfl⟩ := pt_s1_in h
    intro p l e s m args below meth c D ad cA A cells slots Q hC hA H locs ls g1 g2 g3 g4
    exact lv_ineg hC.1 hC.2.1 hd (hA H locs ls g1 g2 g3 g4)
  · obtain ⟨x, st', rfl, rfl⟩ := pt_s1_in h
    intro p l e s m args below meth c D ad cA A cells slots Q hC hA H locs ls g1 g2 g3 g4
    exact lv_i2b hC.1 hC.2.1 hd rfl (hA H locs ls g1 g2 g3 g4)
  · obtain ⟨x, st', rfl, rfl⟩ := pt_s1_in h
    intro p l e s m args below meth c D ad cA A cells slots Q hC hA H locs ls g1 g2 g3 g4
    exact lv_i2s hC.1 hC.2.1 hd rfl (hA H locs ls g1 g2 g3 g4)
  · obtain ⟨x, st', rfl, rfl⟩ := pt_s1_in h
    intro p l e s m args below meth c D ad cA A cells slots Q hC hA H locs ls g1 g2 g3 g4
    exact lv_i2l hC.1 hC.2.1 hd rfl (hA H locs ls g1 g2 g3 g4)
  · obtain ⟨x, y, st', rfl, rfl⟩ := pt_g2_in h
    intro p l e s m args below meth c D ad cA A cells slots Q hC hA H locs ls g1 g2 g3 g4
    exact lv_lsub hC.1 hC.2.1 hd (hA H locs ls g1 g2 g3 g4)
  · obtain ⟨x, y, st', rfl, rfl⟩ := pt_g2_in h
    intro p l e s m args below meth c D ad cA A cells slots Q hC hA H locs ls g1 g2 g3 g4
    exact lv_lmul hC.1 hC.2.1 hd (hA H locs ls g1 g2 g3 g4)
  · obtain ⟨x, y, st', rfl, rfl⟩ := pt_g2_in h
    intro p l e s m args below meth c D ad cA A cells slots Q hC hA H locs ls g1 g2 g3 g4
    exact W.lcmp hC.1 hC.2.1 hd (hA H locs ls g1 g2 g3 g4)
  · cases h
    intro p l e s m args below meth c D ad cA A cells slots Q hC hA H locs ls g1 g2 g3 g4
    exact lv_goto hC.1 hC.2.1 hd (of_decide_eq_true ht) (hA H locs ls g1 g2 g3 g4)
  · split at h
    · exact pt_icmp_ok hd (of_decide_eq_true ht) (pt_br_in h hc)
    · cases h
  · split at h
    · exact pt_if_ok hd (of_decide_eq_true ht) (pt_br_in h hc)
    · cases h
  · split at h
    · cases h
      intro p l e s m args below meth c D ad cA A cells slots Q hC hA H locs ls g1 g2 g3 g4
      exact lv_ifnullN hC.1 hC.2.1 hd (of_decide_eq_true ht) (hA H locs ls g1 g2 g3 g4)
    · cases h
      intro p l e s m args below meth c D ad cA A cells slots Q hC hA H locs ls g1 g2 g3 g4
      exact lv_ifnull hC.1 hC.2.1 hd (hA H locs ls g1 g2 g3 g4)
    · cases h
  · split at h
    · cases h
      intro p l e s m args below meth c D ad cA A cells slots Q hC hA H locs ls g1 g2 g3 g4
      exact lv_ifnonnullN hC.1 hC.2.1 hd (hA H locs ls g1 g2 g3 g4)
    · cases h
      intro p l e s m args below meth c D ad cA A cells slots Q hC hA H locs ls g1 g2 g3 g4
      exact lv_ifnonnull hC.1 hC.2.1 hd (of_decide_eq_true ht) (hA H locs ls g1 g2 g3 g4)
    · cases h
  · split at h
    · rename_i hlk
      split at h
      · rename_i hk
        cases h
        intro p l e s m args below meth c D ad cA A cells slots Q hC hA H locs ls g1 g2 g3 g4
        obtain ⟨kq, hkq⟩ := List.getElem?_of_mem (List.mem_map.mpr ⟨_, pt_lk_mem hlk, rfl⟩ : _ ∈ pt_cl ad L)
        exact lv_iinc hC.1 hC.2.1 hd g4 (k := kq) hkq rfl (Nat.le_of_ble_eq_true hk) rfl (fun ls' h' => hA H locs ls' g1 g2 g3 (pt_has1 (v := pt_i _) h'))
      · cases h
    · cases h
  · split at h
    · split at h
      · rename_i hv
        cases h
        intro p l e s m args below meth c D ad cA A cells slots Q hC hA H locs ls g1 g2 g3 g4
        exact lv_dup hC.1 hC.2.1 hd (by rw [pt_cat, hv]; rfl) (hA H locs ls g1 g2 g3 g4)
      · cases h
    · cases h
  · split at h
    · split at h
      · rename_i hv
        cases h
        rw [Bool.or_eq_false_iff] at hv
        intro p l e s m args below meth c D ad cA A cells slots Q hC hA H locs ls g1 g2 g3 g4
        exact lv_dup2_11 hC.1 hC.2.1 hd (by rw [pt_cat, hv.1]; rfl) (by rw [pt_cat, hv.2]; rfl) (hA H locs ls g1 g2 g3 g4)
      · cases h
    · cases h
  · exact pt_gf_ok hd h hc
  · exact pt_pf_ok hd h hc
  · split at h
    · rename_i k hk
      cases h
      intro p l e s m args below meth c D ad cA A cells slots Q hC hA H locs ls g1 g2 g3 g4
      obtain ⟨nm, hnm, hw⟩ := pt_sk_ok hk
      obtain ⟨k, rfl⟩ : ∃ n, k = n + 1 := by
        apply pt_k1
        rintro rfl
        cases hnm
      exact va_gets hC.1 hC.2.1 (g2.2 _ _ hnm) g3 hC.2.2.2.2.1 (hC.2.2.2.2.2.1 _ hw) (fun _ z => z) hd (hA H locs ls g1 g2 g3 g4)
    · cases h
  · exact pt_al_ok hd (Or.inl ⟨rfl, rfl⟩) h hc
  · exact pt_al_ok hd (Or.inr (Or.inl ⟨rfl, rfl⟩)) h hc
  · exact pt_al_ok hd (Or.inr (Or.inr (Or.inl ⟨rfl, rfl⟩))) h hc
  · exact pt_al_ok hd (Or.inr (Or.inr (Or.inr ⟨rfl, rfl⟩))) h hc
  · exact pt_as_ok hd (Or.inl ⟨rfl, rfl⟩) h hc
  · exact pt_as_ok hd (Or.inr (Or.inl ⟨rfl, rfl⟩)) h hc
  · exact pt_as_ok hd (Or.inr (Or.inr (Or.inl ⟨rfl, rfl⟩))) h hc
  · exact pt_as_ok hd (Or.inr (Or.inr (Or.inr ⟨rfl, rfl⟩))) h hc
  · exact pt_len_ok hd h hc
  · exact pt_cal_ok hd h hc
  · exact pt_cal_ok hd h hc
  · cases h
/-- a method's instructions, by sixteens: place, instruction, length, target -/
abbrev pt_B : Type := List (List (Nat × Instr × Nat × Nat))
def pt_b1 : List (Nat × Instr × Nat × Nat) → Nat → Option (Instr × Nat × Nat)
  | [], _ => none
  | q :: t, i => match Nat.beq q.1 i with
    | true => some q.2
    | false => pt_b1 t i
def pt_bn : pt_B → Nat → List (Nat × Instr × Nat × Nat)
  | [], _ => []
  | q :: _, 0 => q
  | _ :: t, n + 1 => pt_bn t n
def pt_okI (b : ByteArray) (q : Nat × Instr × Nat × Nat) : Bool := match decode b q.1 with
  | .ok z => decide (z = (q.2.1, q.2.2.1)) && Nat.beq q.2.2.1 (pt_ln q.2.1) && pt_tg q.2.1 q.1 q.2.2.2
  | .error _ => false
def pt_ok (b : ByteArray) (t : pt_B) : Bool := t.all fun r => r.all (pt_okI b)
theorem pt_b1_mem : ∀ {l : List (Nat × Instr × Nat × Nat)} {i : Nat} {v : Instr × Nat × Nat}, pt_b1 l i = some v → (i, v) ∈ l
  | [], _, _, h => by cases h
  | q :: t, i, v, h => by
    unfold pt_b1 at h
    split at h
    · rename_i hq
      cases h
      have : q.1 = i := Nat.eq_of_beq_eq_true hq
      subst this
      exact List.mem_cons_self
    · exact List.mem_cons_of_mem _ (pt_b1_mem h)
theorem pt_bn_all {P : Nat × Instr × Nat × Nat → Bool} : ∀ {t : pt_B} {n : Nat}, (t.all fun r => r.all P) = true → ∀ q ∈ pt_bn t n, P q = true
  | [], n, _, q, h => by cases n <;> cases h
  | r :: t, 0, ha, q, h => by
    rw [List.all_cons, Bool.and_eq_true] at ha
    exact List.all_eq_true.mp ha.1 q h
  | r :: t, n + 1, ha, q, h => by
    rw [List.all_cons, Bool.and_eq_true] at ha
    exact pt_bn_all (n := n) ha.2 q h
def pt_run (Y : pt_Y) (t : pt_B) : Nat → List pt_O → pt_S → Option (Prop × pt_S)
  | 0, _, σ => some (True, σ)
  | k + 1, o, σ => match pt_b1 (pt_bn t (σ.1 / 16)) σ.1 with
    | none => none
    | some q => match pt_stp Y q.1 q.2.1 q.2.2 o σ with
      | none => none
      | some r => match pt_run Y t k r.2.1 r.2.2 with
        | none => none
        | some z => some (match r.1 with
          | none => z.1
          | some P => P ∧ z.1, z.2)
theorem pt_run_ok {Y : pt_Y} {t : pt_B} (hok : pt_ok Y.2.1 t = true) : ∀ (k : Nat) (o : List pt_O) {σ τ : pt_S} {P : Prop}, pt_run Y t k o σ = some (P, τ) → P → pt_Go Y σ τ
  | 0, o, σ, τ, P, h, hP => by
    unfold pt_run at h
    cases h
    exact pt_Go.rf
  | k + 1, o, σ, τ, P, h, hP => by
    unfold pt_run at h
    split at h
    · cases h
    · rename_i q hq
      split at h
      · cases h
      · rename_i r hr
        split at h
        · cases h
        · rename_i z hz
          cases h
          have hm := pt_bn_all hok _ (pt_b1_mem hq)
          unfold pt_okI at hm
          obtain ⟨I, n, tg⟩ := q
          obtain ⟨c, o', σ'⟩ := r
          obtain ⟨P', τ'⟩ := z
          split at hm
          · rename_i z hdz
            rw [Bool.and_eq_true, Bool.and_eq_true] at hm
            obtain ⟨⟨h1, h2⟩, h3⟩ := hm
            have e1 := of_decide_eq_true h1
            rw [e1] at hdz
            dsimp only at hr hz hP hdz h2 h3
            cases c with
            | none => exact (pt_stp_ok hr (fun Z z => by cases z) hdz (Nat.eq_of_beq_eq_true h2) h3).tr (pt_run_ok hok k o' hz hP)
            | some P0 => exact (pt_stp_ok hr (fun Z z => by cases z; exact hP.1) hdz (Nat.eq_of_beq_eq_true h2) h3).tr (pt_run_ok hok k o' hz hP.2)
          · cases hm
end
section
/-! a method does what is said of it: 'pt_Does'; calling it -/
def pt_Ad (ad : Nat → Nat → Nat) : Nat → Prop := fun q => ∃ k i, pt_dm k i ∧ q = ad k i
def pt_Pc (D : va_G) (ad : Nat → Nat → Nat) (cA : Nat → ClassId) (M : pt_M) (vs : List pt_V) : Array Value → State → Prop := fun a U => a = (vs.map (pt_cv ad)).toArray ∧ pt_Hd D ad cA M U.heap ∧ pt_Wd D ad cA U ∧ pt_Ro ad (pt_Ad ad) M U
def pt_Qc (D : va_G) (ad : Nat → Nat → Nat) (cA : Nat → ClassId) (r : Option pt_V) (M' : pt_M) : Array Value → State → Outcome → State → Prop := fun _ st oc t => oc = .returned (r.map (pt_cv ad)) ∧ pt_Hd D ad cA M' t.heap ∧ va_F (pt_Ad ad) st t
def pt_Does (y : MethodName) (Y : pt_Y) (vs : List pt_V) (M : pt_M) (r : Option pt_V) (M' : pt_M) : Prop :=
  M'.2.2.2.2 = M.2.2.2.2 ∧ ∀ (l : Launch) (D : va_G) (ad : Nat → Nat → Nat) (cA : Nat → ClassId), Met l y (Cond.code y Y.2.1 Y.2.2.1 Y.2.2.2.1 :: pt_tb) Y.2.2.2.2 (pt_Pc D ad cA M vs) (pt_Qc D ad cA r M') 0 0 (pt_Ad ad)
def pt_en : Nat → List pt_V → List (Nat × pt_V)
  | _, [] => []
  | i, v :: vs => (i, v) :: pt_en (match pt_isL v with
    | true => i + 2
    | false => i + 1) vs
theorem pt_en_ok (ad : Nat → Nat → Nat) : ∀ (vs : List pt_V) (i : Nat), pt_cl ad (pt_en i vs) = lv_args i (vs.map (pt_cv ad))
  | [], _ => rfl
  | v :: vs, i => by
    show (i, pt_cv ad v) :: pt_cl ad (pt_en _ vs) = (i, pt_cv ad v) :: lv_args _ (vs.map (pt_cv ad))
    rw [pt_en_ok ad vs, pt_cat]
    cases pt_isL v <;> rfl
theorem pt_sl_len (ad : Nat → Nat → Nat) : ∀ vs : List pt_V, (lg_sl (vs.map (pt_cv ad))).length = (vs.map pt_w).sum
  | [] => rfl
  | v :: vs => by
    have ih := pt_sl_len ad vs
    unfold lg_sl at ih ⊢
    rw [List.map_cons, List.flatMap_cons, List.length_append, ih, List.map_cons, List.sum_cons, pt_cat]
    unfold pt_w
    cases pt_isL v <;> rfl
theorem pt_F0 {ad : Nat → Nat → Nat} {r : Option pt_V} {st : List pt_V} : (r.toList ++ st).map (pt_cv ad) = (r.map (pt_cv ad)).toList ++ st.map (pt_cv ad) := by
  cases r <;> simp
/-- the ends of a method -/
theorem pt_does {y : MethodName} {Y : pt_Y} {vs : List pt_V} {M M' : pt_M} {r : Option pt_V} (hy : plainFor y = true) (hown : y.cls = pt_own Y.1) (hvs : (vs.map pt_w).sum ≤ Y.2.2.1) (hX : M'.2.2.2.2 = M.2.2.2.2)
    (h : ∀ (p : Program) (l : Launch) (e : Env) (s : State) (m : MethodId) (args : Array Value) (below : List Frame) (meth : Method) (c : Code) (D : va_G) (ad : Nat → Nat → Nat) (cA : Nat → ClassId), pt_Cx Y p s m args meth c D ad cA (pt_Ad ad) 0 0 →
      pt_At Y p l e s m args below meth c D ad cA (pt_Ad ad) 0 0 (MQ below (pt_Qc D ad cA r M') args s 0 0 (pt_Ad ad)) (0, pt_en 0 vs, [], M)) : pt_Does y Y vs M r M' := by
  refine ⟨hX, fun l D ad cA => ?_⟩
  refine MetFree.of_bodySF (code := Y.2.1) (maxLocals := Y.2.2.1) (ret := Y.2.2.2.1) hy ?_ ?_
  · intro args s m h hn
    obtain ⟨meth, c, h1, h2, h3, h4, h5, h6, -, -⟩ := Cond.code_spec hn (atoms_spec (ws := Cond.code y Y.2.1 Y.2.2.1 Y.2.2.2.1 :: pt_tb) h _ List.mem_cons_self)
    exact ⟨meth, c, h1, h2, h3, h4, h5, h6⟩
  · intro p e s m args below meth c s₁ B hml hP _
    obtain ⟨rfl, hH, hW, hR⟩ := hP
    have hts := atoms_spec (ws := Cond.code y Y.2.1 Y.2.2.1 Y.2.2.2.1 :: pt_tb) B.pre
    have hh0 : s₁.heap = s.heap := by rw [B.state]; rfl
    have hcx : pt_Cx Y p s m (vs.map (pt_cv ad)).toArray meth c D ad cA (pt_Ad ad) 0 0 := ⟨B.exec, B.bytes, B.returns, hml, by rw [← hown]; exact findClass_of_methodNamed B.named, fun w hw => hts w (List.mem_cons_of_mem _ hw), ⟨B.notSynchronized, Nat.zero_le _, Nat.zero_le _⟩, hW, fun k i hd => ⟨k, i, hd, rfl⟩⟩
    have hl := lv_entry (vs.map (pt_cv ad)) (n := Y.2.2.1) (by rw [pt_sl_len]; exact hvs)
    rw [← pt_en_ok] at hl
    have K := h p l e s m (vs.map (pt_cv ad)).toArray below meth c D ad cA hcx s.heap [] _ hH hR va_S.rf hl
    obtain ⟨t, a1, o, b1, b2, b3⟩ := K s₁ hh0 (Stand.of_body B)
    refine ⟨t, o, ?_, b1, b2, ⟨b3.1, b3.2⟩⟩
    rw [lg_entry_eq]
    exact a1
theorem pt_reti {Y : pt_Y} {p : Program} {l : Launch} {e : Env} {s : State} {m : MethodId} {args : Array Value} {below : List Frame} {meth : Method} {c : Code} {D : va_G} {ad : Nat → Nat → Nat} {cA : Nat → ClassId} {pc : Nat} {L : List (Nat × pt_V)} {x : Int32} {M' : pt_M} {ty : FieldType} (hr : Y.2.2.2.1 = some ty) (hn : narrow ty (.int x) = .int x) (hd : decode Y.2.1 pc = .ok (.ireturn, 1)) (hC : pt_Cx Y p s m args meth c D ad cA (pt_Ad ad) 0 0) :
    pt_At Y p l e s m args below meth c D ad cA (pt_Ad ad) 0 0 (MQ below (pt_Qc D ad cA (some (pt_i x)) M') args s 0 0 (pt_Ad ad)) (pc, L, [pt_i x], M') := by
  intro H locs ls g1 g2 g3 g4
  obtain ⟨hx, hb, hrt, hml, hown, hts, hlk, hW, hAd⟩ := hC
  exact W.zret hx hb (hrt.trans hr) hn (fun t ht hW => ⟨rfl, by rw [ht]; exact g1, g3.F ht⟩) g3.2.2 hd hlk.1
theorem pt_retr {Y : pt_Y} {p : Program} {l : Launch} {e : Env} {s : State} {m : MethodId} {args : Array Value} {below : List Frame} {meth : Method} {c : Code} {D : va_G} {ad : Nat → Nat → Nat} {cA : Nat → ClassId} {pc : Nat} {L : List (Nat × pt_V)} {k i : Nat} {M' : pt_M} {ty : FieldType} (hr : Y.2.2.2.1 = some ty) (hn : (∃ n, ty = .object n) ∨ ∃ t, ty = .array t) (hd : decode Y.2.1 pc = .ok (.areturn, 1)) (hC : pt_Cx Y p s m args meth c D ad cA (pt_Ad ad) 0 0) :
    pt_At Y p l e s m args below meth c D ad cA (pt_Ad ad) 0 0 (MQ below (pt_Qc D ad cA (some (pt_r k i)) M') args s 0 0 (pt_Ad ad)) (pc, L, [pt_r k i], M') := by
  intro H locs ls g1 g2 g3 g4
  obtain ⟨hx, hb, hrt, hml, hown, hts, hlk, hW, hAd⟩ := hC
  exact W.aret hx hb (hrt.trans hr) hn (by cases k; exact Or.inl rfl; exact Or.inr ⟨_, rfl⟩) (fun t ht hW => ⟨rfl, by rw [ht]; exact g1, g3.F ht⟩) g3.2.2 hd hlk.1
theorem pt_retv {Y : pt_Y} {p : Program} {l : Launch} {e : Env} {s : State} {m : MethodId} {args : Array Value} {below : List Frame} {meth : Method} {c : Code} {D : va_G} {ad : Nat → Nat → Nat} {cA : Nat → ClassId} {pc : Nat} {L : List (Nat × pt_V)} {M' : pt_M} (hr : Y.2.2.2.1 = none) (hd : decode Y.2.1 pc = .ok (.return_, 1)) (hC : pt_Cx Y p s m args meth c D ad cA (pt_Ad ad) 0 0) :
    pt_At Y p l e s m args below meth c D ad cA (pt_Ad ad) 0 0 (MQ below (pt_Qc D ad cA none M') args s 0 0 (pt_Ad ad)) (pc, L, [], M') := by
  intro H locs ls g1 g2 g3 g4
  obtain ⟨hx, hb, hrt, hml, hown, hts, hlk, hW, hAd⟩ := hC
  exact W.vret hx hb (hrt.trans hr) (fun t ht hW => ⟨rfl, by rw [ht]; exact g1, g3.F ht⟩) g3.2.2 hd hlk.1
/-- the method comes to its return: what it answers, the memory behind it -/
def pt_rk (Y : pt_Y) (t : pt_B) (pc : Nat) (r : Option pt_V) : Prop := ∃ q, pt_b1 (pt_bn t (pc / 16)) pc = some q ∧ match r with
  | none => q.1 = .return_ ∧ Y.2.2.2.1 = none
  | some (.inl x) => q.1 = .ireturn ∧ ∃ ty, Y.2.2.2.1 = some ty ∧ narrow ty (.int x) = .int x
  | some (.inr (.inl _)) => False
  | some (.inr (.inr _)) => q.1 = .areturn ∧ ∃ ty, Y.2.2.2.1 = some ty ∧ ((∃ n, ty = .object n) ∨ ∃ t, ty = .array t)
theorem pt_dec {b : ByteArray} {t : pt_B} (hok : pt_ok b t = true) {pc : Nat} {q : Instr × Nat × Nat} (h : pt_b1 (pt_bn t (pc / 16)) pc = some q) : decode b pc = .ok (q.1, pt_ln q.1) := by
  have hm := pt_bn_all hok _ (pt_b1_mem h)
  unfold pt_okI at hm
  split at hm
  · rename_i z hdz
    rw [Bool.and_eq_true, Bool.and_eq_true] at hm
    obtain ⟨⟨h1, h2⟩, h3⟩ := hm
    have e1 := of_decide_eq_true h1
    rw [e1] at hdz
    rw [hdz, Nat.eq_of_beq_eq_true h2]
  · cases hm
theorem pt_does_go {y : MethodName} {Y : pt_Y} {t : pt_B} (hok : pt_ok Y.2.1 t = true) (hy : (plainFor y && decide (y.cls = pt_own Y.1)) = true) {vs : List pt_V} {M M' : pt_M} {r : Option pt_V} {pc : Nat} {L : List (Nat × pt_V)} (hvs : (vs.map pt_w).sum ≤ Y.2.2.1) (hX : M'.2.2.2.2 = M.2.2.2.2) (hr : pt_rk Y t pc r) (h : pt_Go Y (0, pt_en 0 vs, [], M) (pc, L, r.toList, M')) : pt_Does y Y vs M r M' := by
  rw [Bool.and_eq_true] at hy
  refine pt_does hy.1 (of_decide_eq_true hy.2) hvs hX fun p l e s m args below meth c D ad cA hC => h p l e s m args below meth c D ad cA (pt_Ad ad) 0 0 _ hC ?_
  obtain ⟨q, hq, hr⟩ := hr
  have hd := pt_dec hok hq
  match r, hr with
  | none, hr => rw [hr.1] at hd; exact pt_retv hr.2 hd hC
  | some (.inl x), hr =>
    obtain ⟨h1, ty, h2, h3⟩ := hr
    rw [h1] at hd
    exact pt_reti h2 h3 hd hC
  | some (.inr (.inr (k, i))), hr =>
    obtain ⟨h1, ty, h2, h3⟩ := hr
    rw [h1] at hd
    exact pt_retr h2 h3 hd hC
/-! calling -/
theorem pt_Wd.moved {D : va_G} {ad : Nat → Nat → Nat} {cA : Nat → ClassId} {s U : State} (h : s.vm.Alike U.vm) (hn : pt_nw U) (hW : pt_Wd D ad cA s) : pt_Wd D ad cA U := ⟨va_K.moved h hW.1, hW.2.1, hn⟩
theorem pt_nw.warm {s U : State} (h : s.WarmedH U.vm) (hn : pt_nw s) : pt_nw U := ⟨va_Nw.warmM h hn.1, va_Nw.warmM h hn.2⟩
theorem pt_Ro.moved {ad : Nat → Nat → Nat} {A B : Nat → Prop} {M : pt_M} {s U : State} {locs : List Loc} (h : s.vm.Alike U.vm) (hS : va_S A s.heap U.heap locs) (hAB : ∀ q, B q → A q) (hR : pt_Ro ad A M s) : pt_Ro ad B M U := by
  refine ⟨fun k q hq => ?_, fun k nm hn => ?_⟩
  · obtain ⟨h1, h2⟩ := hR.1 k q hq
    have hlt : ad k 0 < s.heap.size := by
      obtain ⟨scr, g1, -⟩ := h1
      exact (Array.getElem?_eq_some_iff.mp g1).1
    exact ⟨(h1.kept (hS.2.1 _ hlt h2)).moved h, fun z => h2 (hAB _ z)⟩
  · exact (((hR.2 k nm hn).kept (fun a h1 h2 => hS.2.1 a h1 h2)).moved h).narrow hAB
theorem pt_blind {D : va_G} {ad : Nat → Nat → Nat} {cA : Nat → ClassId} {M : pt_M} {vs : List pt_V} : FrameBlind (pt_Pc D ad cA M vs) := by
  intro a U g mk h
  obtain ⟨h1, h2, h3, h4⟩ := h
  exact ⟨h1, h2, pt_Wd.moved (s := U) (U := U.calling g mk a) (Vm.Alike.refl U.vm) ⟨va_Nw.same rfl rfl h3.2.2.1, va_Nw.same rfl rfl h3.2.2.2⟩ h3, pt_Ro.moved (s := U) (U := U.calling g mk a) (A := pt_Ad ad) (locs := []) (Vm.Alike.refl U.vm) va_S.rf (fun _ z => z) h4⟩
theorem pt_goodw {y : MethodName} {b : ByteArray} {n : Nat} {r : Option FieldType} (h : Cond.code y b n r ∈ pt_tb) : GoodIn pt_tb (Cond.code y b n r :: pt_tb) := by
  intro w hw
  have hm : w ∈ pt_tb := by
    rcases List.mem_cons.mp hw with rfl | hw
    · exact h
    · exact hw
  exact ⟨hm, good_of_word (List.mem_filter.mp hm).2⟩
theorem pt_goes {Y : pt_Y} {pc : Nat} {L : List (Nat × pt_V)} {st st0 : List pt_V} {M M' : pt_M} {r : Option pt_V} {p : Program} {l : Launch} {e : Env} {s : State} {m : MethodId} {args : Array Value} {below : List Frame} {meth : Method} {c : Code} {D : va_G} {ad : Nat → Nat → Nat} {cA : Nat → ClassId} {A : Nat → Prop} {cells slots : Nat} {Q : State → Prop} {H : Heap} {locs : List Loc} {ls : Array Slot} {a : Array Value}
    (hX : M'.2.2.2.2 = M.2.2.2.2) (hAd : ∀ q, pt_Ad ad q → A q)
    (hr : va_Run p l e Y.2.2.2.2 s m args below meth c H locs cells slots 0 0 (F0 m pc ls (st0.map (pt_cv ad))) (st.map (pt_cv ad)) (pt_Qc D ad cA r M' a) (pt_Ad ad))
    (hA : pt_At Y p l e s m args below meth c D ad cA A cells slots Q (pc + 3, L, r.toList ++ st, M')) (g2 : pt_Ro ad A M s) (g3 : va_S A s.heap H locs) (g4 : lv_has ls Y.2.2.1 (pt_cl ad L)) :
    W p l e Y.2.2.2.2 s m args below meth c H locs cells slots Q (F0 m pc ls (st0.map (pt_cv ad))) := by
  intro T hT X
  obtain ⟨v, st₀, t, T', Lc, h0, X', hL, e1, e2, ⟨hv, hH', hz, hk⟩, stp⟩ := hr T hT X
  cases hv
  rw [h0] at hz hk
  have hro : pt_Ro ad A M' s := by
    refine ⟨fun k q hq => g2.1 k q ?_, g2.2⟩
    rw [← hq]
    unfold pt_ro pt_L pt_X
    rw [hX]
  have h3 : va_S A s.heap T'.heap (locs ++ Lc) := by
    refine ⟨Nat.le_trans g3.1 (by rw [e1]; exact hz), fun q h1 h2 => ?_, fun q hq => ?_⟩
    · rw [e1, hk q (Nat.lt_of_lt_of_le h1 g3.1) (fun z => h2 (hAd q z))]
      exact g3.2.1 q h1 h2
    · rcases List.mem_append.mp hq with h | h
      · exact g3.2.2 q h
      · exact hAd _ (hL q h)
  have K := hA T'.heap (locs ++ Lc) ls (by rw [e1]; exact hH') hro h3 g4
  dsimp only at K
  rw [pt_F0] at K
  obtain ⟨t2, a1, b1⟩ := K T' rfl X'
  exact ⟨t2, stp t2 a1, b1⟩

/-- a word of the tables, by its place -/
def pt_wi (i : Nat) (w : Cond) : Bool := (match lw_tbl[i]? with
  | some z => decide (z = w)
  | none => false) && goodWord w
theorem pt_wi_ok {i : Nat} {w : Cond} (h : pt_wi i w = true) : w ∈ pt_tb := by
  unfold pt_wi at h
  rw [Bool.and_eq_true] at h
  obtain ⟨h1, h2⟩ := h
  split at h1
  · rename_i z hz
    cases of_decide_eq_true h1
    exact pt_tb_of (List.mem_of_getElem? hz) h2
  · cases h1
/-- a method's words: initialised, its code -/
def pt_ckM (y : MethodName) (Y : pt_Y) (n i1 i2 : Nat) : Bool :=
  pt_wi i1 (Cond.initialized y.cls) && (pt_wi i2 (Cond.code y Y.2.1 Y.2.2.1 Y.2.2.2.1) && (decide (y.cls ≠ "java/lang/invoke/MethodHandle" ∧ y.cls ≠ "java/lang/invoke/VarHandle") && (decide ((parseMethodDescriptor y.desc).map (fun d => d.parameters.length) = some n) && (Nat.beq Y.2.2.2.2.cells 0 && Nat.beq Y.2.2.2.2.slots 0))))
def pt_ckR (Y Yc : pt_Y) : Bool := Nat.ble (Yc.2.2.2.2.frames + 1) Y.2.2.2.2.frames && Nat.ble (8 + (Yc.2.2.1 + 11) + Yc.2.2.2.2.locals) Y.2.2.2.2.locals
theorem pt_ckB_ok {Y : pt_Y} {y : MethodName} {Yc : pt_Y} {n i1 i2 : Nat} (h : pt_ckM y Yc n i1 i2 = true) (hr : pt_ckR Y Yc = true) : Cond.initialized y.cls ∈ pt_tb ∧ Cond.code y Yc.2.1 Yc.2.2.1 Yc.2.2.2.1 ∈ pt_tb ∧ (y.cls ≠ "java/lang/invoke/MethodHandle" ∧ y.cls ≠ "java/lang/invoke/VarHandle" ∧ (parseMethodDescriptor y.desc).map (fun d => d.parameters.length) = some n) ∧ Yc.2.2.2.2.cells = 0 ∧ Yc.2.2.2.2.slots = 0 ∧ Yc.2.2.2.2.frames + 1 ≤ Y.2.2.2.2.frames ∧ 8 + (Yc.2.2.1 + 11) + Yc.2.2.2.2.locals ≤ Y.2.2.2.2.locals := by
  unfold pt_ckM at h
  unfold pt_ckR at hr
  simp only [Bool.and_eq_true, decide_eq_true_eq] at h hr
  obtain ⟨h1, h2, h3, h4, h5, h6⟩ := h
  exact ⟨pt_wi_ok h1, pt_wi_ok h2, ⟨h3.1, h3.2, h4⟩, Nat.eq_of_beq_eq_true h5, Nat.eq_of_beq_eq_true h6, Nat.le_of_ble_eq_true hr.1, Nat.le_of_ble_eq_true hr.2⟩
theorem pt_rm {ad : Nat → Nat → Nat} {m : MethodId} {pc : Nat} {ls : Array Slot} {rest : List Value} : ∀ {st : List pt_V}, (st.map pt_w).sum ≤ 8 → 2 * (F0 m pc ls rest).monitorRoom + ((st.map (pt_cv ad)).map fun v => v.category).sum ≤ 8 := by
  intro st h
  apply lv_room
  have : ((st.map (pt_cv ad)).map fun v => v.category) = st.map pt_w := by
    rw [List.map_map]
    apply List.map_congr_left
    intro v _
    show (pt_cv ad v).category = pt_w v
    rw [pt_cat]
    unfold pt_w
    cases pt_isL v <;> rfl
  rw [this]
  exact h
def pt_ckS (Y : pt_Y) (idx : Nat) (y : MethodName) (Yc : pt_Y) (i3 i4 : Nat) : Bool := pt_wi i3 (Cond.methodLink (pt_own Y.1) idx y) && (pt_wi i4 (Cond.static y) && pt_ckR Y Yc)
theorem pt_callS {Y Yc : pt_Y} {idx n i1 i2 i3 i4 : Nat} {y : MethodName} {vs : List pt_V} {M M' : pt_M} {r : Option pt_V} (hk : pt_ckS Y idx y Yc i3 i4 = true) (hm : pt_ckM y Yc n i1 i2 = true) (hn : vs.length = n) (hD : pt_Does y Yc vs M r M') : pt_Cal Y (.invokestatic idx) vs M r M' := by
  unfold pt_ckS at hk
  simp only [Bool.and_eq_true] at hk
  obtain ⟨k1, k2, hk⟩ := hk
  have k1 := pt_wi_ok k1
  have k2 := pt_wi_ok k2
  obtain ⟨k3, k4, k5, k6, k7, k8, k9⟩ := pt_ckB_ok hm hk
  intro pc L st hd hst p l e s m args below meth c D ad cA A cells slots Q hC hA H locs ls g1 g2 g3 g4
  obtain ⟨hx, hb, hr, hml, hown, hts, hlk, hW, hAd⟩ := hC
  have hAB : ∀ q, pt_Ad ad q → A q := by
    rintro q ⟨k, i, h1, rfl⟩
    exact hAd k i h1
  have hcw : CallB Y.2.2.2.2 s args (pt_own Y.1) idx y Yc.2.1 Yc.2.2.1 Yc.2.2.2.1 (Cond.code y Yc.2.1 Yc.2.2.1 Yc.2.2.2.1 :: pt_tb) Yc.2.2.2.2 0 0 n := callB_of n hts (pt_goodw k4) rfl k6 k7 (hts _ k3) (hts _ k1) k5 ⟨k8, k9⟩
  refine pt_goes (a := (vs.map (pt_cv ad)).toArray) hD.1 hAB ?_ hA g2 g3 g4
  exact va_runS (As := vs.map (pt_cv ad)) (rest := st.map (pt_cv ad)) ⟨hx, hb, hml, hown, hts⟩ (hD.2 l D ad cA) ⟨hcw, hts _ k2⟩ ⟨pt_blind, fun U hU hWm => ⟨rfl, by rw [hU]; exact g1, hW.moved hWm.alike (hW.2.2.warm hWm), pt_Ro.moved hWm.alike (by rw [hU]; exact g3) hAB g2⟩⟩ rfl (by rw [List.length_map]; exact hn) g4.1 (by show (vs.reverse ++ st).map _ = _; rw [List.map_append, List.map_reverse]) (pt_rm hst) hd ⟨hlk.2.1, hlk.2.2⟩
def pt_ckN (Y : pt_Y) (y : MethodName) (Yc : pt_Y) (i4 : Nat) : Bool := pt_wi i4 (Cond.static y) && pt_ckR Y Yc
theorem pt_callN {Y Yc : pt_Y} {idx n i1 i2 i4 : Nat} {y : MethodName} {h : String} {vs : List pt_V} {M M' : pt_M} {r : Option pt_V} (hl : ∀ s, pt_nw s → va_Nw (.methodLinkNest (pt_own Y.1) idx y h) s) (hk : pt_ckN Y y Yc i4 = true) (hm : pt_ckM y Yc n i1 i2 = true) (hn : vs.length = n) (hD : pt_Does y Yc vs M r M') : pt_Cal Y (.invokestatic idx) vs M r M' := by
  unfold pt_ckN at hk
  simp only [Bool.and_eq_true] at hk
  obtain ⟨k2, hk⟩ := hk
  have k2 := pt_wi_ok k2
  obtain ⟨k3, k4, k5, k6, k7, k8, k9⟩ := pt_ckB_ok hm hk
  intro pc L st hd hst p l e s m args below meth c D ad cA A cells slots Q hC hA H locs ls g1 g2 g3 g4
  obtain ⟨hx, hb, hr, hml, hown, hts, hlk, hW, hAd⟩ := hC
  have hAB : ∀ q, pt_Ad ad q → A q := by
    rintro q ⟨k, i, h1, rfl⟩
    exact hAd k i h1
  have hcw : va_CN Y.2.2.2.2 s args (pt_own Y.1) idx y h Yc.2.1 Yc.2.2.1 Yc.2.2.2.1 (Cond.code y Yc.2.1 Yc.2.2.1 Yc.2.2.2.1 :: pt_tb) Yc.2.2.2.2 0 0 n := va_cnB n hts (pt_goodw k4) rfl k6 k7 (hl s hW.2.2) (hts _ k3) k5 ⟨k8, k9⟩
  refine pt_goes (a := (vs.map (pt_cv ad)).toArray) hD.1 hAB ?_ hA g2 g3 g4
  exact va_runSN (As := vs.map (pt_cv ad)) (rest := st.map (pt_cv ad)) ⟨hx, hb, hml, hown, hts⟩ (hD.2 l D ad cA) ⟨hcw, hts _ k2, trivial⟩ ⟨pt_blind, fun U hU hWm => ⟨rfl, by rw [hU]; exact g1, hW.moved hWm.alike (hW.2.2.warm hWm), pt_Ro.moved hWm.alike (by rw [hU]; exact g3) hAB g2⟩⟩ rfl (by rw [List.length_map]; exact hn) g4.1 (by show (vs.reverse ++ st).map _ = _; rw [List.map_append, List.map_reverse]) (pt_rm hst) hd ⟨hlk.2.1, hlk.2.2⟩
def pt_cn (k : Nat) : String := match pt_ob k with
  | none => ""
  | some z => match vwCl[z.1]? with
    | none => ""
    | some q => q.1
def pt_ckV (Y : pt_Y) (idx k : Nat) (y : MethodName) (Yc : pt_Y) (i3 i4 i5 : Nat) : Bool := pt_wi i3 (Cond.methodLink (pt_own Y.1) idx y) && (pt_wi i4 (Cond.instanceMethod y) && (pt_wi i5 (Cond.selects (pt_cn k) y y) && pt_ckR Y Yc))
theorem pt_recv {D : va_G} {ad : Nat → Nat → Nat} {cA : Nat → ClassId} {M : pt_M} {H : Heap} {s : State} {k i : Nat} (hW : pt_Wd D ad cA s) (g1 : pt_Hd D ad cA M H) (hk : (pt_ob k).isSome = true) (hi : i < pt_ct k) : ∃ cell : Cell, H[ad k i]? = some cell ∧ cell.vm.isStatics = false ∧ s.vm.findClass (pt_cn k) = some cell.cls := by
  cases ho : pt_ob k with
  | none => rw [ho] at hk; cases hk
  | some z =>
    obtain ⟨ci, N⟩ := z
    have hP := g1.at hi (pt_ce_o (ad := ad) (cA := cA) (M := M) (i := i) ho)
    have hq : ∃ q, vwCl[ci]? = some q := by
      unfold pt_ob at ho
      split at ho <;> cases ho <;> exact ⟨_, rfl⟩
    obtain ⟨q, hq⟩ := hq
    have h := va_recv hW.1 hP hq (q0 := 0) rfl
    unfold pt_cn
    rw [ho]
    dsimp only
    rw [hq]
    exact h
theorem pt_callV {Y Yc : pt_Y} {idx n k i i1 i2 i3 i4 i5 : Nat} {y : MethodName} {vs : List pt_V} {M M' : pt_M} {r : Option pt_V} (hk : pt_ckV Y idx k y Yc i3 i4 i5 = true) (hm : pt_ckM y Yc n i1 i2 = true) (ho : (pt_ob k).isSome = true) (hi : i < pt_ct k) (hn : vs.length = n) (hD : pt_Does y Yc (pt_r k i :: vs) M r M') : pt_Cal Y (.invokevirtual idx) (pt_r k i :: vs) M r M' := by
  unfold pt_ckV at hk
  simp only [Bool.and_eq_true] at hk
  obtain ⟨k1, k2, k22, hk⟩ := hk
  have k1 := pt_wi_ok k1
  have k2 := pt_wi_ok k2
  have k22 := pt_wi_ok k22
  obtain ⟨k3, k4, k5, k6, k7, k8, k9⟩ := pt_ckB_ok hm hk
  intro pc L st hd hst p l e s m args below meth c D ad cA A cells slots Q hC hA H locs ls g1 g2 g3 g4
  obtain ⟨hx, hb, hr, hml, hown, hts, hlk, hW, hAd⟩ := hC
  have hAB : ∀ q, pt_Ad ad q → A q := by
    rintro q ⟨k, i, h1, rfl⟩
    exact hAd k i h1
  have hcw : CallB Y.2.2.2.2 s args (pt_own Y.1) idx y Yc.2.1 Yc.2.2.1 Yc.2.2.2.1 (Cond.code y Yc.2.1 Yc.2.2.1 Yc.2.2.2.1 :: pt_tb) Yc.2.2.2.2 0 0 n := callB_of n hts (pt_goodw k4) rfl k6 k7 (hts _ k3) (hts _ k1) k5 ⟨k8, k9⟩
  have hrv := pt_recv hW g1 ho hi
  refine pt_goes (a := ((pt_r k i :: vs).map (pt_cv ad)).toArray) hD.1 hAB ?_ hA g2 g3 g4
  have hM := hD.2 l D ad cA
  obtain ⟨k, rfl⟩ : ∃ n, k = n + 1 := by
    apply pt_k1
    rintro rfl
    cases ho
  exact va_runV (As := vs.map (pt_cv ad)) (rest := st.map (pt_cv ad)) (b := ad (k + 1) i) ⟨hx, hb, hml, hown, hts⟩ hM ⟨hcw, hts _ k2, hts _ k22⟩ ⟨pt_blind, hrv, fun U hU hWm => ⟨rfl, by rw [hU]; exact g1, hW.moved hWm.alike (hW.2.2.warm hWm), pt_Ro.moved hWm.alike (by rw [hU]; exact g3) hAB g2⟩⟩ rfl (by rw [List.length_map]; exact hn) g4.1 (by show ((pt_r (k + 1) i :: vs).reverse ++ st).map _ = _; rw [List.reverse_cons, List.append_assoc, List.map_append, List.map_reverse]; rfl) (pt_rm hst) hd ⟨hlk.2.1, hlk.2.2⟩
end
section
/-! methods: their instructions, by program -/
abbrev YX0_codeOf : pt_Y := (3, cX0_codeOf, 3, (some (.array .int)), ({ frames := 5, cells := 0, slots := 0, locals := 116 } : Room))
def tX0_codeOf : pt_B := [
  [(0, .aload_n 0, 1, 0), (1, .aload_n 1, 1, 0), (2, .invokevirtual 15, 3, 0), (5, .aload_n 1, 1, 0), (6, .getfield 19, 3, 0), (9, .aload_n 1, 1, 0), (10, .getfield 24, 3, 0), (13, .aload_n 1, 1, 0), (14, .getfield 27, 3, 0)],
  [(17, .invokestatic 31, 3, 0), (20, .invokestatic 35, 3, 0), (23, .ifCond .gt 7, 3, 30), (26, .iconst 1, 1, 0), (27, .goto 4, 3, 31), (30, .iconst 0, 1, 0), (31, .istore_n 2, 1, 0)],
  [(32, .iload_n 2, 1, 0), (33, .ifCond .eq 10, 3, 43), (36, .aload_n 1, 1, 0), (37, .getfield 19, 3, 0), (40, .goto 7, 3, 47), (43, .aload_n 1, 1, 0), (44, .getfield 24, 3, 0), (47, .areturn, 1, 0)]]
set_option maxRecDepth 100000 in
theorem tX0_codeOf_ok : pt_ok YX0_codeOf.2.1 tX0_codeOf = true := by decide +kernel
theorem nX0_codeOf : (plainFor yX0_codeOf && decide (yX0_codeOf.cls = pt_own YX0_codeOf.1)) = true := by decide +kernel
abbrev YX0_findFirstRows : pt_Y := (3, cX0_findFirstRows, 2, none, ({ frames := 4, cells := 0, slots := 0, locals := 95 } : Room))
def tX0_findFirstRows : pt_B := [
  [(0, .aload_n 1, 1, 0), (1, .getfield 39, 3, 0), (4, .ifCond .ne 28, 3, 32), (7, .aload_n 0, 1, 0), (8, .aload_n 1, 1, 0), (9, .iconst 0, 1, 0), (10, .aload_n 1, 1, 0), (11, .getfield 19, 3, 0), (14, .invokevirtual 43, 3, 0)],
  [(17, .aload_n 0, 1, 0), (18, .aload_n 1, 1, 0), (19, .iconst 1, 1, 0), (20, .aload_n 1, 1, 0), (21, .getfield 24, 3, 0), (24, .invokevirtual 43, 3, 0), (27, .aload_n 1, 1, 0), (28, .iconst 1, 1, 0), (29, .putfield 39, 3, 0)],
  [(32, .return_, 1, 0)]]
set_option maxRecDepth 100000 in
theorem tX0_findFirstRows_ok : pt_ok YX0_findFirstRows.2.1 tX0_findFirstRows = true := by decide +kernel
theorem nX0_findFirstRows : (plainFor yX0_findFirstRows && decide (yX0_findFirstRows.cls = pt_own YX0_findFirstRows.1)) = true := by decide +kernel
abbrev YX0_findFirstRow : pt_Y := (3, cX0_findFirstRow, 6, none, ({ frames := 3, cells := 0, slots := 0, locals := 70 } : Room))
def tX0_findFirstRow : pt_B := [
  [(0, .aload_n 3, 1, 0), (1, .iconst 3, 1, 0), (2, .invokestatic 47, 3, 0), (5, .aload_n 1, 1, 0), (6, .aload_n 1, 1, 0), (7, .invokevirtual 53, 3, 0), (10, .invokestatic 57, 3, 0), (13, .istore 4, 2, 0), (15, .iconst 0, 1, 0)],
  [(16, .istore 5, 2, 0), (18, .iload 5, 2, 0), (20, .aload_n 1, 1, 0), (21, .getfield 27, 3, 0), (24, .if_icmp .ge 34, 3, 58), (27, .iload 4, 2, 0), (29, .iload 5, 2, 0), (31, .invokestatic 63, 3, 0)],
  [(34, .ifCond .eq 18, 3, 52), (37, .aload_n 0, 1, 0), (38, .aload_n 1, 1, 0), (39, .iload 5, 2, 0), (41, .iload_n 2, 1, 0), (42, .invokevirtual 67, 3, 0), (45, .aload_n 0, 1, 0), (46, .aload_n 1, 1, 0), (47, .iload_n 2, 1, 0)],
  [(48, .aload_n 3, 1, 0), (49, .invokevirtual 71, 3, 0), (52, .iinc 5 1, 3, 0), (55, .goto (-37), 3, 18), (58, .return_, 1, 0)]]
set_option maxRecDepth 100000 in
theorem tX0_findFirstRow_ok : pt_ok YX0_findFirstRow.2.1 tX0_findFirstRow = true := by decide +kernel
theorem nX0_findFirstRow : (plainFor yX0_findFirstRow && decide (yX0_findFirstRow.cls = pt_own YX0_findFirstRow.1)) = true := by decide +kernel
abbrev YX0_nameBy : pt_Y := (3, cX0_nameBy, 7, none, ({ frames := 1, cells := 0, slots := 0, locals := 23 } : Room))
def tX0_nameBy : pt_B := [
  [(0, .aload_n 0, 1, 0), (1, .getfield 9, 3, 0), (4, .iconst 0, 1, 0), (5, .iload_n 2, 1, 0), (6, .iastore, 1, 0), (7, .iconst 0, 1, 0), (8, .istore 4, 2, 0), (10, .iload 4, 2, 0), (12, .aload_n 1, 1, 0), (13, .getfield 27, 3, 0)],
  [(16, .if_icmp .ge 73, 3, 89), (19, .iload 4, 2, 0), (21, .iload_n 2, 1, 0), (22, .if_icmp .eq 61, 3, 83), (25, .aload_n 1, 1, 0), (26, .iload_n 2, 1, 0), (27, .iload 4, 2, 0), (29, .invokevirtual 74, 3, 0)],
  [(32, .invokestatic 78, 3, 0), (35, .istore 5, 2, 0), (37, .iload_n 3, 1, 0), (38, .ifCond .eq 10, 3, 48), (41, .iload 5, 2, 0), (43, .iconst 1, 1, 0), (44, .iadd, 1, 0), (45, .goto 12, 3, 57)],
  [(48, .aload_n 1, 1, 0), (49, .getfield 27, 3, 0), (52, .iconst 1, 1, 0), (53, .isub, 1, 0), (54, .iload 5, 2, 0), (56, .isub, 1, 0), (57, .istore 6, 2, 0), (59, .iload 6, 2, 0), (61, .ifCond .le 22, 3, 83)],
  [(64, .iload 6, 2, 0), (66, .aload_n 0, 1, 0), (67, .getfield 9, 3, 0), (70, .arraylength, 1, 0), (71, .if_icmp .ge 12, 3, 83), (74, .aload_n 0, 1, 0), (75, .getfield 9, 3, 0), (78, .iload 6, 2, 0)],
  [(80, .iload 4, 2, 0), (82, .iastore, 1, 0), (83, .iinc 4 1, 3, 0), (86, .goto (-76), 3, 10), (89, .return_, 1, 0)]]
set_option maxRecDepth 100000 in
theorem tX0_nameBy_ok : pt_ok YX0_nameBy.2.1 tX0_nameBy = true := by decide +kernel
theorem nX0_nameBy : (plainFor yX0_nameBy && decide (yX0_nameBy.cls = pt_own YX0_nameBy.1)) = true := by decide +kernel
abbrev YX0_offerRow : pt_Y := (3, cX0_offerRow, 11, none, ({ frames := 1, cells := 0, slots := 0, locals := 24 } : Room))
def tX0_offerRow : pt_B := [
  [(0, .iconst 0, 1, 0), (1, .istore 4, 2, 0), (3, .iconst 0, 1, 0), (4, .istore 5, 2, 0), (6, .iconst 0, 1, 0), (7, .istore 6, 2, 0), (9, .iload 6, 2, 0), (11, .aload_n 1, 1, 0), (12, .getfield 27, 3, 0), (15, .if_icmp .ge 151, 3, 166)],
  [(18, .iload 6, 2, 0), (20, .iconst 1, 1, 0), (21, .iadd, 1, 0), (22, .istore 7, 2, 0), (24, .iload 7, 2, 0), (26, .aload_n 1, 1, 0), (27, .getfield 27, 3, 0), (30, .if_icmp .ge 130, 3, 160)],
  [(33, .iload 7, 2, 0), (35, .iconst 1, 1, 0), (36, .iadd, 1, 0), (37, .istore 8, 2, 0), (39, .iload 8, 2, 0), (41, .aload_n 1, 1, 0), (42, .getfield 27, 3, 0), (45, .if_icmp .ge 109, 3, 154)],
  [(48, .iload 5, 2, 0), (50, .aload_n 3, 1, 0), (51, .arraylength, 1, 0), (52, .if_icmp .ge 102, 3, 154), (55, .aload_n 1, 1, 0), (56, .aload_n 0, 1, 0), (57, .getfield 9, 3, 0), (60, .iload 6, 2, 0), (62, .iaload, 1, 0), (63, .aload_n 0, 1, 0)],
  [(64, .getfield 9, 3, 0), (67, .iload 7, 2, 0), (69, .iaload, 1, 0), (70, .aload_n 0, 1, 0), (71, .getfield 9, 3, 0), (74, .iload 8, 2, 0), (76, .iaload, 1, 0), (77, .invokevirtual 83, 3, 0)],
  [(80, .iload_n 2, 1, 0), (81, .if_icmp .eq 7, 3, 88), (84, .iconst 1, 1, 0), (85, .goto 4, 3, 89), (88, .iconst 0, 1, 0), (89, .istore 9, 2, 0), (91, .iload 9, 2, 0), (93, .ifCond .eq 7, 3, 100)],
  [(96, .iconst 1, 1, 0), (97, .goto 4, 3, 101), (100, .iconst 2, 1, 0), (101, .istore 10, 2, 0), (103, .iload 4, 2, 0), (105, .ifCond .ne 13, 3, 118), (108, .iload 10, 2, 0), (110, .aload_n 3, 1, 0), (111, .iload 5, 2, 0)],
  [(113, .iaload, 1, 0), (114, .if_icmp .le 4, 3, 118), (117, .return_, 1, 0), (118, .iload 4, 2, 0), (120, .ifCond .ne 12, 3, 132), (123, .iload 10, 2, 0), (125, .aload_n 3, 1, 0), (126, .iload 5, 2, 0)],
  [(128, .iaload, 1, 0), (129, .if_icmp .ge 7, 3, 136), (132, .iconst 1, 1, 0), (133, .goto 4, 3, 137), (136, .iconst 0, 1, 0), (137, .istore 4, 2, 0), (139, .aload_n 3, 1, 0), (140, .iload 5, 2, 0), (142, .iload 10, 2, 0)],
  [(144, .iastore, 1, 0), (145, .iinc 5 1, 3, 0), (148, .iinc 8 1, 3, 0), (151, .goto (-112), 3, 39), (154, .iinc 7 1, 3, 0), (157, .goto (-133), 3, 24)],
  [(160, .iinc 6 1, 3, 0), (163, .goto (-154), 3, 9), (166, .return_, 1, 0)]]
set_option maxRecDepth 100000 in
theorem tX0_offerRow_ok : pt_ok YX0_offerRow.2.1 tX0_offerRow = true := by decide +kernel
theorem nX0_offerRow : (plainFor yX0_offerRow && decide (yX0_offerRow.cls = pt_own YX0_offerRow.1)) = true := by decide +kernel
abbrev YX0_compareRows : pt_Y := (3, cX0_compareRows, 4, (some .int), ({ frames := 1, cells := 0, slots := 0, locals := 21 } : Room))
def tX0_compareRows : pt_B := [
  [(0, .iconst 0, 1, 0), (1, .istore_n 3, 1, 0), (2, .iload_n 3, 1, 0), (3, .iload_n 2, 1, 0), (4, .if_icmp .ge 40, 3, 44), (7, .iload_n 3, 1, 0), (8, .aload_n 0, 1, 0), (9, .arraylength, 1, 0), (10, .if_icmp .ge 34, 3, 44), (13, .iload_n 3, 1, 0), (14, .aload_n 1, 1, 0), (15, .arraylength, 1, 0)],
  [(16, .if_icmp .ge 28, 3, 44), (19, .aload_n 0, 1, 0), (20, .iload_n 3, 1, 0), (21, .iaload, 1, 0), (22, .aload_n 1, 1, 0), (23, .iload_n 3, 1, 0), (24, .iaload, 1, 0), (25, .if_icmp .eq 13, 3, 38), (28, .aload_n 0, 1, 0), (29, .iload_n 3, 1, 0), (30, .iaload, 1, 0), (31, .aload_n 1, 1, 0)],
  [(32, .iload_n 3, 1, 0), (33, .iaload, 1, 0), (34, .invokestatic 87, 3, 0), (37, .ireturn, 1, 0), (38, .iinc 3 1, 3, 0), (41, .goto (-39), 3, 2), (44, .iconst 0, 1, 0), (45, .ireturn, 1, 0)]]
set_option maxRecDepth 100000 in
theorem tX0_compareRows_ok : pt_ok YX0_compareRows.2.1 tX0_compareRows = true := by decide +kernel
theorem nX0_compareRows : (plainFor yX0_compareRows && decide (yX0_compareRows.cls = pt_own YX0_compareRows.1)) = true := by decide +kernel
abbrev YX0_bitsOf : pt_Y := (3, cX0_bitsOf, 4, (some .int), ({ frames := 0, cells := 0, slots := 0, locals := 0 } : Room))
def tX0_bitsOf : pt_B := [
  [(0, .iconst 0, 1, 0), (1, .istore_n 2, 1, 0), (2, .iconst 0, 1, 0), (3, .istore_n 3, 1, 0), (4, .iload_n 3, 1, 0), (5, .iload_n 1, 1, 0), (6, .if_icmp .ge 32, 3, 38), (9, .iload_n 3, 1, 0), (10, .aload_n 0, 1, 0), (11, .arraylength, 1, 0), (12, .if_icmp .ge 26, 3, 38), (15, .iload_n 2, 1, 0)],
  [(16, .iconst 1, 1, 0), (17, .ishl, 1, 0), (18, .aload_n 0, 1, 0), (19, .iload_n 3, 1, 0), (20, .iaload, 1, 0), (21, .iconst 2, 1, 0), (22, .if_icmp .ne 7, 3, 29), (25, .iconst 1, 1, 0), (26, .goto 4, 3, 30), (29, .iconst 0, 1, 0), (30, .ior, 1, 0), (31, .istore_n 2, 1, 0)],
  [(32, .iinc 3 1, 3, 0), (35, .goto (-31), 3, 4), (38, .iload_n 2, 1, 0), (39, .ireturn, 1, 0)]]
set_option maxRecDepth 100000 in
theorem tX0_bitsOf_ok : pt_ok YX0_bitsOf.2.1 tX0_bitsOf = true := by decide +kernel
theorem nX0_bitsOf : (plainFor yX0_bitsOf && decide (yX0_bitsOf.cls = pt_own YX0_bitsOf.1)) = true := by decide +kernel
abbrev YX1_faultOf : pt_Y := (5, cX1_faultOf, 2, (some .int), ({ frames := 4, cells := 0, slots := 0, locals := 101 } : Room))
def tX1_faultOf : pt_B := [
  [(0, .aload_n 0, 1, 0), (1, .getfield 7, 3, 0), (4, .bipush (-2), 2, 0), (6, .if_icmp .ne 24, 3, 30), (9, .aload_n 0, 1, 0), (10, .invokestatic 13, 3, 0), (13, .istore_n 1, 1, 0), (14, .aload_n 0, 1, 0), (15, .iload_n 1, 1, 0)],
  [(16, .ifCond .eq 7, 3, 23), (19, .iload_n 1, 1, 0), (20, .goto 7, 3, 27), (23, .aload_n 0, 1, 0), (24, .invokestatic 19, 3, 0), (27, .putfield 7, 3, 0), (30, .aload_n 0, 1, 0), (31, .getfield 7, 3, 0)],
  [(34, .ireturn, 1, 0)]]
set_option maxRecDepth 100000 in
theorem tX1_faultOf_ok : pt_ok YX1_faultOf.2.1 tX1_faultOf = true := by decide +kernel
theorem nX1_faultOf : (plainFor yX1_faultOf && decide (yX1_faultOf.cls = pt_own YX1_faultOf.1)) = true := by decide +kernel
abbrev YX1_firstFour : pt_Y := (5, cX1_firstFour, 5, (some .int), ({ frames := 2, cells := 0, slots := 0, locals := 49 } : Room))
def tX1_firstFour : pt_B := [
  [(0, .iconst 0, 1, 0), (1, .istore_n 1, 1, 0), (2, .iload_n 1, 1, 0), (3, .aload_n 0, 1, 0), (4, .getfield 22, 3, 0), (7, .if_icmp .ge 94, 3, 101), (10, .iload_n 1, 1, 0), (11, .iconst 1, 1, 0), (12, .iadd, 1, 0), (13, .istore_n 2, 1, 0), (14, .iload_n 2, 1, 0), (15, .aload_n 0, 1, 0)],
  [(16, .getfield 22, 3, 0), (19, .if_icmp .ge 76, 3, 95), (22, .iload_n 2, 1, 0), (23, .iconst 1, 1, 0), (24, .iadd, 1, 0), (25, .istore_n 3, 1, 0), (26, .iload_n 3, 1, 0), (27, .aload_n 0, 1, 0), (28, .getfield 22, 3, 0), (31, .if_icmp .ge 58, 3, 89)],
  [(34, .iload_n 3, 1, 0), (35, .iconst 1, 1, 0), (36, .iadd, 1, 0), (37, .istore 4, 2, 0), (39, .iload 4, 2, 0), (41, .aload_n 0, 1, 0), (42, .getfield 22, 3, 0), (45, .if_icmp .ge 38, 3, 83)],
  [(48, .aload_n 0, 1, 0), (49, .iload_n 1, 1, 0), (50, .iload_n 2, 1, 0), (51, .iload_n 3, 1, 0), (52, .iload 4, 2, 0), (54, .invokestatic 25, 3, 0), (57, .ifCond .eq 20, 3, 77), (60, .iconst 1, 1, 0), (61, .iload_n 1, 1, 0), (62, .ishl, 1, 0), (63, .iconst 1, 1, 0)],
  [(64, .iload_n 2, 1, 0), (65, .ishl, 1, 0), (66, .ior, 1, 0), (67, .iconst 1, 1, 0), (68, .iload_n 3, 1, 0), (69, .ishl, 1, 0), (70, .ior, 1, 0), (71, .iconst 1, 1, 0), (72, .iload 4, 2, 0), (74, .ishl, 1, 0), (75, .ior, 1, 0), (76, .ireturn, 1, 0), (77, .iinc 4 1, 3, 0)],
  [(80, .goto (-41), 3, 39), (83, .iinc 3 1, 3, 0), (86, .goto (-60), 3, 26), (89, .iinc 2 1, 3, 0), (92, .goto (-78), 3, 14), (95, .iinc 1 1, 3, 0)],
  [(98, .goto (-96), 3, 2), (101, .iconst 0, 1, 0), (102, .ireturn, 1, 0)]]
set_option maxRecDepth 100000 in
theorem tX1_firstFour_ok : pt_ok YX1_firstFour.2.1 tX1_firstFour = true := by decide +kernel
theorem nX1_firstFour : (plainFor yX1_firstFour && decide (yX1_firstFour.cls = pt_own YX1_firstFour.1)) = true := by decide +kernel
abbrev YX1_breaksFour : pt_Y := (5, cX1_breaksFour, 6, (some .boolean), ({ frames := 1, cells := 0, slots := 0, locals := 24 } : Room))
def tX1_breaksFour : pt_B := [
  [(0, .aload_n 0, 1, 0), (1, .iload_n 1, 1, 0), (2, .iload_n 2, 1, 0), (3, .iload_n 3, 1, 0), (4, .invokevirtual 29, 3, 0), (7, .istore 5, 2, 0), (9, .aload_n 0, 1, 0), (10, .iload_n 1, 1, 0), (11, .iload_n 2, 1, 0), (12, .iload 4, 2, 0), (14, .invokevirtual 29, 3, 0)],
  [(17, .iload 5, 2, 0), (19, .if_icmp .eq 33, 3, 52), (22, .aload_n 0, 1, 0), (23, .iload_n 1, 1, 0), (24, .iload_n 3, 1, 0), (25, .iload 4, 2, 0), (27, .invokevirtual 29, 3, 0), (30, .iload 5, 2, 0)],
  [(32, .if_icmp .ne 20, 3, 52), (35, .aload_n 0, 1, 0), (36, .iload_n 2, 1, 0), (37, .iload_n 3, 1, 0), (38, .iload 4, 2, 0), (40, .invokevirtual 29, 3, 0), (43, .iload 5, 2, 0), (45, .if_icmp .eq 7, 3, 52)],
  [(48, .iconst 1, 1, 0), (49, .goto 4, 3, 53), (52, .iconst 0, 1, 0), (53, .ireturn, 1, 0)]]
set_option maxRecDepth 100000 in
theorem tX1_breaksFour_ok : pt_ok YX1_breaksFour.2.1 tX1_breaksFour = true := by decide +kernel
theorem nX1_breaksFour : (plainFor yX1_breaksFour && decide (yX1_breaksFour.cls = pt_own YX1_breaksFour.1)) = true := by decide +kernel
abbrev YX1_firstFive : pt_Y := (5, cX1_firstFive, 6, (some .int), ({ frames := 3, cells := 0, slots := 0, locals := 76 } : Room))
def tX1_firstFive : pt_B := [
  [(0, .iconst 0, 1, 0), (1, .istore_n 1, 1, 0), (2, .iload_n 1, 1, 0), (3, .aload_n 0, 1, 0), (4, .getfield 22, 3, 0), (7, .if_icmp .ge 122, 3, 129), (10, .iload_n 1, 1, 0), (11, .iconst 1, 1, 0), (12, .iadd, 1, 0), (13, .istore_n 2, 1, 0), (14, .iload_n 2, 1, 0), (15, .aload_n 0, 1, 0)],
  [(16, .getfield 22, 3, 0), (19, .if_icmp .ge 104, 3, 123), (22, .iload_n 2, 1, 0), (23, .iconst 1, 1, 0), (24, .iadd, 1, 0), (25, .istore_n 3, 1, 0), (26, .iload_n 3, 1, 0), (27, .aload_n 0, 1, 0), (28, .getfield 22, 3, 0), (31, .if_icmp .ge 86, 3, 117)],
  [(34, .iload_n 3, 1, 0), (35, .iconst 1, 1, 0), (36, .iadd, 1, 0), (37, .istore 4, 2, 0), (39, .iload 4, 2, 0), (41, .aload_n 0, 1, 0), (42, .getfield 22, 3, 0), (45, .if_icmp .ge 66, 3, 111)],
  [(48, .iload 4, 2, 0), (50, .iconst 1, 1, 0), (51, .iadd, 1, 0), (52, .istore 5, 2, 0), (54, .iload 5, 2, 0), (56, .aload_n 0, 1, 0), (57, .getfield 22, 3, 0), (60, .if_icmp .ge 45, 3, 105), (63, .aload_n 0, 1, 0)],
  [(64, .iload_n 1, 1, 0), (65, .iload_n 2, 1, 0), (66, .iload_n 3, 1, 0), (67, .iload 4, 2, 0), (69, .iload 5, 2, 0), (71, .invokestatic 33, 3, 0), (74, .ifCond .eq 25, 3, 99), (77, .iconst 1, 1, 0), (78, .iload_n 1, 1, 0), (79, .ishl, 1, 0)],
  [(80, .iconst 1, 1, 0), (81, .iload_n 2, 1, 0), (82, .ishl, 1, 0), (83, .ior, 1, 0), (84, .iconst 1, 1, 0), (85, .iload_n 3, 1, 0), (86, .ishl, 1, 0), (87, .ior, 1, 0), (88, .iconst 1, 1, 0), (89, .iload 4, 2, 0), (91, .ishl, 1, 0), (92, .ior, 1, 0), (93, .iconst 1, 1, 0), (94, .iload 5, 2, 0)],
  [(96, .ishl, 1, 0), (97, .ior, 1, 0), (98, .ireturn, 1, 0), (99, .iinc 5 1, 3, 0), (102, .goto (-48), 3, 54), (105, .iinc 4 1, 3, 0), (108, .goto (-69), 3, 39), (111, .iinc 3 1, 3, 0)],
  [(114, .goto (-88), 3, 26), (117, .iinc 2 1, 3, 0), (120, .goto (-106), 3, 14), (123, .iinc 1 1, 3, 0), (126, .goto (-124), 3, 2)],
  [(129, .iconst 0, 1, 0), (130, .ireturn, 1, 0)]]
set_option maxRecDepth 100000 in
theorem tX1_firstFive_ok : pt_ok YX1_firstFive.2.1 tX1_firstFive = true := by decide +kernel
theorem nX1_firstFive : (plainFor yX1_firstFive && decide (yX1_firstFive.cls = pt_own YX1_firstFive.1)) = true := by decide +kernel
abbrev YX1_breaksFive : pt_Y := (5, cX1_breaksFive, 6, (some .boolean), ({ frames := 2, cells := 0, slots := 0, locals := 51 } : Room))
def tX1_breaksFive : pt_B := [
  [(0, .aload_n 0, 1, 0), (1, .iload_n 1, 1, 0), (2, .iload_n 2, 1, 0), (3, .iload_n 3, 1, 0), (4, .iload 4, 2, 0), (6, .iload 5, 2, 0), (8, .invokestatic 37, 3, 0), (11, .ifCond .ne 59, 3, 70), (14, .aload_n 0, 1, 0), (15, .iload_n 2, 1, 0)],
  [(16, .iload_n 1, 1, 0), (17, .iload_n 3, 1, 0), (18, .iload 4, 2, 0), (20, .iload 5, 2, 0), (22, .invokestatic 37, 3, 0), (25, .ifCond .ne 45, 3, 70), (28, .aload_n 0, 1, 0), (29, .iload_n 3, 1, 0), (30, .iload_n 1, 1, 0), (31, .iload_n 2, 1, 0)],
  [(32, .iload 4, 2, 0), (34, .iload 5, 2, 0), (36, .invokestatic 37, 3, 0), (39, .ifCond .ne 31, 3, 70), (42, .aload_n 0, 1, 0), (43, .iload 4, 2, 0), (45, .iload_n 1, 1, 0), (46, .iload_n 2, 1, 0), (47, .iload_n 3, 1, 0)],
  [(48, .iload 5, 2, 0), (50, .invokestatic 37, 3, 0), (53, .ifCond .ne 17, 3, 70), (56, .aload_n 0, 1, 0), (57, .iload 5, 2, 0), (59, .iload_n 1, 1, 0), (60, .iload_n 2, 1, 0), (61, .iload_n 3, 1, 0), (62, .iload 4, 2, 0)],
  [(64, .invokestatic 37, 3, 0), (67, .ifCond .eq 7, 3, 74), (70, .iconst 1, 1, 0), (71, .goto 4, 3, 75), (74, .iconst 0, 1, 0), (75, .ireturn, 1, 0)]]
set_option maxRecDepth 100000 in
theorem tX1_breaksFive_ok : pt_ok YX1_breaksFive.2.1 tX1_breaksFive = true := by decide +kernel
theorem nX1_breaksFive : (plainFor yX1_breaksFive && decide (yX1_breaksFive.cls = pt_own YX1_breaksFive.1)) = true := by decide +kernel
abbrev YX1_isOneSided : pt_Y := (5, cX1_isOneSided, 8, (some .boolean), ({ frames := 1, cells := 0, slots := 0, locals := 24 } : Room))
def tX1_isOneSided : pt_B := [
  [(0, .aload_n 0, 1, 0), (1, .iload_n 1, 1, 0), (2, .iload_n 2, 1, 0), (3, .iload_n 3, 1, 0), (4, .invokevirtual 29, 3, 0), (7, .aload_n 0, 1, 0), (8, .iload_n 1, 1, 0), (9, .iload 4, 2, 0), (11, .iload 5, 2, 0), (13, .invokevirtual 29, 3, 0)],
  [(16, .if_icmp .ne 7, 3, 23), (19, .iconst 1, 1, 0), (20, .goto 4, 3, 24), (23, .iconst 0, 1, 0), (24, .istore 6, 2, 0), (26, .aload_n 0, 1, 0), (27, .iload_n 1, 1, 0), (28, .iload_n 2, 1, 0), (29, .iload 4, 2, 0), (31, .invokevirtual 29, 3, 0)],
  [(34, .aload_n 0, 1, 0), (35, .iload_n 1, 1, 0), (36, .iload_n 3, 1, 0), (37, .iload 5, 2, 0), (39, .invokevirtual 29, 3, 0), (42, .if_icmp .eq 7, 3, 49), (45, .iconst 1, 1, 0), (46, .goto 4, 3, 50)],
  [(49, .iconst 0, 1, 0), (50, .istore 7, 2, 0), (52, .iload 6, 2, 0), (54, .iload 7, 2, 0), (56, .if_icmp .ne 36, 3, 92), (59, .iload 6, 2, 0), (61, .aload_n 0, 1, 0), (62, .iload_n 1, 1, 0), (63, .iload_n 2, 1, 0)],
  [(64, .iload 5, 2, 0), (66, .invokevirtual 29, 3, 0), (69, .aload_n 0, 1, 0), (70, .iload_n 1, 1, 0), (71, .iload_n 3, 1, 0), (72, .iload 4, 2, 0), (74, .invokevirtual 29, 3, 0), (77, .if_icmp .ne 7, 3, 84)],
  [(80, .iconst 1, 1, 0), (81, .goto 4, 3, 85), (84, .iconst 0, 1, 0), (85, .if_icmp .ne 7, 3, 92), (88, .iconst 1, 1, 0), (89, .goto 4, 3, 93), (92, .iconst 0, 1, 0), (93, .ireturn, 1, 0)]]
set_option maxRecDepth 100000 in
theorem tX1_isOneSided_ok : pt_ok YX1_isOneSided.2.1 tX1_isOneSided = true := by decide +kernel
theorem nX1_isOneSided : (plainFor yX1_isOneSided && decide (yX1_isOneSided.cls = pt_own YX1_isOneSided.1)) = true := by decide +kernel
abbrev YX2_isIn : pt_Y := (6, cX2_isIn, 2, (some .boolean), ({ frames := 0, cells := 0, slots := 0, locals := 0 } : Room))
def tX2_isIn : pt_B := [
  [(0, .iload_n 0, 1, 0), (1, .iload_n 1, 1, 0), (2, .ishr, 1, 0), (3, .iconst 1, 1, 0), (4, .iand, 1, 0), (5, .iconst 1, 1, 0), (6, .if_icmp .ne 7, 3, 13), (9, .iconst 1, 1, 0), (10, .goto 4, 3, 14), (13, .iconst 0, 1, 0), (14, .ireturn, 1, 0)]]
set_option maxRecDepth 100000 in
theorem tX2_isIn_ok : pt_ok YX2_isIn.2.1 tX2_isIn = true := by decide +kernel
theorem nX2_isIn : (plainFor yX2_isIn && decide (yX2_isIn.cls = pt_own YX2_isIn.1)) = true := by decide +kernel
abbrev YX2_leastOf : pt_Y := (6, cX2_leastOf, 3, (some .int), ({ frames := 1, cells := 0, slots := 0, locals := 21 } : Room))
def tX2_leastOf : pt_B := [
  [(0, .iconst 0, 1, 0), (1, .istore_n 2, 1, 0), (2, .iload_n 2, 1, 0), (3, .aload_n 0, 1, 0), (4, .getfield 9, 3, 0), (7, .if_icmp .ge 19, 3, 26), (10, .iload_n 1, 1, 0), (11, .iload_n 2, 1, 0), (12, .invokestatic 15, 3, 0), (15, .ifCond .eq 5, 3, 20)],
  [(18, .iload_n 2, 1, 0), (19, .ireturn, 1, 0), (20, .iinc 2 1, 3, 0), (23, .goto (-21), 3, 2), (26, .iconst (-1), 1, 0), (27, .ireturn, 1, 0)]]
set_option maxRecDepth 100000 in
theorem tX2_leastOf_ok : pt_ok YX2_leastOf.2.1 tX2_leastOf = true := by decide +kernel
theorem nX2_leastOf : (plainFor yX2_leastOf && decide (yX2_leastOf.cls = pt_own YX2_leastOf.1)) = true := by decide +kernel
abbrev YX2_nextTo : pt_Y := (6, cX2_nextTo, 5, (some .int), ({ frames := 1, cells := 0, slots := 0, locals := 23 } : Room))
def tX2_nextTo : pt_B := [
  [(0, .iconst 0, 1, 0), (1, .istore_n 3, 1, 0), (2, .iload_n 3, 1, 0), (3, .aload_n 0, 1, 0), (4, .getfield 9, 3, 0), (7, .if_icmp .ge 51, 3, 58), (10, .iload_n 3, 1, 0), (11, .iload_n 2, 1, 0), (12, .if_icmp .eq 40, 3, 52), (15, .iload_n 1, 1, 0)],
  [(16, .iload_n 3, 1, 0), (17, .invokestatic 15, 3, 0), (20, .ifCond .eq 32, 3, 52), (23, .iload_n 1, 1, 0), (24, .iconst 1, 1, 0), (25, .iload_n 2, 1, 0), (26, .ishl, 1, 0), (27, .iconst 1, 1, 0), (28, .iload_n 3, 1, 0), (29, .ishl, 1, 0), (30, .ior, 1, 0), (31, .iconst (-1), 1, 0)],
  [(32, .ixor, 1, 0), (33, .iand, 1, 0), (34, .istore 4, 2, 0), (36, .iload 4, 2, 0), (38, .aload_n 0, 1, 0), (39, .iload_n 2, 1, 0), (40, .iload_n 3, 1, 0), (41, .invokevirtual 21, 3, 0), (44, .iconst (-1), 1, 0), (45, .ixor, 1, 0), (46, .iand, 1, 0), (47, .ifCond .ne 5, 3, 52)],
  [(50, .iload_n 3, 1, 0), (51, .ireturn, 1, 0), (52, .iinc 3 1, 3, 0), (55, .goto (-53), 3, 2), (58, .iconst (-1), 1, 0), (59, .ireturn, 1, 0)]]
set_option maxRecDepth 100000 in
theorem tX2_nextTo_ok : pt_ok YX2_nextTo.2.1 tX2_nextTo = true := by decide +kernel
theorem nX2_nextTo : (plainFor yX2_nextTo && decide (yX2_nextTo.cls = pt_own YX2_nextTo.1)) = true := by decide +kernel
abbrev YX2_rimOf : pt_Y := (6, cX2_rimOf, 4, (some .int), ({ frames := 2, cells := 0, slots := 0, locals := 47 } : Room))
def tX2_rimOf : pt_B := [
  [(0, .iload_n 1, 1, 0), (1, .invokestatic 25, 3, 0), (4, .iconst 3, 1, 0), (5, .if_icmp .ge 5, 3, 10), (8, .iload_n 1, 1, 0), (9, .ireturn, 1, 0), (10, .iconst 0, 1, 0), (11, .istore_n 2, 1, 0), (12, .iconst 0, 1, 0), (13, .istore_n 3, 1, 0), (14, .iload_n 3, 1, 0), (15, .aload_n 0, 1, 0)],
  [(16, .getfield 9, 3, 0), (19, .if_icmp .ge 33, 3, 52), (22, .iload_n 1, 1, 0), (23, .iload_n 3, 1, 0), (24, .invokestatic 15, 3, 0), (27, .ifCond .eq 19, 3, 46), (30, .aload_n 0, 1, 0), (31, .iload_n 1, 1, 0)],
  [(32, .iload_n 3, 1, 0), (33, .invokestatic 31, 3, 0), (36, .iconst (-1), 1, 0), (37, .if_icmp .eq 9, 3, 46), (40, .iload_n 2, 1, 0), (41, .iconst 1, 1, 0), (42, .iload_n 3, 1, 0), (43, .ishl, 1, 0), (44, .ior, 1, 0), (45, .istore_n 2, 1, 0), (46, .iinc 3 1, 3, 0)],
  [(49, .goto (-35), 3, 14), (52, .iload_n 2, 1, 0), (53, .ireturn, 1, 0)]]
set_option maxRecDepth 100000 in
theorem tX2_rimOf_ok : pt_ok YX2_rimOf.2.1 tX2_rimOf = true := by decide +kernel
theorem nX2_rimOf : (plainFor yX2_rimOf && decide (yX2_rimOf.cls = pt_own YX2_rimOf.1)) = true := by decide +kernel
abbrev YX2_layerOf : pt_Y := (6, cX2_layerOf, 5, (some .int), ({ frames := 3, cells := 0, slots := 0, locals := 70 } : Room))
def tX2_layerOf : pt_B := [
  [(0, .aload_n 0, 1, 0), (1, .invokevirtual 35, 3, 0), (4, .istore_n 2, 1, 0), (5, .iconst 0, 1, 0), (6, .istore_n 3, 1, 0), (7, .iload_n 3, 1, 0), (8, .aload_n 0, 1, 0), (9, .getfield 9, 3, 0), (12, .if_icmp .ge 34, 3, 46), (15, .aload_n 0, 1, 0)],
  [(16, .iload_n 2, 1, 0), (17, .invokestatic 39, 3, 0), (20, .istore 4, 2, 0), (22, .iload 4, 2, 0), (24, .iload_n 1, 1, 0), (25, .invokestatic 15, 3, 0), (28, .ifCond .eq 5, 3, 33), (31, .iload_n 3, 1, 0)],
  [(32, .ireturn, 1, 0), (33, .iload_n 2, 1, 0), (34, .iload 4, 2, 0), (36, .iconst (-1), 1, 0), (37, .ixor, 1, 0), (38, .iand, 1, 0), (39, .istore_n 2, 1, 0), (40, .iinc 3 1, 3, 0), (43, .goto (-36), 3, 7), (46, .iconst (-1), 1, 0), (47, .ireturn, 1, 0)]]
set_option maxRecDepth 100000 in
theorem tX2_layerOf_ok : pt_ok YX2_layerOf.2.1 tX2_layerOf = true := by decide +kernel
theorem nX2_layerOf : (plainFor yX2_layerOf && decide (yX2_layerOf.cls = pt_own YX2_layerOf.1)) = true := by decide +kernel
abbrev YX2_isFigure : pt_Y := (6, cX2_isFigure, 3, (some .boolean), ({ frames := 2, cells := 0, slots := 0, locals := 47 } : Room))
def tX2_isFigure : pt_B := [
  [(0, .iconst 0, 1, 0), (1, .istore_n 2, 1, 0), (2, .iload_n 2, 1, 0), (3, .aload_n 0, 1, 0), (4, .getfield 9, 3, 0), (7, .if_icmp .ge 29, 3, 36), (10, .iload_n 1, 1, 0), (11, .iload_n 2, 1, 0), (12, .invokestatic 15, 3, 0), (15, .ifCond .eq 15, 3, 30)],
  [(18, .aload_n 0, 1, 0), (19, .iload_n 1, 1, 0), (20, .iload_n 2, 1, 0), (21, .invokestatic 31, 3, 0), (24, .iconst (-1), 1, 0), (25, .if_icmp .ne 5, 3, 30), (28, .iconst 0, 1, 0), (29, .ireturn, 1, 0), (30, .iinc 2 1, 3, 0)],
  [(33, .goto (-31), 3, 2), (36, .iconst 1, 1, 0), (37, .ireturn, 1, 0)]]
set_option maxRecDepth 100000 in
theorem tX2_isFigure_ok : pt_ok YX2_isFigure.2.1 tX2_isFigure = true := by decide +kernel
theorem nX2_isFigure : (plainFor yX2_isFigure && decide (yX2_isFigure.cls = pt_own YX2_isFigure.1)) = true := by decide +kernel
abbrev YX2_insideOf : pt_Y := (6, cX2_insideOf, 4, (some .int), ({ frames := 2, cells := 0, slots := 0, locals := 47 } : Room))
def tX2_insideOf : pt_B := [
  [(0, .aload_n 0, 1, 0), (1, .invokevirtual 35, 3, 0), (4, .iload_n 1, 1, 0), (5, .iconst (-1), 1, 0), (6, .ixor, 1, 0), (7, .iand, 1, 0), (8, .istore_n 2, 1, 0), (9, .iconst 0, 1, 0), (10, .istore_n 3, 1, 0), (11, .iload_n 3, 1, 0), (12, .aload_n 0, 1, 0), (13, .getfield 9, 3, 0)],
  [(16, .if_icmp .ge 31, 3, 47), (19, .iload_n 1, 1, 0), (20, .iload_n 3, 1, 0), (21, .invokestatic 15, 3, 0), (24, .ifCond .eq 17, 3, 41), (27, .iload_n 2, 1, 0), (28, .aload_n 0, 1, 0), (29, .iload_n 3, 1, 0), (30, .aload_n 0, 1, 0), (31, .iload_n 1, 1, 0)],
  [(32, .iload_n 3, 1, 0), (33, .invokestatic 31, 3, 0), (36, .invokevirtual 21, 3, 0), (39, .iand, 1, 0), (40, .istore_n 2, 1, 0), (41, .iinc 3 1, 3, 0), (44, .goto (-33), 3, 11), (47, .iload_n 2, 1, 0)],
  [(48, .ireturn, 1, 0)]]
set_option maxRecDepth 100000 in
theorem tX2_insideOf_ok : pt_ok YX2_insideOf.2.1 tX2_insideOf = true := by decide +kernel
theorem nX2_insideOf : (plainFor yX2_insideOf && decide (yX2_insideOf.cls = pt_own YX2_insideOf.1)) = true := by decide +kernel
abbrev YX3_read : pt_Y := (4, cX3_read, 5, (some .boolean), ({ frames := 1, cells := 0, slots := 0, locals := 23 } : Room))
def tX3_read : pt_B := [
  [(0, .aload_n 1, 1, 0), (1, .getfield 24, 3, 0), (4, .iload_n 2, 1, 0), (5, .invokestatic 30, 3, 0), (8, .if_icmp .eq 5, 3, 13), (11, .iconst 0, 1, 0), (12, .ireturn, 1, 0), (13, .aload_n 0, 1, 0), (14, .iload_n 2, 1, 0), (15, .invokevirtual 34, 3, 0)],
  [(18, .iconst 0, 1, 0), (19, .istore_n 3, 1, 0), (20, .iload_n 3, 1, 0), (21, .aload_n 1, 1, 0), (22, .getfield 24, 3, 0), (25, .if_icmp .ge 82, 3, 107), (28, .aload_n 1, 1, 0), (29, .iload_n 3, 1, 0), (30, .invokevirtual 38, 3, 0)],
  [(33, .istore 4, 2, 0), (35, .iload 4, 2, 0), (37, .ifCond .lt 30, 3, 67), (40, .iload 4, 2, 0), (42, .iload_n 2, 1, 0), (43, .iconst 2, 1, 0), (44, .isub, 1, 0), (45, .if_icmp .gt 22, 3, 67)],
  [(48, .aload_n 0, 1, 0), (49, .getfield 15, 3, 0), (52, .iload 4, 2, 0), (54, .iaload, 1, 0), (55, .aload_n 0, 1, 0), (56, .getfield 15, 3, 0), (59, .iload 4, 2, 0), (61, .iconst 1, 1, 0), (62, .iadd, 1, 0), (63, .iaload, 1, 0)],
  [(64, .if_icmp .le 5, 3, 69), (67, .iconst 0, 1, 0), (68, .ireturn, 1, 0), (69, .aload_n 0, 1, 0), (70, .getfield 21, 3, 0), (73, .aload_n 0, 1, 0), (74, .getfield 15, 3, 0), (77, .iload 4, 2, 0), (79, .iaload, 1, 0)],
  [(80, .bipush 10, 2, 0), (82, .imul, 1, 0), (83, .aload_n 0, 1, 0), (84, .getfield 15, 3, 0), (87, .iload 4, 2, 0), (89, .iconst 1, 1, 0), (90, .iadd, 1, 0), (91, .iaload, 1, 0), (92, .iadd, 1, 0), (93, .iload_n 3, 1, 0), (94, .iastore, 1, 0), (95, .aload_n 0, 1, 0)],
  [(96, .iload 4, 2, 0), (98, .invokevirtual 41, 3, 0), (101, .iinc 3 1, 3, 0), (104, .goto (-84), 3, 20), (107, .iconst 1, 1, 0), (108, .ireturn, 1, 0)]]
set_option maxRecDepth 100000 in
theorem tX3_read_ok : pt_ok YX3_read.2.1 tX3_read = true := by decide +kernel
theorem nX3_read : (plainFor yX3_read && decide (yX3_read.cls = pt_own YX3_read.1)) = true := by decide +kernel
abbrev YX3_fill : pt_Y := (4, cX3_fill, 6, none, ({ frames := 2, cells := 0, slots := 0, locals := 49 } : Room))
def tX3_fill : pt_B := [
  [(0, .aload_n 1, 1, 0), (1, .iload_n 2, 1, 0), (2, .invokevirtual 44, 3, 0), (5, .iconst 0, 1, 0), (6, .istore_n 3, 1, 0), (7, .iload_n 3, 1, 0), (8, .iload_n 2, 1, 0), (9, .if_icmp .ge 86, 3, 95), (12, .iload_n 3, 1, 0), (13, .iconst 1, 1, 0), (14, .iadd, 1, 0), (15, .istore 4, 2, 0)],
  [(17, .iload 4, 2, 0), (19, .iload_n 2, 1, 0), (20, .if_icmp .ge 69, 3, 89), (23, .iload 4, 2, 0), (25, .iconst 1, 1, 0), (26, .iadd, 1, 0), (27, .istore 5, 2, 0), (29, .iload 5, 2, 0), (31, .iload_n 2, 1, 0)],
  [(32, .if_icmp .ge 51, 3, 83), (35, .aload_n 1, 1, 0), (36, .iload_n 3, 1, 0), (37, .iload 4, 2, 0), (39, .iload 5, 2, 0), (41, .aload_n 0, 1, 0), (42, .getfield 21, 3, 0), (45, .iload_n 3, 1, 0), (46, .bipush 10, 2, 0)],
  [(48, .imul, 1, 0), (49, .iload 4, 2, 0), (51, .iadd, 1, 0), (52, .iaload, 1, 0), (53, .aload_n 0, 1, 0), (54, .getfield 21, 3, 0), (57, .iload 4, 2, 0), (59, .bipush 10, 2, 0), (61, .imul, 1, 0), (62, .iload 5, 2, 0)],
  [(64, .iadd, 1, 0), (65, .iaload, 1, 0), (66, .if_icmp .ge 7, 3, 73), (69, .iconst 1, 1, 0), (70, .goto 4, 3, 74), (73, .iconst 0, 1, 0), (74, .invokevirtual 47, 3, 0), (77, .iinc 5 1, 3, 0)],
  [(80, .goto (-51), 3, 29), (83, .iinc 4 1, 3, 0), (86, .goto (-69), 3, 17), (89, .iinc 3 1, 3, 0), (92, .goto (-85), 3, 7), (95, .return_, 1, 0)]]
set_option maxRecDepth 100000 in
theorem tX3_fill_ok : pt_ok YX3_fill.2.1 tX3_fill = true := by decide +kernel
theorem nX3_fill : (plainFor yX3_fill && decide (yX3_fill.cls = pt_own YX3_fill.1)) = true := by decide +kernel
abbrev YX3_find : pt_Y := (4, cX3_find, 4, (some .boolean), ({ frames := 4, cells := 0, slots := 0, locals := 97 } : Room))
def tX3_find : pt_B := [
  [(0, .aload_n 0, 1, 0), (1, .aload_n 1, 1, 0), (2, .getfield 51, 3, 0), (5, .invokevirtual 34, 3, 0), (8, .iconst 0, 1, 0), (9, .istore_n 2, 1, 0), (10, .iload_n 2, 1, 0), (11, .aload_n 1, 1, 0), (12, .getfield 51, 3, 0), (15, .invokestatic 30, 3, 0)],
  [(18, .if_icmp .ge 34, 3, 52), (21, .aload_n 0, 1, 0), (22, .aload_n 1, 1, 0), (23, .invokevirtual 54, 3, 0), (26, .istore_n 3, 1, 0), (27, .iload_n 3, 1, 0), (28, .iconst (-1), 1, 0), (29, .if_icmp .ne 5, 3, 34)],
  [(32, .iconst 0, 1, 0), (33, .ireturn, 1, 0), (34, .aload_n 0, 1, 0), (35, .getfield 9, 3, 0), (38, .iload_n 2, 1, 0), (39, .iload_n 3, 1, 0), (40, .iastore, 1, 0), (41, .aload_n 0, 1, 0), (42, .iload_n 3, 1, 0), (43, .invokevirtual 41, 3, 0), (46, .iinc 2 1, 3, 0)],
  [(49, .goto (-39), 3, 10), (52, .iconst 1, 1, 0), (53, .ireturn, 1, 0)]]
set_option maxRecDepth 100000 in
theorem tX3_find_ok : pt_ok YX3_find.2.1 tX3_find = true := by decide +kernel
theorem nX3_find : (plainFor yX3_find && decide (yX3_find.cls = pt_own YX3_find.1)) = true := by decide +kernel
abbrev YX3_begin : pt_Y := (4, cX3_begin, 3, none, ({ frames := 0, cells := 0, slots := 0, locals := 0 } : Room))
def tX3_begin : pt_B := [
  [(0, .iconst 0, 1, 0), (1, .istore_n 2, 1, 0), (2, .iload_n 2, 1, 0), (3, .iload_n 1, 1, 0), (4, .if_icmp .ge 23, 3, 27), (7, .aload_n 0, 1, 0), (8, .getfield 15, 3, 0), (11, .iload_n 2, 1, 0), (12, .iload_n 2, 1, 0), (13, .iastore, 1, 0), (14, .aload_n 0, 1, 0), (15, .getfield 18, 3, 0)],
  [(18, .iload_n 2, 1, 0), (19, .iconst 0, 1, 0), (20, .iastore, 1, 0), (21, .iinc 2 1, 3, 0), (24, .goto (-22), 3, 2), (27, .return_, 1, 0)]]
set_option maxRecDepth 100000 in
theorem tX3_begin_ok : pt_ok YX3_begin.2.1 tX3_begin = true := by decide +kernel
theorem nX3_begin : (plainFor yX3_begin && decide (yX3_begin.cls = pt_own YX3_begin.1)) = true := by decide +kernel
abbrev YX3_swapAt : pt_Y := (4, cX3_swapAt, 4, none, ({ frames := 0, cells := 0, slots := 0, locals := 0 } : Room))
def tX3_swapAt : pt_B := [
  [(0, .aload_n 0, 1, 0), (1, .getfield 15, 3, 0), (4, .iload_n 1, 1, 0), (5, .iaload, 1, 0), (6, .istore_n 2, 1, 0), (7, .aload_n 0, 1, 0), (8, .getfield 15, 3, 0), (11, .iload_n 1, 1, 0), (12, .iconst 1, 1, 0), (13, .iadd, 1, 0), (14, .iaload, 1, 0), (15, .istore_n 3, 1, 0)],
  [(16, .aload_n 0, 1, 0), (17, .getfield 18, 3, 0), (20, .iload_n 2, 1, 0), (21, .dup2, 1, 0), (22, .iaload, 1, 0), (23, .iconst 1, 1, 0), (24, .iload_n 3, 1, 0), (25, .ishl, 1, 0), (26, .ior, 1, 0), (27, .iastore, 1, 0), (28, .aload_n 0, 1, 0), (29, .getfield 18, 3, 0)],
  [(32, .iload_n 3, 1, 0), (33, .dup2, 1, 0), (34, .iaload, 1, 0), (35, .iconst 1, 1, 0), (36, .iload_n 2, 1, 0), (37, .ishl, 1, 0), (38, .ior, 1, 0), (39, .iastore, 1, 0), (40, .aload_n 0, 1, 0), (41, .getfield 15, 3, 0), (44, .iload_n 1, 1, 0), (45, .iload_n 3, 1, 0), (46, .iastore, 1, 0), (47, .aload_n 0, 1, 0)],
  [(48, .getfield 15, 3, 0), (51, .iload_n 1, 1, 0), (52, .iconst 1, 1, 0), (53, .iadd, 1, 0), (54, .iload_n 2, 1, 0), (55, .iastore, 1, 0), (56, .return_, 1, 0)]]
set_option maxRecDepth 100000 in
theorem tX3_swapAt_ok : pt_ok YX3_swapAt.2.1 tX3_swapAt = true := by decide +kernel
theorem nX3_swapAt : (plainFor yX3_swapAt && decide (yX3_swapAt.cls = pt_own YX3_swapAt.1)) = true := by decide +kernel
abbrev YX3_leastPlace : pt_Y := (4, cX3_leastPlace, 3, (some .int), ({ frames := 3, cells := 0, slots := 0, locals := 75 } : Room))
def tX3_leastPlace : pt_B := [
  [(0, .iconst 0, 1, 0), (1, .istore_n 2, 1, 0), (2, .iload_n 2, 1, 0), (3, .iconst 1, 1, 0), (4, .iadd, 1, 0), (5, .aload_n 1, 1, 0), (6, .getfield 51, 3, 0), (9, .if_icmp .ge 50, 3, 59), (12, .aload_n 0, 1, 0), (13, .getfield 15, 3, 0)],
  [(16, .iload_n 2, 1, 0), (17, .iaload, 1, 0), (18, .aload_n 0, 1, 0), (19, .getfield 15, 3, 0), (22, .iload_n 2, 1, 0), (23, .iconst 1, 1, 0), (24, .iadd, 1, 0), (25, .iaload, 1, 0), (26, .if_icmp .ge 27, 3, 53), (29, .aload_n 0, 1, 0), (30, .aload_n 1, 1, 0), (31, .aload_n 0, 1, 0)],
  [(32, .getfield 15, 3, 0), (35, .iload_n 2, 1, 0), (36, .iaload, 1, 0), (37, .aload_n 0, 1, 0), (38, .getfield 15, 3, 0), (41, .iload_n 2, 1, 0), (42, .iconst 1, 1, 0), (43, .iadd, 1, 0), (44, .iaload, 1, 0), (45, .invokevirtual 58, 3, 0)],
  [(48, .ifCond .eq 5, 3, 53), (51, .iload_n 2, 1, 0), (52, .ireturn, 1, 0), (53, .iinc 2 1, 3, 0), (56, .goto (-54), 3, 2), (59, .iconst (-1), 1, 0), (60, .ireturn, 1, 0)]]
set_option maxRecDepth 100000 in
theorem tX3_leastPlace_ok : pt_ok YX3_leastPlace.2.1 tX3_leastPlace = true := by decide +kernel
theorem nX3_leastPlace : (plainFor yX3_leastPlace && decide (yX3_leastPlace.cls = pt_own YX3_leastPlace.1)) = true := by decide +kernel
abbrev YX3_isDue : pt_Y := (4, cX3_isDue, 5, (some .boolean), ({ frames := 2, cells := 0, slots := 0, locals := 51 } : Room))
def tX3_isDue : pt_B := [
  [(0, .iconst 0, 1, 0), (1, .istore 4, 2, 0), (3, .iload 4, 2, 0), (5, .aload_n 1, 1, 0), (6, .getfield 51, 3, 0), (9, .if_icmp .ge 35, 3, 44), (12, .iload 4, 2, 0), (14, .iload_n 2, 1, 0), (15, .if_icmp .eq 23, 3, 38)],
  [(18, .iload 4, 2, 0), (20, .iload_n 3, 1, 0), (21, .if_icmp .eq 17, 3, 38), (24, .aload_n 0, 1, 0), (25, .aload_n 1, 1, 0), (26, .iload_n 2, 1, 0), (27, .iload_n 3, 1, 0), (28, .iload 4, 2, 0), (30, .invokevirtual 62, 3, 0)],
  [(33, .ifCond .ne 5, 3, 38), (36, .iconst 0, 1, 0), (37, .ireturn, 1, 0), (38, .iinc 4 1, 3, 0), (41, .goto (-38), 3, 3), (44, .iconst 1, 1, 0), (45, .ireturn, 1, 0)]]
set_option maxRecDepth 100000 in
theorem tX3_isDue_ok : pt_ok YX3_isDue.2.1 tX3_isDue = true := by decide +kernel
theorem nX3_isDue : (plainFor yX3_isDue && decide (yX3_isDue.cls = pt_own YX3_isDue.1)) = true := by decide +kernel
abbrev YX3_isDueWith : pt_Y := (4, cX3_isDueWith, 8, (some .boolean), ({ frames := 1, cells := 0, slots := 0, locals := 24 } : Room))
def tX3_isDueWith : pt_B := [
  [(0, .aload_n 0, 1, 0), (1, .iload_n 2, 1, 0), (2, .iload 4, 2, 0), (4, .invokevirtual 66, 3, 0), (7, .istore 5, 2, 0), (9, .aload_n 0, 1, 0), (10, .iload_n 3, 1, 0), (11, .iload 4, 2, 0), (13, .invokevirtual 66, 3, 0)],
  [(16, .istore 6, 2, 0), (18, .iload 4, 2, 0), (20, .iload_n 2, 1, 0), (21, .if_icmp .ge 33, 3, 54), (24, .aload_n 1, 1, 0), (25, .iload 4, 2, 0), (27, .iload_n 2, 1, 0), (28, .iload_n 3, 1, 0), (29, .invokevirtual 70, 3, 0)],
  [(32, .istore 7, 2, 0), (34, .iload 5, 2, 0), (36, .iload 7, 2, 0), (38, .if_icmp .ne 14, 3, 52), (41, .iload 6, 2, 0), (43, .iload 7, 2, 0), (45, .if_icmp .ne 7, 3, 52)],
  [(48, .iconst 1, 1, 0), (49, .goto 4, 3, 53), (52, .iconst 0, 1, 0), (53, .ireturn, 1, 0), (54, .iload 4, 2, 0), (56, .iload_n 3, 1, 0), (57, .if_icmp .ge 33, 3, 90), (60, .aload_n 1, 1, 0), (61, .iload_n 2, 1, 0), (62, .iload 4, 2, 0)],
  [(64, .iload_n 3, 1, 0), (65, .invokevirtual 70, 3, 0), (68, .istore 7, 2, 0), (70, .iload 5, 2, 0), (72, .iload 7, 2, 0), (74, .if_icmp .ne 14, 3, 88), (77, .iload 6, 2, 0), (79, .iload 7, 2, 0)],
  [(81, .if_icmp .eq 7, 3, 88), (84, .iconst 1, 1, 0), (85, .goto 4, 3, 89), (88, .iconst 0, 1, 0), (89, .ireturn, 1, 0), (90, .aload_n 1, 1, 0), (91, .iload_n 2, 1, 0), (92, .iload_n 3, 1, 0), (93, .iload 4, 2, 0), (95, .invokevirtual 70, 3, 0)],
  [(98, .istore 7, 2, 0), (100, .iload 5, 2, 0), (102, .iload 7, 2, 0), (104, .if_icmp .eq 14, 3, 118), (107, .iload 6, 2, 0), (109, .iload 7, 2, 0), (111, .if_icmp .eq 7, 3, 118)],
  [(114, .iconst 1, 1, 0), (115, .goto 4, 3, 119), (118, .iconst 0, 1, 0), (119, .ireturn, 1, 0)]]
set_option maxRecDepth 100000 in
theorem tX3_isDueWith_ok : pt_ok YX3_isDueWith.2.1 tX3_isDueWith = true := by decide +kernel
theorem nX3_isDueWith : (plainFor yX3_isDueWith && decide (yX3_isDueWith.cls = pt_own YX3_isDueWith.1)) = true := by decide +kernel
abbrev YX3_areSwapped : pt_Y := (4, cX3_areSwapped, 3, (some .boolean), ({ frames := 0, cells := 0, slots := 0, locals := 0 } : Room))
def tX3_areSwapped : pt_B := [
  [(0, .aload_n 0, 1, 0), (1, .getfield 18, 3, 0), (4, .iload_n 1, 1, 0), (5, .iaload, 1, 0), (6, .iload_n 2, 1, 0), (7, .ishr, 1, 0), (8, .iconst 1, 1, 0), (9, .iand, 1, 0), (10, .iconst 1, 1, 0), (11, .if_icmp .ne 7, 3, 18), (14, .iconst 1, 1, 0), (15, .goto 4, 3, 19)],
  [(18, .iconst 0, 1, 0), (19, .ireturn, 1, 0)]]
set_option maxRecDepth 100000 in
theorem tX3_areSwapped_ok : pt_ok YX3_areSwapped.2.1 tX3_areSwapped = true := by decide +kernel
theorem nX3_areSwapped : (plainFor yX3_areSwapped && decide (yX3_areSwapped.cls = pt_own YX3_areSwapped.1)) = true := by decide +kernel
abbrev YX4_begin : pt_Y := (1, cX4_begin, 2, none, ({ frames := 1, cells := 0, slots := 0, locals := 23 } : Room))
def tX4_begin : pt_B := [
  [(0, .aload_n 0, 1, 0), (1, .iload_n 1, 1, 0), (2, .putfield 9, 3, 0), (5, .aload_n 0, 1, 0), (6, .getfield 15, 3, 0), (9, .iconst 0, 1, 0), (10, .invokestatic 32, 3, 0), (13, .aload_n 0, 1, 0), (14, .invokevirtual 38, 3, 0)],
  [(17, .return_, 1, 0)]]
set_option maxRecDepth 100000 in
theorem tX4_begin_ok : pt_ok YX4_begin.2.1 tX4_begin = true := by decide +kernel
theorem nX4_begin : (plainFor yX4_begin && decide (yX4_begin.cls = pt_own YX4_begin.1)) = true := by decide +kernel
abbrev YX4_forget : pt_Y := (1, cX4_forget, 1, none, ({ frames := 0, cells := 0, slots := 0, locals := 0 } : Room))
def tX4_forget : pt_B := [
  [(0, .aload_n 0, 1, 0), (1, .bipush (-2), 2, 0), (3, .putfield 19, 3, 0), (6, .aload_n 0, 1, 0), (7, .iconst 0, 1, 0), (8, .putfield 22, 3, 0), (11, .return_, 1, 0)]]
set_option maxRecDepth 100000 in
theorem tX4_forget_ok : pt_ok YX4_forget.2.1 tX4_forget = true := by decide +kernel
theorem nX4_forget : (plainFor yX4_forget && decide (yX4_forget.cls = pt_own YX4_forget.1)) = true := by decide +kernel
abbrev YX4_everyPoint : pt_Y := (1, cX4_everyPoint, 1, (some .int), ({ frames := 0, cells := 0, slots := 0, locals := 0 } : Room))
def tX4_everyPoint : pt_B := [
  [(0, .iconst 1, 1, 0), (1, .aload_n 0, 1, 0), (2, .getfield 9, 3, 0), (5, .ishl, 1, 0), (6, .iconst 1, 1, 0), (7, .isub, 1, 0), (8, .ireturn, 1, 0)]]
set_option maxRecDepth 100000 in
theorem tX4_everyPoint_ok : pt_ok YX4_everyPoint.2.1 tX4_everyPoint = true := by decide +kernel
theorem nX4_everyPoint : (plainFor yX4_everyPoint && decide (yX4_everyPoint.cls = pt_own YX4_everyPoint.1)) = true := by decide +kernel
abbrev YX4_hasPoint : pt_Y := (1, cX4_hasPoint, 2, (some .boolean), ({ frames := 0, cells := 0, slots := 0, locals := 0 } : Room))
def tX4_hasPoint : pt_B := [
  [(0, .iload_n 1, 1, 0), (1, .ifCond .lt 15, 3, 16), (4, .iload_n 1, 1, 0), (5, .aload_n 0, 1, 0), (6, .getfield 9, 3, 0), (9, .if_icmp .ge 7, 3, 16), (12, .iconst 1, 1, 0), (13, .goto 4, 3, 17)],
  [(16, .iconst 0, 1, 0), (17, .ireturn, 1, 0)]]
set_option maxRecDepth 100000 in
theorem tX4_hasPoint_ok : pt_ok YX4_hasPoint.2.1 tX4_hasPoint = true := by decide +kernel
theorem nX4_hasPoint : (plainFor yX4_hasPoint && decide (yX4_hasPoint.cls = pt_own YX4_hasPoint.1)) = true := by decide +kernel
abbrev YX4_hasThree : pt_Y := (1, cX4_hasThree, 4, (some .boolean), ({ frames := 1, cells := 0, slots := 0, locals := 21 } : Room))
def tX4_hasThree : pt_B := [
  [(0, .aload_n 0, 1, 0), (1, .iload_n 1, 1, 0), (2, .invokevirtual 41, 3, 0), (5, .ifCond .eq 38, 3, 43), (8, .aload_n 0, 1, 0), (9, .iload_n 2, 1, 0), (10, .invokevirtual 41, 3, 0), (13, .ifCond .eq 30, 3, 43)],
  [(16, .aload_n 0, 1, 0), (17, .iload_n 3, 1, 0), (18, .invokevirtual 41, 3, 0), (21, .ifCond .eq 22, 3, 43), (24, .iload_n 1, 1, 0), (25, .iload_n 2, 1, 0), (26, .if_icmp .eq 17, 3, 43), (29, .iload_n 2, 1, 0), (30, .iload_n 3, 1, 0), (31, .if_icmp .eq 12, 3, 43)],
  [(34, .iload_n 3, 1, 0), (35, .iload_n 1, 1, 0), (36, .if_icmp .eq 7, 3, 43), (39, .iconst 1, 1, 0), (40, .goto 4, 3, 44), (43, .iconst 0, 1, 0), (44, .ireturn, 1, 0)]]
set_option maxRecDepth 100000 in
theorem tX4_hasThree_ok : pt_ok YX4_hasThree.2.1 tX4_hasThree = true := by decide +kernel
theorem nX4_hasThree : (plainFor yX4_hasThree && decide (yX4_hasThree.cls = pt_own YX4_hasThree.1)) = true := by decide +kernel
abbrev YX4_leftOf : pt_Y := (1, cX4_leftOf, 4, (some .int), ({ frames := 0, cells := 0, slots := 0, locals := 0 } : Room))
def tX4_leftOf : pt_B := [
  [(0, .iload_n 1, 1, 0), (1, .bipush 10, 2, 0), (3, .imul, 1, 0), (4, .iload_n 2, 1, 0), (5, .iadd, 1, 0), (6, .istore_n 3, 1, 0), (7, .iload_n 3, 1, 0), (8, .ifCond .lt 21, 3, 29), (11, .iload_n 3, 1, 0), (12, .aload_n 0, 1, 0), (13, .getfield 15, 3, 0)],
  [(16, .arraylength, 1, 0), (17, .if_icmp .ge 12, 3, 29), (20, .aload_n 0, 1, 0), (21, .getfield 15, 3, 0), (24, .iload_n 3, 1, 0), (25, .iaload, 1, 0), (26, .goto 4, 3, 30), (29, .iconst 0, 1, 0), (30, .ireturn, 1, 0)]]
set_option maxRecDepth 100000 in
theorem tX4_leftOf_ok : pt_ok YX4_leftOf.2.1 tX4_leftOf = true := by decide +kernel
theorem nX4_leftOf : (plainFor yX4_leftOf && decide (yX4_leftOf.cls = pt_own YX4_leftOf.1)) = true := by decide +kernel
abbrev YX4_isLeft : pt_Y := (1, cX4_isLeft, 5, (some .boolean), ({ frames := 0, cells := 0, slots := 0, locals := 0 } : Room))
def tX4_isLeft : pt_B := [
  [(0, .iload_n 1, 1, 0), (1, .bipush 10, 2, 0), (3, .imul, 1, 0), (4, .iload_n 2, 1, 0), (5, .iadd, 1, 0), (6, .istore 4, 2, 0), (8, .iload 4, 2, 0), (10, .ifCond .lt 32, 3, 42), (13, .iload 4, 2, 0), (15, .aload_n 0, 1, 0)],
  [(16, .getfield 15, 3, 0), (19, .arraylength, 1, 0), (20, .if_icmp .ge 22, 3, 42), (23, .aload_n 0, 1, 0), (24, .getfield 15, 3, 0), (27, .iload 4, 2, 0), (29, .iaload, 1, 0), (30, .iload_n 3, 1, 0), (31, .ishr, 1, 0)],
  [(32, .iconst 1, 1, 0), (33, .iand, 1, 0), (34, .iconst 1, 1, 0), (35, .if_icmp .ne 7, 3, 42), (38, .iconst 1, 1, 0), (39, .goto 4, 3, 43), (42, .iconst 0, 1, 0), (43, .ireturn, 1, 0)]]
set_option maxRecDepth 100000 in
theorem tX4_isLeft_ok : pt_ok YX4_isLeft.2.1 tX4_isLeft = true := by decide +kernel
theorem nX4_isLeft : (plainFor yX4_isLeft && decide (yX4_isLeft.cls = pt_own YX4_isLeft.1)) = true := by decide +kernel
abbrev YX4_put : pt_Y := (1, cX4_put, 5, none, ({ frames := 1, cells := 0, slots := 0, locals := 25 } : Room))
def tX4_put : pt_B := [
  [(0, .aload_n 0, 1, 0), (1, .iload_n 1, 1, 0), (2, .iload_n 2, 1, 0), (3, .iload_n 3, 1, 0), (4, .iload 4, 2, 0), (6, .invokevirtual 45, 3, 0), (9, .aload_n 0, 1, 0), (10, .iload_n 2, 1, 0), (11, .iload_n 3, 1, 0), (12, .iload_n 1, 1, 0), (13, .iload 4, 2, 0), (15, .invokevirtual 45, 3, 0)],
  [(18, .aload_n 0, 1, 0), (19, .iload_n 3, 1, 0), (20, .iload_n 1, 1, 0), (21, .iload_n 2, 1, 0), (22, .iload 4, 2, 0), (24, .invokevirtual 45, 3, 0), (27, .aload_n 0, 1, 0), (28, .iload_n 2, 1, 0), (29, .iload_n 1, 1, 0), (30, .iload_n 3, 1, 0), (31, .iload 4, 2, 0)],
  [(33, .ifCond .ne 7, 3, 40), (36, .iconst 1, 1, 0), (37, .goto 4, 3, 41), (40, .iconst 0, 1, 0), (41, .invokevirtual 45, 3, 0), (44, .aload_n 0, 1, 0), (45, .iload_n 3, 1, 0), (46, .iload_n 2, 1, 0), (47, .iload_n 1, 1, 0)],
  [(48, .iload 4, 2, 0), (50, .ifCond .ne 7, 3, 57), (53, .iconst 1, 1, 0), (54, .goto 4, 3, 58), (57, .iconst 0, 1, 0), (58, .invokevirtual 45, 3, 0), (61, .aload_n 0, 1, 0), (62, .iload_n 1, 1, 0), (63, .iload_n 3, 1, 0)],
  [(64, .iload_n 2, 1, 0), (65, .iload 4, 2, 0), (67, .ifCond .ne 7, 3, 74), (70, .iconst 1, 1, 0), (71, .goto 4, 3, 75), (74, .iconst 0, 1, 0), (75, .invokevirtual 45, 3, 0), (78, .return_, 1, 0)]]
set_option maxRecDepth 100000 in
theorem tX4_put_ok : pt_ok YX4_put.2.1 tX4_put = true := by decide +kernel
theorem nX4_put : (plainFor yX4_put && decide (yX4_put.cls = pt_own YX4_put.1)) = true := by decide +kernel
abbrev YX4_putOne : pt_Y := (1, cX4_putOne, 6, none, ({ frames := 0, cells := 0, slots := 0, locals := 0 } : Room))
def tX4_putOne : pt_B := [
  [(0, .iload_n 1, 1, 0), (1, .bipush 10, 2, 0), (3, .imul, 1, 0), (4, .iload_n 2, 1, 0), (5, .iadd, 1, 0), (6, .istore 5, 2, 0), (8, .iload 5, 2, 0), (10, .ifCond .lt 13, 3, 23), (13, .iload 5, 2, 0), (15, .aload_n 0, 1, 0)],
  [(16, .getfield 15, 3, 0), (19, .arraylength, 1, 0), (20, .if_icmp .lt 4, 3, 24), (23, .return_, 1, 0), (24, .iload 4, 2, 0), (26, .ifCond .eq 19, 3, 45), (29, .aload_n 0, 1, 0), (30, .getfield 15, 3, 0)],
  [(33, .iload 5, 2, 0), (35, .dup2, 1, 0), (36, .iaload, 1, 0), (37, .iconst 1, 1, 0), (38, .iload_n 3, 1, 0), (39, .ishl, 1, 0), (40, .ior, 1, 0), (41, .iastore, 1, 0), (42, .goto 18, 3, 60), (45, .aload_n 0, 1, 0), (46, .getfield 15, 3, 0)],
  [(49, .iload 5, 2, 0), (51, .dup2, 1, 0), (52, .iaload, 1, 0), (53, .iconst 1, 1, 0), (54, .iload_n 3, 1, 0), (55, .ishl, 1, 0), (56, .iconst (-1), 1, 0), (57, .ixor, 1, 0), (58, .iand, 1, 0), (59, .iastore, 1, 0), (60, .return_, 1, 0)]]
set_option maxRecDepth 100000 in
theorem tX4_putOne_ok : pt_ok YX4_putOne.2.1 tX4_putOne = true := by decide +kernel
theorem nX4_putOne : (plainFor yX4_putOne && decide (yX4_putOne.cls = pt_own YX4_putOne.1)) = true := by decide +kernel
abbrev YX4_takeRow : pt_Y := (1, cX4_takeRow, 7, none, ({ frames := 2, cells := 0, slots := 0, locals := 49 } : Room))
def tX4_takeRow : pt_B := [
  [(0, .aload_n 0, 1, 0), (1, .iload_n 1, 1, 0), (2, .invokevirtual 49, 3, 0), (5, .iconst 0, 1, 0), (6, .istore_n 3, 1, 0), (7, .iconst 0, 1, 0), (8, .istore 4, 2, 0), (10, .iload 4, 2, 0), (12, .iload_n 1, 1, 0), (13, .if_icmp .ge 76, 3, 89)],
  [(16, .iload 4, 2, 0), (18, .iconst 1, 1, 0), (19, .iadd, 1, 0), (20, .istore 5, 2, 0), (22, .iload 5, 2, 0), (24, .iload_n 1, 1, 0), (25, .if_icmp .ge 58, 3, 83), (28, .iload 5, 2, 0), (30, .iconst 1, 1, 0), (31, .iadd, 1, 0)],
  [(32, .istore 6, 2, 0), (34, .iload 6, 2, 0), (36, .iload_n 1, 1, 0), (37, .if_icmp .ge 40, 3, 77), (40, .iload_n 3, 1, 0), (41, .aload_n 2, 1, 0), (42, .arraylength, 1, 0), (43, .if_icmp .ge 34, 3, 77), (46, .aload_n 0, 1, 0), (47, .iload 4, 2, 0)],
  [(49, .iload 5, 2, 0), (51, .iload 6, 2, 0), (53, .aload_n 2, 1, 0), (54, .iload_n 3, 1, 0), (55, .iaload, 1, 0), (56, .iconst 1, 1, 0), (57, .if_icmp .ne 7, 3, 64), (60, .iconst 1, 1, 0), (61, .goto 4, 3, 65)],
  [(64, .iconst 0, 1, 0), (65, .invokevirtual 53, 3, 0), (68, .iinc 3 1, 3, 0), (71, .iinc 6 1, 3, 0), (74, .goto (-40), 3, 34), (77, .iinc 5 1, 3, 0)],
  [(80, .goto (-58), 3, 22), (83, .iinc 4 1, 3, 0), (86, .goto (-76), 3, 10), (89, .return_, 1, 0)]]
set_option maxRecDepth 100000 in
theorem tX4_takeRow_ok : pt_ok YX4_takeRow.2.1 tX4_takeRow = true := by decide +kernel
theorem nX4_takeRow : (plainFor yX4_takeRow && decide (yX4_takeRow.cls = pt_own YX4_takeRow.1)) = true := by decide +kernel
abbrev YX4_takeTurns : pt_Y := (1, cX4_takeTurns, 9, none, ({ frames := 2, cells := 0, slots := 0, locals := 49 } : Room))
def tX4_takeTurns : pt_B := [
  [(0, .aload_n 0, 1, 0), (1, .iload_n 3, 1, 0), (2, .invokevirtual 49, 3, 0), (5, .iconst 0, 1, 0), (6, .istore 5, 2, 0), (8, .iload 5, 2, 0), (10, .iload_n 3, 1, 0), (11, .if_icmp .ge 92, 3, 103), (14, .iload 5, 2, 0)],
  [(16, .iconst 1, 1, 0), (17, .iadd, 1, 0), (18, .istore 6, 2, 0), (20, .iload 6, 2, 0), (22, .iload_n 3, 1, 0), (23, .if_icmp .ge 74, 3, 97), (26, .iload 6, 2, 0), (28, .iconst 1, 1, 0), (29, .iadd, 1, 0), (30, .istore 7, 2, 0)],
  [(32, .iload 7, 2, 0), (34, .iload_n 3, 1, 0), (35, .if_icmp .ge 56, 3, 91), (38, .iload 7, 2, 0), (40, .aload_n 2, 1, 0), (41, .arraylength, 1, 0), (42, .if_icmp .ge 49, 3, 91), (45, .aload_n 1, 1, 0), (46, .aload_n 2, 1, 0), (47, .iload 5, 2, 0)],
  [(49, .iaload, 1, 0), (50, .aload_n 2, 1, 0), (51, .iload 6, 2, 0), (53, .iaload, 1, 0), (54, .aload_n 2, 1, 0), (55, .iload 7, 2, 0), (57, .iaload, 1, 0), (58, .invokevirtual 56, 3, 0), (61, .istore 8, 2, 0), (63, .aload_n 0, 1, 0)],
  [(64, .iload 5, 2, 0), (66, .iload 6, 2, 0), (68, .iload 7, 2, 0), (70, .iload 8, 2, 0), (72, .iload 4, 2, 0), (74, .if_icmp .eq 7, 3, 81), (77, .iconst 1, 1, 0), (78, .goto 4, 3, 82)],
  [(81, .iconst 0, 1, 0), (82, .invokevirtual 53, 3, 0), (85, .iinc 7 1, 3, 0), (88, .goto (-56), 3, 32), (91, .iinc 6 1, 3, 0), (94, .goto (-74), 3, 20)],
  [(97, .iinc 5 1, 3, 0), (100, .goto (-92), 3, 8), (103, .return_, 1, 0)]]
set_option maxRecDepth 100000 in
theorem tX4_takeTurns_ok : pt_ok YX4_takeTurns.2.1 tX4_takeTurns = true := by decide +kernel
theorem nX4_takeTurns : (plainFor yX4_takeTurns && decide (yX4_takeTurns.cls = pt_own YX4_takeTurns.1)) = true := by decide +kernel
abbrev YX5_addNumber : pt_Y := (2, cX5_addNumber, 3, none, ({ frames := 0, cells := 0, slots := 0, locals := 0 } : Room))
def tX5_addNumber : pt_B := [
  [(0, .bipush 24, 2, 0), (2, .istore_n 2, 1, 0), (3, .iload_n 2, 1, 0), (4, .ifCond .lt 45, 3, 49), (7, .aload_n 0, 1, 0), (8, .getfield 15, 3, 0), (11, .sipush 140, 3, 0), (14, .if_icmp .ge 35, 3, 49)],
  [(17, .aload_n 0, 1, 0), (18, .getfield 9, 3, 0), (21, .aload_n 0, 1, 0), (22, .getfield 15, 3, 0), (25, .iload_n 1, 1, 0), (26, .iload_n 2, 1, 0), (27, .iushr, 1, 0), (28, .sipush 255, 3, 0), (31, .iand, 1, 0)],
  [(32, .iastore, 1, 0), (33, .aload_n 0, 1, 0), (34, .dup, 1, 0), (35, .getfield 15, 3, 0), (38, .iconst 1, 1, 0), (39, .iadd, 1, 0), (40, .putfield 15, 3, 0), (43, .iinc 2 (-8), 3, 0), (46, .goto (-43), 3, 3)],
  [(49, .return_, 1, 0)]]
set_option maxRecDepth 100000 in
theorem tX5_addNumber_ok : pt_ok YX5_addNumber.2.1 tX5_addNumber = true := by decide +kernel
theorem nX5_addNumber : (plainFor yX5_addNumber && decide (yX5_addNumber.cls = pt_own YX5_addNumber.1)) = true := by decide +kernel
abbrev YX5_byteAt : pt_Y := (2, cX5_byteAt, 2, (some .int), ({ frames := 0, cells := 0, slots := 0, locals := 0 } : Room))
def tX5_byteAt : pt_B := [
  [(0, .iload_n 1, 1, 0), (1, .ifCond .lt 20, 3, 21), (4, .iload_n 1, 1, 0), (5, .aload_n 0, 1, 0), (6, .getfield 15, 3, 0), (9, .if_icmp .ge 12, 3, 21), (12, .aload_n 0, 1, 0), (13, .getfield 9, 3, 0)],
  [(16, .iload_n 1, 1, 0), (17, .iaload, 1, 0), (18, .goto 4, 3, 22), (21, .iconst (-1), 1, 0), (22, .ireturn, 1, 0)]]
set_option maxRecDepth 100000 in
theorem tX5_byteAt_ok : pt_ok YX5_byteAt.2.1 tX5_byteAt = true := by decide +kernel
theorem nX5_byteAt : (plainFor yX5_byteAt && decide (yX5_byteAt.cls = pt_own YX5_byteAt.1)) = true := by decide +kernel
abbrev YX5_shortAt : pt_Y := (2, cX5_shortAt, 2, (some .int), ({ frames := 1, cells := 0, slots := 0, locals := 21 } : Room))
def tX5_shortAt : pt_B := [
  [(0, .aload_n 0, 1, 0), (1, .iload_n 1, 1, 0), (2, .invokevirtual 19, 3, 0), (5, .bipush 8, 2, 0), (7, .ishl, 1, 0), (8, .aload_n 0, 1, 0), (9, .iload_n 1, 1, 0), (10, .iconst 1, 1, 0), (11, .iadd, 1, 0), (12, .invokevirtual 19, 3, 0), (15, .ior, 1, 0)],
  [(16, .i2s, 1, 0), (17, .ireturn, 1, 0)]]
set_option maxRecDepth 100000 in
theorem tX5_shortAt_ok : pt_ok YX5_shortAt.2.1 tX5_shortAt = true := by decide +kernel
theorem nX5_shortAt : (plainFor yX5_shortAt && decide (yX5_shortAt.cls = pt_own YX5_shortAt.1)) = true := by decide +kernel
abbrev YX5_hasBit : pt_Y := (2, cX5_hasBit, 2, (some .boolean), ({ frames := 1, cells := 0, slots := 0, locals := 21 } : Room))
def tX5_hasBit : pt_B := [
  [(0, .aload_n 0, 1, 0), (1, .iload_n 1, 1, 0), (2, .bipush 8, 2, 0), (4, .idiv, 1, 0), (5, .invokevirtual 19, 3, 0), (8, .bipush 7, 2, 0), (10, .iload_n 1, 1, 0), (11, .bipush 8, 2, 0), (13, .irem, 1, 0), (14, .isub, 1, 0), (15, .ishr, 1, 0)],
  [(16, .iconst 1, 1, 0), (17, .iand, 1, 0), (18, .iconst 1, 1, 0), (19, .if_icmp .ne 7, 3, 26), (22, .iconst 1, 1, 0), (23, .goto 4, 3, 27), (26, .iconst 0, 1, 0), (27, .ireturn, 1, 0)]]
set_option maxRecDepth 100000 in
theorem tX5_hasBit_ok : pt_ok YX5_hasBit.2.1 tX5_hasBit = true := by decide +kernel
theorem nX5_hasBit : (plainFor yX5_hasBit && decide (yX5_hasBit.cls = pt_own YX5_hasBit.1)) = true := by decide +kernel
abbrev YJ6_compare_7cf53 : pt_Y := (9, cJ6_compare_7cf53, 2, (some .int), ({ frames := 0, cells := 0, slots := 0, locals := 0 } : Room))
def tJ6_compare_7cf53 : pt_B := [
  [(0, .iload_n 0, 1, 0), (1, .iload_n 1, 1, 0), (2, .if_icmp .ge 7, 3, 9), (5, .iconst (-1), 1, 0), (6, .goto 13, 3, 19), (9, .iload_n 0, 1, 0), (10, .iload_n 1, 1, 0), (11, .if_icmp .ne 7, 3, 18), (14, .iconst 0, 1, 0), (15, .goto 4, 3, 19)],
  [(18, .iconst 1, 1, 0), (19, .ireturn, 1, 0)]]
set_option maxRecDepth 100000 in
theorem tJ6_compare_7cf53_ok : pt_ok YJ6_compare_7cf53.2.1 tJ6_compare_7cf53 = true := by decide +kernel
theorem nJ6_compare_7cf53 : (plainFor yJ6_compare_7cf53 && decide (yJ6_compare_7cf53.cls = pt_own YJ6_compare_7cf53.1)) = true := by decide +kernel
abbrev YJ6_bitCount_0f7a4 : pt_Y := (9, cJ6_bitCount_0f7a4, 1, (some .int), ({ frames := 0, cells := 0, slots := 0, locals := 0 } : Room))
def tJ6_bitCount_0f7a4 : pt_B := [
  [(0, .iload_n 0, 1, 0), (1, .iload_n 0, 1, 0), (2, .iconst 1, 1, 0), (3, .iushr, 1, 0), (4, .ldc_w 265, 3, 0), (7, .iand, 1, 0), (8, .isub, 1, 0), (9, .istore_n 0, 1, 0), (10, .iload_n 0, 1, 0), (11, .ldc_w 266, 3, 0), (14, .iand, 1, 0), (15, .iload_n 0, 1, 0)],
  [(16, .iconst 2, 1, 0), (17, .iushr, 1, 0), (18, .ldc_w 266, 3, 0), (21, .iand, 1, 0), (22, .iadd, 1, 0), (23, .istore_n 0, 1, 0), (24, .iload_n 0, 1, 0), (25, .iload_n 0, 1, 0), (26, .iconst 4, 1, 0), (27, .iushr, 1, 0), (28, .iadd, 1, 0), (29, .ldc_w 267, 3, 0)],
  [(32, .iand, 1, 0), (33, .istore_n 0, 1, 0), (34, .iload_n 0, 1, 0), (35, .iload_n 0, 1, 0), (36, .bipush 8, 2, 0), (38, .iushr, 1, 0), (39, .iadd, 1, 0), (40, .istore_n 0, 1, 0), (41, .iload_n 0, 1, 0), (42, .iload_n 0, 1, 0), (43, .bipush 16, 2, 0), (45, .iushr, 1, 0), (46, .iadd, 1, 0), (47, .istore_n 0, 1, 0)],
  [(48, .iload_n 0, 1, 0), (49, .bipush 63, 2, 0), (51, .iand, 1, 0), (52, .ireturn, 1, 0)]]
set_option maxRecDepth 100000 in
theorem tJ6_bitCount_0f7a4_ok : pt_ok YJ6_bitCount_0f7a4.2.1 tJ6_bitCount_0f7a4 = true := by decide +kernel
theorem nJ6_bitCount_0f7a4 : (plainFor yJ6_bitCount_0f7a4 && decide (yJ6_bitCount_0f7a4.cls = pt_own YJ6_bitCount_0f7a4.1)) = true := by decide +kernel
abbrev YJ9_abs_0f7a4 : pt_Y := (10, cJ9_abs_0f7a4, 1, (some .int), ({ frames := 0, cells := 0, slots := 0, locals := 0 } : Room))
def tJ9_abs_0f7a4 : pt_B := [
  [(0, .iload_n 0, 1, 0), (1, .ifCond .ge 8, 3, 9), (4, .iload_n 0, 1, 0), (5, .ineg, 1, 0), (6, .goto 4, 3, 10), (9, .iload_n 0, 1, 0), (10, .ireturn, 1, 0)]]
set_option maxRecDepth 100000 in
theorem tJ9_abs_0f7a4_ok : pt_ok YJ9_abs_0f7a4.2.1 tJ9_abs_0f7a4 = true := by decide +kernel
theorem nJ9_abs_0f7a4 : (plainFor yJ9_abs_0f7a4 && decide (yJ9_abs_0f7a4.cls = pt_own YJ9_abs_0f7a4.1)) = true := by decide +kernel
abbrev YJ9_min_7cf53 : pt_Y := (10, cJ9_min_7cf53, 2, (some .int), ({ frames := 0, cells := 0, slots := 0, locals := 0 } : Room))
def tJ9_min_7cf53 : pt_B := [
  [(0, .iload_n 0, 1, 0), (1, .iload_n 1, 1, 0), (2, .if_icmp .gt 7, 3, 9), (5, .iload_n 0, 1, 0), (6, .goto 4, 3, 10), (9, .iload_n 1, 1, 0), (10, .ireturn, 1, 0)]]
set_option maxRecDepth 100000 in
theorem tJ9_min_7cf53_ok : pt_ok YJ9_min_7cf53.2.1 tJ9_min_7cf53 = true := by decide +kernel
theorem nJ9_min_7cf53 : (plainFor yJ9_min_7cf53 && decide (yJ9_min_7cf53.cls = pt_own YJ9_min_7cf53.1)) = true := by decide +kernel
abbrev YJ7_fill_53178 : pt_Y := (11, cJ7_fill_53178, 4, none, ({ frames := 0, cells := 0, slots := 0, locals := 0 } : Room))
def tJ7_fill_53178 : pt_B := [
  [(0, .iconst 0, 1, 0), (1, .istore_n 2, 1, 0), (2, .aload_n 0, 1, 0), (3, .arraylength, 1, 0), (4, .istore_n 3, 1, 0), (5, .iload_n 2, 1, 0), (6, .iload_n 3, 1, 0), (7, .if_icmp .ge 13, 3, 20), (10, .aload_n 0, 1, 0), (11, .iload_n 2, 1, 0), (12, .iload_n 1, 1, 0), (13, .iastore, 1, 0), (14, .iinc 2 1, 3, 0)],
  [(17, .goto (-12), 3, 5), (20, .return_, 1, 0)]]
set_option maxRecDepth 100000 in
theorem tJ7_fill_53178_ok : pt_ok YJ7_fill_53178.2.1 tJ7_fill_53178 = true := by decide +kernel
theorem nJ7_fill_53178 : (plainFor yJ7_fill_53178 && decide (yJ7_fill_53178.cls = pt_own YJ7_fill_53178.1)) = true := by decide +kernel
end
section
/-! methods: their instructions, by program -/
abbrev YX6_feed : pt_Y := (0, cX6_feed, 6, (some .int), ({ frames := 1, cells := 0, slots := 0, locals := 22 } : Room))
def tX6_feed : pt_B := [
  [(0, .aload_n 0, 1, 0), (1, .getfield 23, 3, 0), (4, .getfield 64, 3, 0), (7, .bipush 20, 2, 0), (9, .iadd, 1, 0), (10, .sipush 140, 3, 0), (13, .if_icmp .le 5, 3, 18)],
  [(16, .iconst (-1), 1, 0), (17, .ireturn, 1, 0), (18, .aload_n 0, 1, 0), (19, .getfield 23, 3, 0), (22, .iload_n 1, 1, 0), (23, .invokevirtual 67, 3, 0), (26, .aload_n 0, 1, 0), (27, .getfield 23, 3, 0), (30, .iload_n 2, 1, 0), (31, .invokevirtual 67, 3, 0)],
  [(34, .aload_n 0, 1, 0), (35, .getfield 23, 3, 0), (38, .iload_n 3, 1, 0), (39, .invokevirtual 67, 3, 0), (42, .aload_n 0, 1, 0), (43, .getfield 23, 3, 0), (46, .iload 4, 2, 0)],
  [(48, .invokevirtual 67, 3, 0), (51, .aload_n 0, 1, 0), (52, .getfield 23, 3, 0), (55, .iload 5, 2, 0), (57, .invokevirtual 67, 3, 0), (60, .aload_n 0, 1, 0), (61, .getfield 23, 3, 0)],
  [(64, .getfield 64, 3, 0), (67, .ireturn, 1, 0)]]
set_option maxRecDepth 100000 in
theorem tX6_feed_ok : pt_ok YX6_feed.2.1 tX6_feed = true := by decide +kernel
theorem nX6_feed : (plainFor yX6_feed && decide (yX6_feed.cls = pt_own YX6_feed.1)) = true := by decide +kernel
abbrev YX6_end : pt_Y := (0, cX6_end, 2, (some .boolean), ({ frames := 0, cells := 0, slots := 0, locals := 0 } : Room))
def tX6_end : pt_B := [
  [(0, .iload_n 1, 1, 0), (1, .ifCond .lt 14, 3, 15), (4, .iload_n 1, 1, 0), (5, .aload_n 0, 1, 0), (6, .getfield 23, 3, 0), (9, .getfield 64, 3, 0), (12, .if_icmp .le 5, 3, 17), (15, .iconst 0, 1, 0)],
  [(16, .ireturn, 1, 0), (17, .aload_n 0, 1, 0), (18, .getfield 23, 3, 0), (21, .iload_n 1, 1, 0), (22, .putfield 64, 3, 0), (25, .iconst 1, 1, 0), (26, .ireturn, 1, 0)]]
set_option maxRecDepth 100000 in
theorem tX6_end_ok : pt_ok YX6_end.2.1 tX6_end = true := by decide +kernel
theorem nX6_end : (plainFor yX6_end && decide (yX6_end.cls = pt_own YX6_end.1)) = true := by decide +kernel
abbrev YX6_place : pt_Y := (0, cX6_place, 3, (some .int), ({ frames := 4, cells := 0, slots := 0, locals := 97 } : Room))
def tX6_place : pt_B := [
  [(0, .aload_n 0, 1, 0), (1, .iload_n 1, 1, 0), (2, .invokevirtual 71, 3, 0), (5, .istore_n 2, 1, 0), (6, .aload_n 0, 1, 0), (7, .getfield 23, 3, 0), (10, .iconst 0, 1, 0), (11, .putfield 64, 3, 0), (14, .iload_n 2, 1, 0), (15, .ireturn, 1, 0)]]
set_option maxRecDepth 100000 in
theorem tX6_place_ok : pt_ok YX6_place.2.1 tX6_place = true := by decide +kernel
theorem nX6_place : (plainFor yX6_place && decide (yX6_place.cls = pt_own YX6_place.1)) = true := by decide +kernel
abbrev YX6_placeByTape : pt_Y := (0, cX6_placeByTape, 4, (some .int), ({ frames := 3, cells := 0, slots := 0, locals := 74 } : Room))
def tX6_placeByTape : pt_B := [
  [(0, .aload_n 0, 1, 0), (1, .getfield 23, 3, 0), (4, .getfield 64, 3, 0), (7, .iconst 4, 1, 0), (8, .idiv, 1, 0), (9, .istore_n 2, 1, 0), (10, .iload_n 1, 1, 0), (11, .invokestatic 75, 3, 0), (14, .ifCond .eq 30, 3, 44)],
  [(17, .aload_n 0, 1, 0), (18, .getfield 23, 3, 0), (21, .getfield 64, 3, 0), (24, .iconst 4, 1, 0), (25, .irem, 1, 0), (26, .ifCond .ne 18, 3, 44), (29, .iload_n 2, 1, 0), (30, .invokestatic 79, 3, 0)],
  [(33, .ifCond .eq 11, 3, 44), (36, .aload_n 0, 1, 0), (37, .iload_n 2, 1, 0), (38, .invokevirtual 82, 3, 0), (41, .ifCond .ne 5, 3, 46), (44, .iconst 1, 1, 0), (45, .ireturn, 1, 0), (46, .aload_n 0, 1, 0), (47, .iload_n 2, 1, 0)],
  [(48, .invokevirtual 85, 3, 0), (51, .istore_n 3, 1, 0), (52, .iload_n 3, 1, 0), (53, .iconst (-1), 1, 0), (54, .if_icmp .eq 10, 3, 64), (57, .aload_n 0, 1, 0), (58, .iload_n 3, 1, 0), (59, .putfield 49, 3, 0), (62, .iconst 2, 1, 0), (63, .ireturn, 1, 0)],
  [(64, .aload_n 0, 1, 0), (65, .iload_n 1, 1, 0), (66, .invokevirtual 88, 3, 0), (69, .iconst 0, 1, 0), (70, .ireturn, 1, 0)]]
set_option maxRecDepth 100000 in
theorem tX6_placeByTape_ok : pt_ok YX6_placeByTape.2.1 tX6_placeByTape = true := by decide +kernel
theorem nX6_placeByTape : (plainFor yX6_placeByTape && decide (yX6_placeByTape.cls = pt_own YX6_placeByTape.1)) = true := by decide +kernel
abbrev YX6_readPlaces : pt_Y := (0, cX6_readPlaces, 3, (some .boolean), ({ frames := 2, cells := 0, slots := 0, locals := 42 } : Room))
def tX6_readPlaces : pt_B := [
  [(0, .iconst 0, 1, 0), (1, .istore_n 2, 1, 0), (2, .iload_n 2, 1, 0), (3, .iload_n 1, 1, 0), (4, .if_icmp .ge 75, 3, 79), (7, .aload_n 0, 1, 0), (8, .getfield 52, 3, 0), (11, .iload_n 2, 1, 0), (12, .aload_n 0, 1, 0), (13, .getfield 23, 3, 0)],
  [(16, .iload_n 2, 1, 0), (17, .iconst 4, 1, 0), (18, .imul, 1, 0), (19, .invokevirtual 91, 3, 0), (22, .iastore, 1, 0), (23, .aload_n 0, 1, 0), (24, .getfield 55, 3, 0), (27, .iload_n 2, 1, 0), (28, .aload_n 0, 1, 0), (29, .getfield 23, 3, 0)],
  [(32, .iload_n 2, 1, 0), (33, .iconst 4, 1, 0), (34, .imul, 1, 0), (35, .iconst 2, 1, 0), (36, .iadd, 1, 0), (37, .invokevirtual 91, 3, 0), (40, .iastore, 1, 0), (41, .aload_n 0, 1, 0), (42, .getfield 52, 3, 0), (45, .iload_n 2, 1, 0), (46, .iaload, 1, 0), (47, .invokestatic 94, 3, 0)],
  [(50, .sipush 10000, 3, 0), (53, .if_icmp .gt 18, 3, 71), (56, .aload_n 0, 1, 0), (57, .getfield 55, 3, 0), (60, .iload_n 2, 1, 0), (61, .iaload, 1, 0), (62, .invokestatic 94, 3, 0)],
  [(65, .sipush 10000, 3, 0), (68, .if_icmp .le 5, 3, 73), (71, .iconst 0, 1, 0), (72, .ireturn, 1, 0), (73, .iinc 2 1, 3, 0), (76, .goto (-74), 3, 2), (79, .iconst 1, 1, 0)],
  [(80, .ireturn, 1, 0)]]
set_option maxRecDepth 100000 in
theorem tX6_readPlaces_ok : pt_ok YX6_readPlaces.2.1 tX6_readPlaces = true := by decide +kernel
theorem nX6_readPlaces : (plainFor yX6_readPlaces && decide (yX6_readPlaces.cls = pt_own YX6_readPlaces.1)) = true := by decide +kernel
abbrev YX6_placeSpare : pt_Y := (0, cX6_placeSpare, 6, (some .int), ({ frames := 2, cells := 0, slots := 0, locals := 49 } : Room))
def tX6_placeSpare : pt_B := [
  [(0, .aload_n 0, 1, 0), (1, .getfield 16, 3, 0), (4, .iload_n 1, 1, 0), (5, .invokevirtual 99, 3, 0), (8, .iconst 0, 1, 0), (9, .istore_n 2, 1, 0), (10, .iload_n 2, 1, 0), (11, .iload_n 1, 1, 0), (12, .if_icmp .ge 139, 3, 151), (15, .iload_n 2, 1, 0)],
  [(16, .iconst 1, 1, 0), (17, .iadd, 1, 0), (18, .istore_n 3, 1, 0), (19, .iload_n 3, 1, 0), (20, .iload_n 1, 1, 0), (21, .if_icmp .ge 124, 3, 145), (24, .iload_n 3, 1, 0), (25, .iconst 1, 1, 0), (26, .iadd, 1, 0), (27, .istore 4, 2, 0), (29, .iload 4, 2, 0), (31, .iload_n 1, 1, 0)],
  [(32, .if_icmp .ge 107, 3, 139), (35, .aload_n 0, 1, 0), (36, .getfield 52, 3, 0), (39, .iload_n 3, 1, 0), (40, .iaload, 1, 0), (41, .aload_n 0, 1, 0), (42, .getfield 52, 3, 0), (45, .iload_n 2, 1, 0), (46, .iaload, 1, 0), (47, .isub, 1, 0)],
  [(48, .aload_n 0, 1, 0), (49, .getfield 55, 3, 0), (52, .iload 4, 2, 0), (54, .iaload, 1, 0), (55, .aload_n 0, 1, 0), (56, .getfield 55, 3, 0), (59, .iload_n 2, 1, 0), (60, .iaload, 1, 0), (61, .isub, 1, 0), (62, .imul, 1, 0), (63, .aload_n 0, 1, 0)],
  [(64, .getfield 55, 3, 0), (67, .iload_n 3, 1, 0), (68, .iaload, 1, 0), (69, .aload_n 0, 1, 0), (70, .getfield 55, 3, 0), (73, .iload_n 2, 1, 0), (74, .iaload, 1, 0), (75, .isub, 1, 0), (76, .aload_n 0, 1, 0), (77, .getfield 52, 3, 0)],
  [(80, .iload 4, 2, 0), (82, .iaload, 1, 0), (83, .aload_n 0, 1, 0), (84, .getfield 52, 3, 0), (87, .iload_n 2, 1, 0), (88, .iaload, 1, 0), (89, .isub, 1, 0), (90, .imul, 1, 0), (91, .isub, 1, 0), (92, .istore 5, 2, 0), (94, .iload 5, 2, 0)],
  [(96, .ifCond .ne 16, 3, 112), (99, .iload_n 2, 1, 0), (100, .bipush 100, 2, 0), (102, .imul, 1, 0), (103, .iload_n 3, 1, 0), (104, .bipush 10, 2, 0), (106, .imul, 1, 0), (107, .iadd, 1, 0), (108, .iload 4, 2, 0), (110, .iadd, 1, 0), (111, .ireturn, 1, 0)],
  [(112, .aload_n 0, 1, 0), (113, .getfield 16, 3, 0), (116, .iload_n 2, 1, 0), (117, .iload_n 3, 1, 0), (118, .iload 4, 2, 0), (120, .iload 5, 2, 0), (122, .ifCond .le 7, 3, 129), (125, .iconst 1, 1, 0), (126, .goto 4, 3, 130)],
  [(129, .iconst 0, 1, 0), (130, .invokevirtual 102, 3, 0), (133, .iinc 4 1, 3, 0), (136, .goto (-107), 3, 29), (139, .iinc 3 1, 3, 0), (142, .goto (-123), 3, 19)],
  [(145, .iinc 2 1, 3, 0), (148, .goto (-138), 3, 10), (151, .iconst (-1), 1, 0), (152, .ireturn, 1, 0)]]
set_option maxRecDepth 100000 in
theorem tX6_placeSpare_ok : pt_ok YX6_placeSpare.2.1 tX6_placeSpare = true := by decide +kernel
theorem nX6_placeSpare : (plainFor yX6_placeSpare && decide (yX6_placeSpare.cls = pt_own YX6_placeSpare.1)) = true := by decide +kernel
abbrev YX6_line : pt_Y := (0, cX6_line, 1, (some .int), ({ frames := 0, cells := 0, slots := 0, locals := 0 } : Room))
def tX6_line : pt_B := [
  [(0, .aload_n 0, 1, 0), (1, .getfield 49, 3, 0), (4, .ireturn, 1, 0)]]
set_option maxRecDepth 100000 in
theorem tX6_line_ok : pt_ok YX6_line.2.1 tX6_line = true := by decide +kernel
theorem nX6_line : (plainFor yX6_line && decide (yX6_line.cls = pt_own YX6_line.1)) = true := by decide +kernel
abbrev YX6_table : pt_Y := (0, cX6_table, 4, (some .boolean), ({ frames := 4, cells := 0, slots := 0, locals := 98 } : Room))
def tX6_table : pt_B := [
  [(0, .aload_n 0, 1, 0), (1, .iload_n 1, 1, 0), (2, .iload_n 2, 1, 0), (3, .invokevirtual 106, 3, 0), (6, .istore_n 3, 1, 0), (7, .aload_n 0, 1, 0), (8, .getfield 23, 3, 0), (11, .iconst 0, 1, 0), (12, .putfield 64, 3, 0), (15, .iload_n 3, 1, 0)],
  [(16, .ireturn, 1, 0)]]
set_option maxRecDepth 100000 in
theorem tX6_table_ok : pt_ok YX6_table.2.1 tX6_table = true := by decide +kernel
theorem nX6_table : (plainFor yX6_table && decide (yX6_table.cls = pt_own YX6_table.1)) = true := by decide +kernel
abbrev YX6_tableByTape : pt_Y := (0, cX6_tableByTape, 4, (some .boolean), ({ frames := 3, cells := 0, slots := 0, locals := 75 } : Room))
def tX6_tableByTape : pt_B := [
  [(0, .iload_n 1, 1, 0), (1, .invokestatic 75, 3, 0), (4, .ifCond .eq 27, 3, 31), (7, .iload_n 2, 1, 0), (8, .invokestatic 79, 3, 0), (11, .ifCond .eq 20, 3, 31), (14, .aload_n 0, 1, 0), (15, .getfield 23, 3, 0)],
  [(18, .getfield 64, 3, 0), (21, .bipush 8, 2, 0), (23, .imul, 1, 0), (24, .iload_n 2, 1, 0), (25, .invokestatic 110, 3, 0), (28, .if_icmp .ge 5, 3, 33), (31, .iconst 0, 1, 0)],
  [(32, .ireturn, 1, 0), (33, .iconst 0, 1, 0), (34, .istore_n 3, 1, 0), (35, .iload_n 3, 1, 0), (36, .iload_n 2, 1, 0), (37, .invokestatic 110, 3, 0), (40, .if_icmp .ge 31, 3, 71), (43, .aload_n 0, 1, 0), (44, .getfield 61, 3, 0), (47, .iload_n 3, 1, 0)],
  [(48, .aload_n 0, 1, 0), (49, .getfield 23, 3, 0), (52, .iload_n 3, 1, 0), (53, .invokevirtual 113, 3, 0), (56, .ifCond .eq 7, 3, 63), (59, .iconst 2, 1, 0), (60, .goto 4, 3, 64), (63, .iconst 1, 1, 0)],
  [(64, .iastore, 1, 0), (65, .iinc 3 1, 3, 0), (68, .goto (-33), 3, 35), (71, .aload_n 0, 1, 0), (72, .getfield 16, 3, 0), (75, .iload_n 2, 1, 0), (76, .aload_n 0, 1, 0), (77, .getfield 61, 3, 0)],
  [(80, .invokevirtual 116, 3, 0), (83, .aload_n 0, 1, 0), (84, .iload_n 1, 1, 0), (85, .invokevirtual 88, 3, 0), (88, .iconst 1, 1, 0), (89, .ireturn, 1, 0)]]
set_option maxRecDepth 100000 in
theorem tX6_tableByTape_ok : pt_ok YX6_tableByTape.2.1 tX6_tableByTape = true := by decide +kernel
theorem nX6_tableByTape : (plainFor yX6_tableByTape && decide (yX6_tableByTape.cls = pt_own YX6_tableByTape.1)) = true := by decide +kernel
abbrev YX6_turn : pt_Y := (0, cX6_turn, 6, (some .int), ({ frames := 2, cells := 0, slots := 0, locals := 44 } : Room))
def tX6_turn : pt_B := [
  [(0, .aload_n 0, 1, 0), (1, .iload_n 1, 1, 0), (2, .invokevirtual 120, 3, 0), (5, .astore 5, 2, 0), (7, .aload 5, 2, 0), (9, .ifnull 15, 3, 24), (12, .aload 5, 2, 0), (14, .iload_n 2, 1, 0), (15, .iload_n 3, 1, 0)],
  [(16, .iload 4, 2, 0), (18, .invokevirtual 124, 3, 0), (21, .ifCond .ne 5, 3, 26), (24, .iconst 0, 1, 0), (25, .ireturn, 1, 0), (26, .aload 5, 2, 0), (28, .iload_n 2, 1, 0), (29, .iload_n 3, 1, 0), (30, .iload 4, 2, 0)],
  [(32, .invokevirtual 128, 3, 0), (35, .ifCond .eq 7, 3, 42), (38, .iconst 1, 1, 0), (39, .goto 4, 3, 43), (42, .iconst (-1), 1, 0), (43, .ireturn, 1, 0)]]
set_option maxRecDepth 100000 in
theorem tX6_turn_ok : pt_ok YX6_turn.2.1 tX6_turn = true := by decide +kernel
theorem nX6_turn : (plainFor yX6_turn && decide (yX6_turn.cls = pt_own YX6_turn.1)) = true := by decide +kernel
abbrev YX6_flip : pt_Y := (0, cX6_flip, 6, (some .boolean), ({ frames := 2, cells := 0, slots := 0, locals := 49 } : Room))
def tX6_flip : pt_B := [
  [(0, .aload_n 0, 1, 0), (1, .iload_n 1, 1, 0), (2, .invokevirtual 120, 3, 0), (5, .astore 5, 2, 0), (7, .aload 5, 2, 0), (9, .ifnull 15, 3, 24), (12, .aload 5, 2, 0), (14, .iload_n 2, 1, 0), (15, .iload_n 3, 1, 0)],
  [(16, .iload 4, 2, 0), (18, .invokevirtual 124, 3, 0), (21, .ifCond .ne 5, 3, 26), (24, .iconst 0, 1, 0), (25, .ireturn, 1, 0), (26, .aload 5, 2, 0), (28, .iload_n 2, 1, 0), (29, .iload_n 3, 1, 0), (30, .iload 4, 2, 0)],
  [(32, .aload 5, 2, 0), (34, .iload_n 2, 1, 0), (35, .iload_n 3, 1, 0), (36, .iload 4, 2, 0), (38, .invokevirtual 128, 3, 0), (41, .ifCond .ne 7, 3, 48), (44, .iconst 1, 1, 0), (45, .goto 4, 3, 49)],
  [(48, .iconst 0, 1, 0), (49, .invokevirtual 102, 3, 0), (52, .aload 5, 2, 0), (54, .invokevirtual 131, 3, 0), (57, .iconst 1, 1, 0), (58, .ireturn, 1, 0)]]
set_option maxRecDepth 100000 in
theorem tX6_flip_ok : pt_ok YX6_flip.2.1 tX6_flip = true := by decide +kernel
theorem nX6_flip : (plainFor yX6_flip && decide (yX6_flip.cls = pt_own YX6_flip.1)) = true := by decide +kernel
abbrev YX6_mirror : pt_Y := (0, cX6_mirror, 5, (some .boolean), ({ frames := 3, cells := 0, slots := 0, locals := 77 } : Room))
def tX6_mirror : pt_B := [
  [(0, .aload_n 0, 1, 0), (1, .iload_n 2, 1, 0), (2, .invokevirtual 120, 3, 0), (5, .astore_n 3, 1, 0), (6, .iload_n 1, 1, 0), (7, .invokestatic 75, 3, 0), (10, .ifCond .eq 7, 3, 17), (13, .aload_n 3, 1, 0), (14, .ifnonnull 5, 3, 19)],
  [(17, .iconst 0, 1, 0), (18, .ireturn, 1, 0), (19, .iconst 0, 1, 0), (20, .istore 4, 2, 0), (22, .iload 4, 2, 0), (24, .aload_n 3, 1, 0), (25, .getfield 134, 3, 0), (28, .if_icmp .ge 18, 3, 46), (31, .aload_n 0, 1, 0)],
  [(32, .getfield 58, 3, 0), (35, .iload 4, 2, 0), (37, .iload 4, 2, 0), (39, .iastore, 1, 0), (40, .iinc 4 1, 3, 0), (43, .goto (-21), 3, 22), (46, .aload_n 0, 1, 0), (47, .getfield 16, 3, 0)],
  [(50, .aload_n 3, 1, 0), (51, .aload_n 0, 1, 0), (52, .getfield 58, 3, 0), (55, .aload_n 3, 1, 0), (56, .getfield 134, 3, 0), (59, .iconst 1, 1, 0), (60, .invokevirtual 137, 3, 0), (63, .aload_n 0, 1, 0)],
  [(64, .iload_n 1, 1, 0), (65, .invokevirtual 88, 3, 0), (68, .iconst 1, 1, 0), (69, .ireturn, 1, 0)]]
set_option maxRecDepth 100000 in
theorem tX6_mirror_ok : pt_ok YX6_mirror.2.1 tX6_mirror = true := by decide +kernel
theorem nX6_mirror : (plainFor yX6_mirror && decide (yX6_mirror.cls = pt_own YX6_mirror.1)) = true := by decide +kernel
abbrev YX6_rename : pt_Y := (0, cX6_rename, 4, (some .boolean), ({ frames := 4, cells := 0, slots := 0, locals := 102 } : Room))
def tX6_rename : pt_B := [
  [(0, .aload_n 0, 1, 0), (1, .iload_n 1, 1, 0), (2, .iload_n 2, 1, 0), (3, .invokevirtual 141, 3, 0), (6, .istore_n 3, 1, 0), (7, .aload_n 0, 1, 0), (8, .getfield 23, 3, 0), (11, .iconst 0, 1, 0), (12, .putfield 64, 3, 0), (15, .iload_n 3, 1, 0)],
  [(16, .ireturn, 1, 0)]]
set_option maxRecDepth 100000 in
theorem tX6_rename_ok : pt_ok YX6_rename.2.1 tX6_rename = true := by decide +kernel
theorem nX6_rename : (plainFor yX6_rename && decide (yX6_rename.cls = pt_own YX6_rename.1)) = true := by decide +kernel
abbrev YX6_renameByTape : pt_Y := (0, cX6_renameByTape, 6, (some .boolean), ({ frames := 3, cells := 0, slots := 0, locals := 77 } : Room))
def tX6_renameByTape : pt_B := [
  [(0, .aload_n 0, 1, 0), (1, .iload_n 2, 1, 0), (2, .invokevirtual 120, 3, 0), (5, .astore_n 3, 1, 0), (6, .iload_n 1, 1, 0), (7, .invokestatic 75, 3, 0), (10, .ifCond .eq 21, 3, 31), (13, .aload_n 3, 1, 0), (14, .ifnull 17, 3, 31)],
  [(17, .aload_n 0, 1, 0), (18, .getfield 23, 3, 0), (21, .getfield 64, 3, 0), (24, .aload_n 3, 1, 0), (25, .getfield 134, 3, 0), (28, .if_icmp .eq 5, 3, 33), (31, .iconst 0, 1, 0)],
  [(32, .ireturn, 1, 0), (33, .iconst 0, 1, 0), (34, .istore 4, 2, 0), (36, .iconst 0, 1, 0), (37, .istore 5, 2, 0), (39, .iload 5, 2, 0), (41, .aload_n 3, 1, 0), (42, .getfield 134, 3, 0), (45, .if_icmp .ge 55, 3, 100)],
  [(48, .aload_n 0, 1, 0), (49, .getfield 58, 3, 0), (52, .iload 5, 2, 0), (54, .aload_n 0, 1, 0), (55, .getfield 23, 3, 0), (58, .iload 5, 2, 0), (60, .invokevirtual 144, 3, 0), (63, .iastore, 1, 0)],
  [(64, .aload_n 3, 1, 0), (65, .aload_n 0, 1, 0), (66, .getfield 58, 3, 0), (69, .iload 5, 2, 0), (71, .iaload, 1, 0), (72, .invokevirtual 147, 3, 0), (75, .ifCond .ne 5, 3, 80), (78, .iconst 0, 1, 0), (79, .ireturn, 1, 0)],
  [(80, .iload 4, 2, 0), (82, .iconst 1, 1, 0), (83, .aload_n 0, 1, 0), (84, .getfield 58, 3, 0), (87, .iload 5, 2, 0), (89, .iaload, 1, 0), (90, .ishl, 1, 0), (91, .ior, 1, 0), (92, .istore 4, 2, 0), (94, .iinc 5 1, 3, 0)],
  [(97, .goto (-58), 3, 39), (100, .iload 4, 2, 0), (102, .aload_n 3, 1, 0), (103, .invokevirtual 150, 3, 0), (106, .if_icmp .eq 5, 3, 111), (109, .iconst 0, 1, 0), (110, .ireturn, 1, 0), (111, .aload_n 0, 1, 0)],
  [(112, .getfield 16, 3, 0), (115, .aload_n 3, 1, 0), (116, .aload_n 0, 1, 0), (117, .getfield 58, 3, 0), (120, .aload_n 3, 1, 0), (121, .getfield 134, 3, 0), (124, .iconst 0, 1, 0), (125, .invokevirtual 137, 3, 0)],
  [(128, .aload_n 0, 1, 0), (129, .iload_n 1, 1, 0), (130, .invokevirtual 88, 3, 0), (133, .iconst 1, 1, 0), (134, .ireturn, 1, 0)]]
set_option maxRecDepth 100000 in
theorem tX6_renameByTape_ok : pt_ok YX6_renameByTape.2.1 tX6_renameByTape = true := by decide +kernel
theorem nX6_renameByTape : (plainFor yX6_renameByTape && decide (yX6_renameByTape.cls = pt_own YX6_renameByTape.1)) = true := by decide +kernel
abbrev YX6_without : pt_Y := (0, cX6_without, 6, (some .boolean), ({ frames := 3, cells := 0, slots := 0, locals := 77 } : Room))
def tX6_without : pt_B := [
  [(0, .aload_n 0, 1, 0), (1, .iload_n 2, 1, 0), (2, .invokevirtual 120, 3, 0), (5, .astore 4, 2, 0), (7, .iload_n 1, 1, 0), (8, .invokestatic 75, 3, 0), (11, .ifCond .eq 26, 3, 37), (14, .aload 4, 2, 0)],
  [(16, .ifnull 21, 3, 37), (19, .aload 4, 2, 0), (21, .iload_n 3, 1, 0), (22, .invokevirtual 147, 3, 0), (25, .ifCond .eq 12, 3, 37), (28, .aload 4, 2, 0), (30, .getfield 134, 3, 0)],
  [(33, .iconst 3, 1, 0), (34, .if_icmp .ne 5, 3, 39), (37, .iconst 0, 1, 0), (38, .ireturn, 1, 0), (39, .iconst 0, 1, 0), (40, .istore 5, 2, 0), (42, .iload 5, 2, 0), (44, .aload 4, 2, 0), (46, .getfield 134, 3, 0)],
  [(49, .iconst 1, 1, 0), (50, .isub, 1, 0), (51, .if_icmp .ge 31, 3, 82), (54, .aload_n 0, 1, 0), (55, .getfield 58, 3, 0), (58, .iload 5, 2, 0), (60, .iload 5, 2, 0), (62, .iload_n 3, 1, 0), (63, .if_icmp .ge 8, 3, 71)],
  [(66, .iload 5, 2, 0), (68, .goto 7, 3, 75), (71, .iload 5, 2, 0), (73, .iconst 1, 1, 0), (74, .iadd, 1, 0), (75, .iastore, 1, 0), (76, .iinc 5 1, 3, 0), (79, .goto (-37), 3, 42)],
  [(82, .aload_n 0, 1, 0), (83, .getfield 16, 3, 0), (86, .aload 4, 2, 0), (88, .aload_n 0, 1, 0), (89, .getfield 58, 3, 0), (92, .aload 4, 2, 0), (94, .getfield 134, 3, 0)],
  [(97, .iconst 1, 1, 0), (98, .isub, 1, 0), (99, .iconst 0, 1, 0), (100, .invokevirtual 137, 3, 0), (103, .aload_n 0, 1, 0), (104, .iload_n 1, 1, 0), (105, .invokevirtual 88, 3, 0), (108, .iconst 1, 1, 0), (109, .ireturn, 1, 0)]]
set_option maxRecDepth 100000 in
theorem tX6_without_ok : pt_ok YX6_without.2.1 tX6_without = true := by decide +kernel
theorem nX6_without : (plainFor yX6_without && decide (yX6_without.cls = pt_own YX6_without.1)) = true := by decide +kernel
abbrev YX6_lawful : pt_Y := (0, cX6_lawful, 3, (some .int), ({ frames := 6, cells := 0, slots := 0, locals := 144 } : Room))
def tX6_lawful : pt_B := [
  [(0, .aload_n 0, 1, 0), (1, .iload_n 1, 1, 0), (2, .invokevirtual 154, 3, 0), (5, .istore_n 2, 1, 0), (6, .iload_n 2, 1, 0), (7, .iconst (-1), 1, 0), (8, .if_icmp .ne 5, 3, 13), (11, .iconst (-1), 1, 0), (12, .ireturn, 1, 0), (13, .iload_n 2, 1, 0), (14, .ifCond .ne 7, 3, 21)],
  [(17, .iconst 1, 1, 0), (18, .goto 4, 3, 22), (21, .iconst 0, 1, 0), (22, .ireturn, 1, 0)]]
set_option maxRecDepth 100000 in
theorem tX6_lawful_ok : pt_ok YX6_lawful.2.1 tX6_lawful = true := by decide +kernel
theorem nX6_lawful : (plainFor yX6_lawful && decide (yX6_lawful.cls = pt_own YX6_lawful.1)) = true := by decide +kernel
abbrev YX6_why : pt_Y := (0, cX6_why, 3, (some .int), ({ frames := 5, cells := 0, slots := 0, locals := 122 } : Room))
def tX6_why : pt_B := [
  [(0, .aload_n 0, 1, 0), (1, .iload_n 1, 1, 0), (2, .invokevirtual 120, 3, 0), (5, .astore_n 2, 1, 0), (6, .aload_n 2, 1, 0), (7, .ifnonnull 7, 3, 14), (10, .iconst (-1), 1, 0), (11, .goto 7, 3, 18), (14, .aload_n 2, 1, 0), (15, .invokestatic 157, 3, 0)],
  [(18, .ireturn, 1, 0)]]
set_option maxRecDepth 100000 in
theorem tX6_why_ok : pt_ok YX6_why.2.1 tX6_why = true := by decide +kernel
theorem nX6_why : (plainFor yX6_why && decide (yX6_why.cls = pt_own YX6_why.1)) = true := by decide +kernel
abbrev YX6_rim : pt_Y := (0, cX6_rim, 3, (some .int), ({ frames := 6, cells := 0, slots := 0, locals := 144 } : Room))
def tX6_rim : pt_B := [
  [(0, .aload_n 0, 1, 0), (1, .iload_n 1, 1, 0), (2, .invokevirtual 163, 3, 0), (5, .astore_n 2, 1, 0), (6, .aload_n 2, 1, 0), (7, .ifnonnull 7, 3, 14), (10, .iconst (-1), 1, 0), (11, .goto 14, 3, 25), (14, .aload_n 2, 1, 0), (15, .aload_n 2, 1, 0)],
  [(16, .invokevirtual 150, 3, 0), (19, .invokestatic 166, 3, 0), (22, .invokestatic 172, 3, 0), (25, .ireturn, 1, 0)]]
set_option maxRecDepth 100000 in
theorem tX6_rim_ok : pt_ok YX6_rim.2.1 tX6_rim = true := by decide +kernel
theorem nX6_rim : (plainFor yX6_rim && decide (yX6_rim.cls = pt_own YX6_rim.1)) = true := by decide +kernel
abbrev YX6_onRim : pt_Y := (0, cX6_onRim, 7, (some .int), ({ frames := 6, cells := 0, slots := 0, locals := 144 } : Room))
def tX6_onRim : pt_B := [
  [(0, .aload_n 0, 1, 0), (1, .iload_n 1, 1, 0), (2, .invokevirtual 163, 3, 0), (5, .astore_n 3, 1, 0), (6, .aload_n 3, 1, 0), (7, .ifnonnull 13, 3, 20), (13, .dup, 1, 0)],
  [(20, .aload_n 3, 1, 0), (21, .aload_n 3, 1, 0), (22, .invokevirtual 150, 3, 0), (25, .invokestatic 166, 3, 0), (28, .istore 4, 2, 0), (30, .iload_n 2, 1, 0), (31, .ifCond .lt 12, 3, 43)],
  [(34, .iload_n 2, 1, 0), (35, .iload 4, 2, 0), (37, .invokestatic 172, 3, 0), (40, .if_icmp .lt 13, 3, 53), (46, .dup, 1, 0)],
  [(53, .aload_n 3, 1, 0), (54, .iload 4, 2, 0), (56, .invokestatic 186, 3, 0), (59, .istore 5, 2, 0), (61, .iconst 0, 1, 0), (62, .istore 6, 2, 0)],
  [(64, .iload 6, 2, 0), (66, .iload_n 2, 1, 0), (67, .if_icmp .ge 19, 3, 86), (70, .aload_n 3, 1, 0), (71, .iload 4, 2, 0), (73, .iload 5, 2, 0), (75, .invokestatic 189, 3, 0), (78, .istore 5, 2, 0)],
  [(80, .iinc 6 1, 3, 0), (83, .goto (-19), 3, 64), (86, .iload 5, 2, 0), (88, .ireturn, 1, 0)]]
set_option maxRecDepth 100000 in
theorem tX6_onRim_ok : pt_ok YX6_onRim.2.1 tX6_onRim = true := by decide +kernel
theorem nX6_onRim : (plainFor yX6_onRim && decide (yX6_onRim.cls = pt_own YX6_onRim.1)) = true := by decide +kernel
abbrev YX6_layer : pt_Y := (0, cX6_layer, 4, (some .int), ({ frames := 6, cells := 0, slots := 0, locals := 144 } : Room))
def tX6_layer : pt_B := [
  [(0, .aload_n 0, 1, 0), (1, .iload_n 1, 1, 0), (2, .invokevirtual 163, 3, 0), (5, .astore_n 3, 1, 0), (6, .aload_n 3, 1, 0), (7, .ifnull 11, 3, 18), (10, .aload_n 3, 1, 0), (11, .iload_n 2, 1, 0), (12, .invokevirtual 147, 3, 0), (15, .ifCond .ne 5, 3, 20)],
  [(18, .iconst (-1), 1, 0), (19, .ireturn, 1, 0), (20, .aload_n 3, 1, 0), (21, .iload_n 2, 1, 0), (22, .invokestatic 193, 3, 0), (25, .ireturn, 1, 0)]]
set_option maxRecDepth 100000 in
theorem tX6_layer_ok : pt_ok YX6_layer.2.1 tX6_layer = true := by decide +kernel
theorem nX6_layer : (plainFor yX6_layer && decide (yX6_layer.cls = pt_own YX6_layer.1)) = true := by decide +kernel
abbrev YX6_code : pt_Y := (0, cX6_code, 3, (some .int), ({ frames := 6, cells := 0, slots := 0, locals := 144 } : Room))
def tX6_code : pt_B := [
  [(0, .aload_n 0, 1, 0), (1, .iload_n 1, 1, 0), (2, .invokevirtual 163, 3, 0), (5, .astore_n 2, 1, 0), (6, .aload_n 2, 1, 0), (7, .ifnonnull 5, 3, 12), (10, .iconst (-1), 1, 0), (11, .ireturn, 1, 0), (12, .aload_n 0, 1, 0), (13, .aload_n 0, 1, 0), (14, .getfield 30, 3, 0)],
  [(17, .aload_n 2, 1, 0), (18, .invokevirtual 196, 3, 0), (21, .aload_n 2, 1, 0), (22, .getfield 134, 3, 0), (25, .invokestatic 110, 3, 0), (28, .invokevirtual 200, 3, 0), (31, .aload_n 0, 1, 0)],
  [(32, .getfield 45, 3, 0), (35, .ireturn, 1, 0)]]
set_option maxRecDepth 100000 in
theorem tX6_code_ok : pt_ok YX6_code.2.1 tX6_code = true := by decide +kernel
theorem nX6_code : (plainFor yX6_code && decide (yX6_code.cls = pt_own YX6_code.1)) = true := by decide +kernel
abbrev YX6_named : pt_Y := (0, cX6_named, 4, (some .boolean), ({ frames := 6, cells := 0, slots := 0, locals := 144 } : Room))
def tX6_named : pt_B := [
  [(0, .aload_n 0, 1, 0), (1, .iload_n 2, 1, 0), (2, .invokevirtual 163, 3, 0), (5, .astore_n 3, 1, 0), (6, .iload_n 1, 1, 0), (7, .invokestatic 75, 3, 0), (10, .ifCond .eq 7, 3, 17), (13, .aload_n 3, 1, 0), (14, .ifnonnull 5, 3, 19)],
  [(17, .iconst 0, 1, 0), (18, .ireturn, 1, 0), (19, .aload_n 0, 1, 0), (20, .getfield 16, 3, 0), (23, .aload_n 3, 1, 0), (24, .getfield 134, 3, 0), (27, .aload_n 0, 1, 0), (28, .getfield 30, 3, 0), (31, .aload_n 3, 1, 0)],
  [(32, .invokevirtual 196, 3, 0), (35, .invokevirtual 116, 3, 0), (38, .aload_n 0, 1, 0), (39, .iload_n 1, 1, 0), (40, .invokevirtual 88, 3, 0), (43, .iconst 1, 1, 0), (44, .ireturn, 1, 0)]]
set_option maxRecDepth 100000 in
theorem tX6_named_ok : pt_ok YX6_named.2.1 tX6_named = true := by decide +kernel
theorem nX6_named : (plainFor yX6_named && decide (yX6_named.cls = pt_own YX6_named.1)) = true := by decide +kernel
abbrev YX6_like : pt_Y := (0, cX6_like, 7, (some .int), ({ frames := 6, cells := 0, slots := 0, locals := 144 } : Room))
def tX6_like : pt_B := [
  [(0, .aload_n 0, 1, 0), (1, .iload_n 1, 1, 0), (2, .invokevirtual 163, 3, 0), (5, .astore_n 3, 1, 0), (6, .aload_n 0, 1, 0), (7, .iload_n 2, 1, 0), (8, .invokevirtual 163, 3, 0), (11, .astore 4, 2, 0), (13, .aload_n 3, 1, 0), (14, .ifnull 8, 3, 22)],
  [(17, .aload 4, 2, 0), (19, .ifnonnull 5, 3, 24), (22, .iconst (-1), 1, 0), (23, .ireturn, 1, 0), (24, .aload_n 3, 1, 0), (25, .getfield 134, 3, 0), (28, .aload 4, 2, 0), (30, .getfield 134, 3, 0)],
  [(33, .if_icmp .eq 5, 3, 38), (36, .iconst 0, 1, 0), (37, .ireturn, 1, 0), (38, .aload_n 0, 1, 0), (39, .getfield 30, 3, 0), (42, .aload_n 3, 1, 0), (43, .invokevirtual 204, 3, 0), (46, .aload_n 0, 1, 0), (47, .getfield 30, 3, 0)],
  [(50, .aload 4, 2, 0), (52, .invokevirtual 204, 3, 0), (55, .aload_n 3, 1, 0), (56, .getfield 134, 3, 0), (59, .invokestatic 110, 3, 0), (62, .istore 5, 2, 0)],
  [(64, .iconst 0, 1, 0), (65, .istore 6, 2, 0), (67, .aload_n 3, 1, 0), (68, .getfield 208, 3, 0), (71, .aload 4, 2, 0), (73, .getfield 208, 3, 0), (76, .iload 5, 2, 0), (78, .invokestatic 211, 3, 0)],
  [(81, .ifCond .ne 6, 3, 87), (84, .iinc 6 1, 3, 0), (87, .aload_n 3, 1, 0), (88, .getfield 215, 3, 0), (91, .aload 4, 2, 0), (93, .getfield 208, 3, 0)],
  [(96, .iload 5, 2, 0), (98, .invokestatic 211, 3, 0), (101, .ifCond .ne 6, 3, 107), (104, .iinc 6 2, 3, 0), (107, .iload 6, 2, 0), (109, .ireturn, 1, 0)]]
set_option maxRecDepth 100000 in
theorem tX6_like_ok : pt_ok YX6_like.2.1 tX6_like = true := by decide +kernel
theorem nX6_like : (plainFor yX6_like && decide (yX6_like.cls = pt_own YX6_like.1)) = true := by decide +kernel
abbrev YX6_swept : pt_Y := (0, cX6_swept, 4, (some .boolean), ({ frames := 4, cells := 0, slots := 0, locals := 96 } : Room))
def tX6_swept : pt_B := [
  [(0, .aload_n 0, 1, 0), (1, .iload_n 1, 1, 0), (2, .iload_n 2, 1, 0), (3, .invokevirtual 218, 3, 0), (6, .istore_n 3, 1, 0), (7, .aload_n 0, 1, 0), (8, .getfield 23, 3, 0), (11, .iconst 0, 1, 0), (12, .putfield 64, 3, 0), (15, .iload_n 3, 1, 0)],
  [(16, .ireturn, 1, 0)]]
set_option maxRecDepth 100000 in
theorem tX6_swept_ok : pt_ok YX6_swept.2.1 tX6_swept = true := by decide +kernel
theorem nX6_swept : (plainFor yX6_swept && decide (yX6_swept.cls = pt_own YX6_swept.1)) = true := by decide +kernel
abbrev YX6_sweptByTape : pt_Y := (0, cX6_sweptByTape, 3, (some .boolean), ({ frames := 3, cells := 0, slots := 0, locals := 74 } : Room))
def tX6_sweptByTape : pt_B := [
  [(0, .iload_n 1, 1, 0), (1, .invokestatic 75, 3, 0), (4, .ifCond .eq 25, 3, 29), (7, .iload_n 2, 1, 0), (8, .invokestatic 79, 3, 0), (11, .ifCond .eq 18, 3, 29), (14, .aload_n 0, 1, 0), (15, .getfield 37, 3, 0)],
  [(18, .aload_n 0, 1, 0), (19, .getfield 23, 3, 0), (22, .iload_n 2, 1, 0), (23, .invokevirtual 221, 3, 0), (26, .ifCond .ne 5, 3, 31), (29, .iconst 0, 1, 0), (30, .ireturn, 1, 0), (31, .aload_n 0, 1, 0)],
  [(32, .getfield 37, 3, 0), (35, .aload_n 0, 1, 0), (36, .getfield 16, 3, 0), (39, .iload_n 2, 1, 0), (40, .invokevirtual 225, 3, 0), (43, .aload_n 0, 1, 0), (44, .iload_n 1, 1, 0), (45, .invokevirtual 88, 3, 0)],
  [(48, .iconst 1, 1, 0), (49, .ireturn, 1, 0)]]
set_option maxRecDepth 100000 in
theorem tX6_sweptByTape_ok : pt_ok YX6_sweptByTape.2.1 tX6_sweptByTape = true := by decide +kernel
theorem nX6_sweptByTape : (plainFor yX6_sweptByTape && decide (yX6_sweptByTape.cls = pt_own YX6_sweptByTape.1)) = true := by decide +kernel
abbrev YX6_sweep : pt_Y := (0, cX6_sweep, 3, (some .int), ({ frames := 5, cells := 0, slots := 0, locals := 120 } : Room))
def tX6_sweep : pt_B := [
  [(0, .aload_n 0, 1, 0), (1, .iload_n 1, 1, 0), (2, .invokevirtual 120, 3, 0), (5, .astore_n 2, 1, 0), (6, .aload_n 2, 1, 0), (7, .ifnull 14, 3, 21), (10, .aload_n 0, 1, 0), (11, .getfield 37, 3, 0), (14, .aload_n 2, 1, 0), (15, .invokevirtual 229, 3, 0)],
  [(18, .ifCond .ne 5, 3, 23), (21, .iconst (-1), 1, 0), (22, .ireturn, 1, 0), (23, .aload_n 0, 1, 0), (24, .aload_n 0, 1, 0), (25, .getfield 37, 3, 0), (28, .getfield 233, 3, 0), (31, .aload_n 2, 1, 0)],
  [(32, .getfield 134, 3, 0), (35, .invokestatic 236, 3, 0), (38, .invokevirtual 200, 3, 0), (41, .aload_n 0, 1, 0), (42, .getfield 45, 3, 0), (45, .ireturn, 1, 0)]]
set_option maxRecDepth 100000 in
theorem tX6_sweep_ok : pt_ok YX6_sweep.2.1 tX6_sweep = true := by decide +kernel
theorem nX6_sweep : (plainFor yX6_sweep && decide (yX6_sweep.cls = pt_own YX6_sweep.1)) = true := by decide +kernel
abbrev YX6_octet : pt_Y := (0, cX6_octet, 2, (some .int), ({ frames := 0, cells := 0, slots := 0, locals := 0 } : Room))
def tX6_octet : pt_B := [
  [(0, .iload_n 1, 1, 0), (1, .ifCond .lt 11, 3, 12), (4, .iload_n 1, 1, 0), (5, .aload_n 0, 1, 0), (6, .getfield 45, 3, 0), (9, .if_icmp .lt 13, 3, 22), (15, .dup, 1, 0)],
  [(22, .aload_n 0, 1, 0), (23, .getfield 41, 3, 0), (26, .iload_n 1, 1, 0), (27, .iaload, 1, 0), (28, .ireturn, 1, 0)]]
set_option maxRecDepth 100000 in
theorem tX6_octet_ok : pt_ok YX6_octet.2.1 tX6_octet = true := by decide +kernel
theorem nX6_octet : (plainFor yX6_octet && decide (yX6_octet.cls = pt_own YX6_octet.1)) = true := by decide +kernel
abbrev YX6_figures : pt_Y := (0, cX6_figures, 7, (some .int), ({ frames := 6, cells := 0, slots := 0, locals := 144 } : Room))
def tX6_figures : pt_B := [
  [(0, .aload_n 0, 1, 0), (1, .iload_n 1, 1, 0), (2, .invokevirtual 163, 3, 0), (5, .astore 4, 2, 0), (7, .aload 4, 2, 0), (9, .ifnull 14, 3, 23), (12, .iload_n 2, 1, 0), (13, .iconst 3, 1, 0), (14, .if_icmp .lt 9, 3, 23)],
  [(17, .iload_n 2, 1, 0), (18, .bipush 6, 2, 0), (20, .if_icmp .le 5, 3, 25), (23, .iconst (-1), 1, 0), (24, .ireturn, 1, 0), (25, .iconst 0, 1, 0), (26, .istore 5, 2, 0), (28, .iconst 0, 1, 0), (29, .istore 6, 2, 0), (31, .iload 6, 2, 0)],
  [(33, .aload 4, 2, 0), (35, .invokevirtual 150, 3, 0), (38, .if_icmp .gt 45, 3, 83), (41, .iload 6, 2, 0), (43, .invokestatic 172, 3, 0), (46, .iload_n 2, 1, 0), (47, .if_icmp .ne 30, 3, 77)],
  [(50, .aload 4, 2, 0), (52, .iload 6, 2, 0), (54, .invokestatic 241, 3, 0), (57, .ifCond .eq 20, 3, 77), (60, .iload_n 3, 1, 0), (61, .ifCond .eq 13, 3, 74)],
  [(64, .aload 4, 2, 0), (66, .iload 6, 2, 0), (68, .invokestatic 245, 3, 0), (71, .ifCond .ne 6, 3, 77), (74, .iinc 5 1, 3, 0), (77, .iinc 6 1, 3, 0)],
  [(80, .goto (-49), 3, 31), (83, .iload 5, 2, 0), (85, .ireturn, 1, 0)]]
set_option maxRecDepth 100000 in
theorem tX6_figures_ok : pt_ok YX6_figures.2.1 tX6_figures = true := by decide +kernel
theorem nX6_figures : (plainFor yX6_figures && decide (yX6_figures.cls = pt_own YX6_figures.1)) = true := by decide +kernel
abbrev YX6_lines : pt_Y := (0, cX6_lines, 7, (some .int), ({ frames := 2, cells := 0, slots := 0, locals := 41 } : Room))
def tX6_lines : pt_B := [
  [(0, .aload_n 0, 1, 0), (1, .iload_n 1, 1, 0), (2, .invokevirtual 120, 3, 0), (5, .astore_n 3, 1, 0), (6, .aload_n 3, 1, 0), (7, .ifnonnull 5, 3, 12), (10, .iconst (-1), 1, 0), (11, .ireturn, 1, 0), (12, .iconst 0, 1, 0), (13, .istore 4, 2, 0), (15, .iconst 0, 1, 0)],
  [(16, .istore 5, 2, 0), (18, .iload 5, 2, 0), (20, .aload_n 3, 1, 0), (21, .getfield 134, 3, 0), (24, .if_icmp .ge 48, 3, 72), (27, .iload 5, 2, 0), (29, .iconst 1, 1, 0), (30, .iadd, 1, 0), (31, .istore 6, 2, 0)],
  [(33, .iload 6, 2, 0), (35, .aload_n 3, 1, 0), (36, .getfield 134, 3, 0), (39, .if_icmp .ge 27, 3, 66), (42, .aload_n 3, 1, 0), (43, .iload 5, 2, 0), (45, .iload 6, 2, 0), (47, .invokevirtual 248, 3, 0)],
  [(50, .invokestatic 172, 3, 0), (53, .iload_n 2, 1, 0), (54, .if_icmp .ne 6, 3, 60), (57, .iinc 4 1, 3, 0), (60, .iinc 6 1, 3, 0), (63, .goto (-30), 3, 33)],
  [(66, .iinc 5 1, 3, 0), (69, .goto (-51), 3, 18), (72, .iload 4, 2, 0), (74, .ireturn, 1, 0)]]
set_option maxRecDepth 100000 in
theorem tX6_lines_ok : pt_ok YX6_lines.2.1 tX6_lines = true := by decide +kernel
theorem nX6_lines : (plainFor yX6_lines && decide (yX6_lines.cls = pt_own YX6_lines.1)) = true := by decide +kernel
abbrev YX6_inside : pt_Y := (0, cX6_inside, 9, (some .int), ({ frames := 2, cells := 0, slots := 0, locals := 44 } : Room))
def tX6_inside : pt_B := [
  [(0, .aload_n 0, 1, 0), (1, .iload_n 1, 1, 0), (2, .invokevirtual 120, 3, 0), (5, .astore 6, 2, 0), (7, .aload 6, 2, 0), (9, .ifnull 44, 3, 53), (12, .aload 6, 2, 0), (14, .iload_n 2, 1, 0), (15, .iload_n 3, 1, 0)],
  [(16, .iload 4, 2, 0), (18, .invokevirtual 124, 3, 0), (21, .ifCond .eq 32, 3, 53), (24, .aload 6, 2, 0), (26, .iload 5, 2, 0), (28, .invokevirtual 147, 3, 0), (31, .ifCond .eq 22, 3, 53)],
  [(34, .iload 5, 2, 0), (36, .iload_n 2, 1, 0), (37, .if_icmp .eq 16, 3, 53), (40, .iload 5, 2, 0), (42, .iload_n 3, 1, 0), (43, .if_icmp .eq 10, 3, 53), (46, .iload 5, 2, 0)],
  [(48, .iload 4, 2, 0), (50, .if_icmp .ne 5, 3, 55), (53, .iconst (-1), 1, 0), (54, .ireturn, 1, 0), (55, .aload 6, 2, 0), (57, .iload_n 2, 1, 0), (58, .iload_n 3, 1, 0), (59, .iload 4, 2, 0), (61, .invokevirtual 128, 3, 0)],
  [(64, .istore 7, 2, 0), (66, .aload 6, 2, 0), (68, .iload_n 2, 1, 0), (69, .iload_n 3, 1, 0), (70, .iload 5, 2, 0), (72, .invokevirtual 128, 3, 0), (75, .iload 7, 2, 0), (77, .if_icmp .ne 37, 3, 114)],
  [(80, .aload 6, 2, 0), (82, .iload_n 3, 1, 0), (83, .iload 4, 2, 0), (85, .iload 5, 2, 0), (87, .invokevirtual 128, 3, 0), (90, .iload 7, 2, 0), (92, .if_icmp .ne 22, 3, 114), (95, .aload 6, 2, 0)],
  [(97, .iload 4, 2, 0), (99, .iload_n 2, 1, 0), (100, .iload 5, 2, 0), (102, .invokevirtual 128, 3, 0), (105, .iload 7, 2, 0), (107, .if_icmp .ne 7, 3, 114), (110, .iconst 1, 1, 0), (111, .goto 4, 3, 115)],
  [(114, .iconst 0, 1, 0), (115, .istore 8, 2, 0), (117, .iload 8, 2, 0), (119, .ifCond .eq 7, 3, 126), (122, .iconst 1, 1, 0), (123, .goto 4, 3, 127), (126, .iconst 0, 1, 0), (127, .ireturn, 1, 0)]]
set_option maxRecDepth 100000 in
theorem tX6_inside_ok : pt_ok YX6_inside.2.1 tX6_inside = true := by decide +kernel
theorem nX6_inside : (plainFor yX6_inside && decide (yX6_inside.cls = pt_own YX6_inside.1)) = true := by decide +kernel
abbrev YX6_kinds : pt_Y := (0, cX6_kinds, 3, (some .int), ({ frames := 1, cells := 0, slots := 0, locals := 20 } : Room))
def tX6_kinds : pt_B := [
  [(0, .iload_n 1, 1, 0), (1, .invokestatic 252, 3, 0), (4, .arraylength, 1, 0), (5, .istore_n 2, 1, 0), (6, .iload_n 2, 1, 0), (7, .ifCond .ne 7, 3, 14), (10, .iconst (-1), 1, 0), (11, .goto 4, 3, 15), (14, .iload_n 2, 1, 0), (15, .ireturn, 1, 0)]]
set_option maxRecDepth 100000 in
theorem tX6_kinds_ok : pt_ok YX6_kinds.2.1 tX6_kinds = true := by decide +kernel
theorem nX6_kinds : (plainFor yX6_kinds && decide (yX6_kinds.cls = pt_own YX6_kinds.1)) = true := by decide +kernel
abbrev YX6_kind : pt_Y := (0, cX6_kind, 7, (some .boolean), ({ frames := 3, cells := 0, slots := 0, locals := 75 } : Room))
def tX6_kind : pt_B := [
  [(0, .iload_n 2, 1, 0), (1, .invokestatic 252, 3, 0), (4, .astore 4, 2, 0), (6, .iload_n 1, 1, 0), (7, .invokestatic 75, 3, 0), (10, .ifCond .eq 14, 3, 24), (13, .iload_n 3, 1, 0), (14, .ifCond .lt 10, 3, 24)],
  [(17, .iload_n 3, 1, 0), (18, .aload 4, 2, 0), (20, .arraylength, 1, 0), (21, .if_icmp .lt 5, 3, 26), (24, .iconst 0, 1, 0), (25, .ireturn, 1, 0), (26, .iload_n 2, 1, 0), (27, .invokestatic 110, 3, 0), (30, .istore 5, 2, 0)],
  [(32, .iconst 0, 1, 0), (33, .istore 6, 2, 0), (35, .iload 6, 2, 0), (37, .iload 5, 2, 0), (39, .if_icmp .ge 39, 3, 78), (42, .aload_n 0, 1, 0), (43, .getfield 61, 3, 0), (46, .iload 6, 2, 0)],
  [(48, .aload 4, 2, 0), (50, .iload_n 3, 1, 0), (51, .iaload, 1, 0), (52, .iload 5, 2, 0), (54, .iconst 1, 1, 0), (55, .isub, 1, 0), (56, .iload 6, 2, 0), (58, .isub, 1, 0), (59, .ishr, 1, 0), (60, .iconst 1, 1, 0), (61, .iand, 1, 0), (62, .iconst 1, 1, 0), (63, .if_icmp .ne 7, 3, 70)],
  [(66, .iconst 2, 1, 0), (67, .goto 4, 3, 71), (70, .iconst 1, 1, 0), (71, .iastore, 1, 0), (72, .iinc 6 1, 3, 0), (75, .goto (-40), 3, 35), (78, .aload_n 0, 1, 0), (79, .getfield 16, 3, 0)],
  [(82, .iload_n 2, 1, 0), (83, .aload_n 0, 1, 0), (84, .getfield 61, 3, 0), (87, .invokevirtual 116, 3, 0), (90, .aload_n 0, 1, 0), (91, .iload_n 1, 1, 0), (92, .invokevirtual 88, 3, 0), (95, .iconst 1, 1, 0)],
  [(96, .ireturn, 1, 0)]]
set_option maxRecDepth 100000 in
theorem tX6_kind_ok : pt_ok YX6_kind.2.1 tX6_kind = true := by decide +kernel
theorem nX6_kind : (plainFor yX6_kind && decide (yX6_kind.cls = pt_own YX6_kind.1)) = true := by decide +kernel
abbrev YX6_which : pt_Y := (0, cX6_which, 6, (some .int), ({ frames := 6, cells := 0, slots := 0, locals := 144 } : Room))
def tX6_which : pt_B := [
  [(0, .aload_n 0, 1, 0), (1, .iload_n 1, 1, 0), (2, .invokevirtual 163, 3, 0), (5, .astore_n 2, 1, 0), (6, .aload_n 2, 1, 0), (7, .ifnonnull 5, 3, 12), (10, .iconst (-1), 1, 0), (11, .ireturn, 1, 0), (12, .aload_n 2, 1, 0), (13, .getfield 134, 3, 0)],
  [(16, .invokestatic 252, 3, 0), (19, .astore_n 3, 1, 0), (20, .aload_n 3, 1, 0), (21, .arraylength, 1, 0), (22, .ifCond .ne 5, 3, 27), (25, .iconst (-1), 1, 0), (26, .ireturn, 1, 0), (27, .aload_n 0, 1, 0), (28, .getfield 30, 3, 0), (31, .aload_n 2, 1, 0)],
  [(32, .invokevirtual 196, 3, 0), (35, .aload_n 2, 1, 0), (36, .getfield 134, 3, 0), (39, .invokestatic 110, 3, 0), (42, .invokestatic 256, 3, 0), (45, .istore 4, 2, 0), (47, .iconst 0, 1, 0)],
  [(48, .istore 5, 2, 0), (50, .iload 5, 2, 0), (52, .aload_n 3, 1, 0), (53, .arraylength, 1, 0), (54, .if_icmp .ge 21, 3, 75), (57, .aload_n 3, 1, 0), (58, .iload 5, 2, 0), (60, .iaload, 1, 0), (61, .iload 4, 2, 0), (63, .if_icmp .ne 6, 3, 69)],
  [(66, .iload 5, 2, 0), (68, .ireturn, 1, 0), (69, .iinc 5 1, 3, 0), (72, .goto (-22), 3, 50), (75, .iconst (-1), 1, 0), (76, .ireturn, 1, 0)]]
set_option maxRecDepth 100000 in
theorem tX6_which_ok : pt_ok YX6_which.2.1 tX6_which = true := by decide +kernel
theorem nX6_which : (plainFor yX6_which && decide (yX6_which.cls = pt_own YX6_which.1)) = true := by decide +kernel
abbrev YX6_points : pt_Y := (0, cX6_points, 2, (some .int), ({ frames := 1, cells := 0, slots := 0, locals := 20 } : Room))
def tX6_points : pt_B := [
  [(0, .iload_n 1, 1, 0), (1, .invokestatic 75, 3, 0), (4, .ifCond .eq 15, 3, 19), (7, .aload_n 0, 1, 0), (8, .getfield 11, 3, 0), (11, .iload_n 1, 1, 0), (12, .aaload, 1, 0), (13, .getfield 134, 3, 0)],
  [(16, .goto 4, 3, 20), (19, .iconst 0, 1, 0), (20, .ireturn, 1, 0)]]
set_option maxRecDepth 100000 in
theorem tX6_points_ok : pt_ok YX6_points.2.1 tX6_points = true := by decide +kernel
theorem nX6_points : (plainFor yX6_points && decide (yX6_points.cls = pt_own YX6_points.1)) = true := by decide +kernel
abbrev YX6_isSlot : pt_Y := (0, cX6_isSlot, 1, (some .boolean), ({ frames := 0, cells := 0, slots := 0, locals := 0 } : Room))
def tX6_isSlot : pt_B := [
  [(0, .iload_n 0, 1, 0), (1, .ifCond .lt 13, 3, 14), (4, .iload_n 0, 1, 0), (5, .bipush 6, 2, 0), (7, .if_icmp .ge 7, 3, 14), (10, .iconst 1, 1, 0), (11, .goto 4, 3, 15), (14, .iconst 0, 1, 0), (15, .ireturn, 1, 0)]]
set_option maxRecDepth 100000 in
theorem tX6_isSlot_ok : pt_ok YX6_isSlot.2.1 tX6_isSlot = true := by decide +kernel
theorem nX6_isSlot : (plainFor yX6_isSlot && decide (yX6_isSlot.cls = pt_own YX6_isSlot.1)) = true := by decide +kernel
abbrev YX6_isSize : pt_Y := (0, cX6_isSize, 1, (some .boolean), ({ frames := 0, cells := 0, slots := 0, locals := 0 } : Room))
def tX6_isSize : pt_B := [
  [(0, .iload_n 0, 1, 0), (1, .iconst 3, 1, 0), (2, .if_icmp .lt 13, 3, 15), (5, .iload_n 0, 1, 0), (6, .bipush 10, 2, 0), (8, .if_icmp .gt 7, 3, 15), (11, .iconst 1, 1, 0), (12, .goto 4, 3, 16), (15, .iconst 0, 1, 0)],
  [(16, .ireturn, 1, 0)]]
set_option maxRecDepth 100000 in
theorem tX6_isSize_ok : pt_ok YX6_isSize.2.1 tX6_isSize = true := by decide +kernel
theorem nX6_isSize : (plainFor yX6_isSize && decide (yX6_isSize.cls = pt_own YX6_isSize.1)) = true := by decide +kernel
abbrev YX6_turnsOf : pt_Y := (0, cX6_turnsOf, 1, (some .int), ({ frames := 0, cells := 0, slots := 0, locals := 0 } : Room))
def tX6_turnsOf : pt_B := [
  [(0, .iload_n 0, 1, 0), (1, .iload_n 0, 1, 0), (2, .iconst 1, 1, 0), (3, .isub, 1, 0), (4, .imul, 1, 0), (5, .iload_n 0, 1, 0), (6, .iconst 2, 1, 0), (7, .isub, 1, 0), (8, .imul, 1, 0), (9, .bipush 6, 2, 0), (11, .idiv, 1, 0), (12, .ireturn, 1, 0)]]
set_option maxRecDepth 100000 in
theorem tX6_turnsOf_ok : pt_ok YX6_turnsOf.2.1 tX6_turnsOf = true := by decide +kernel
theorem nX6_turnsOf : (plainFor yX6_turnsOf && decide (yX6_turnsOf.cls = pt_own YX6_turnsOf.1)) = true := by decide +kernel
abbrev YX6_swapsOf : pt_Y := (0, cX6_swapsOf, 1, (some .int), ({ frames := 0, cells := 0, slots := 0, locals := 0 } : Room))
def tX6_swapsOf : pt_B := [
  [(0, .iload_n 0, 1, 0), (1, .iload_n 0, 1, 0), (2, .iconst 1, 1, 0), (3, .isub, 1, 0), (4, .imul, 1, 0), (5, .iconst 2, 1, 0), (6, .idiv, 1, 0), (7, .ireturn, 1, 0)]]
set_option maxRecDepth 100000 in
theorem tX6_swapsOf_ok : pt_ok YX6_swapsOf.2.1 tX6_swapsOf = true := by decide +kernel
theorem nX6_swapsOf : (plainFor yX6_swapsOf && decide (yX6_swapsOf.cls = pt_own YX6_swapsOf.1)) = true := by decide +kernel
abbrev YX6_kindsOf : pt_Y := (0, cX6_kindsOf, 1, (some (.array .int)), ({ frames := 0, cells := 0, slots := 0, locals := 0 } : Room))
def tX6_kindsOf : pt_B := [
  [(0, .iload_n 0, 1, 0)],
  [],
  [(32, .getstatic 260, 3, 0), (35, .areturn, 1, 0), (36, .getstatic 263, 3, 0), (39, .areturn, 1, 0), (40, .getstatic 266, 3, 0), (43, .areturn, 1, 0), (44, .getstatic 269, 3, 0), (47, .areturn, 1, 0)],
  [(48, .getstatic 272, 3, 0), (51, .areturn, 1, 0)]]
set_option maxRecDepth 100000 in
theorem tX6_kindsOf_ok : pt_ok YX6_kindsOf.2.1 tX6_kindsOf = true := by decide +kernel
theorem nX6_kindsOf : (plainFor yX6_kindsOf && decide (yX6_kindsOf.cls = pt_own YX6_kindsOf.1)) = true := by decide +kernel
abbrev YX6_tableAt : pt_Y := (0, cX6_tableAt, 2, (some (.object "PointTables$Table")), ({ frames := 1, cells := 0, slots := 0, locals := 20 } : Room))
def tX6_tableAt : pt_B := [
  [(0, .iload_n 1, 1, 0), (1, .invokestatic 75, 3, 0), (4, .ifCond .eq 24, 3, 28), (7, .aload_n 0, 1, 0), (8, .getfield 11, 3, 0), (11, .iload_n 1, 1, 0), (12, .aaload, 1, 0), (13, .getfield 134, 3, 0)],
  [(16, .ifCond .le 12, 3, 28), (19, .aload_n 0, 1, 0), (20, .getfield 11, 3, 0), (23, .iload_n 1, 1, 0), (24, .aaload, 1, 0), (25, .goto 4, 3, 29), (28, .aconst_null, 1, 0), (29, .areturn, 1, 0)]]
set_option maxRecDepth 100000 in
theorem tX6_tableAt_ok : pt_ok YX6_tableAt.2.1 tX6_tableAt = true := by decide +kernel
theorem nX6_tableAt : (plainFor yX6_tableAt && decide (yX6_tableAt.cls = pt_own YX6_tableAt.1)) = true := by decide +kernel
abbrev YX6_lawfulAt : pt_Y := (0, cX6_lawfulAt, 3, (some (.object "PointTables$Table")), ({ frames := 5, cells := 0, slots := 0, locals := 122 } : Room))
def tX6_lawfulAt : pt_B := [
  [(0, .aload_n 0, 1, 0), (1, .iload_n 1, 1, 0), (2, .invokevirtual 120, 3, 0), (5, .astore_n 2, 1, 0), (6, .aload_n 2, 1, 0), (7, .ifnull 14, 3, 21), (10, .aload_n 2, 1, 0), (11, .invokestatic 157, 3, 0), (14, .ifCond .ne 7, 3, 21)],
  [(17, .aload_n 2, 1, 0), (18, .goto 4, 3, 22), (21, .aconst_null, 1, 0), (22, .areturn, 1, 0)]]
set_option maxRecDepth 100000 in
theorem tX6_lawfulAt_ok : pt_ok YX6_lawfulAt.2.1 tX6_lawfulAt = true := by decide +kernel
theorem nX6_lawfulAt : (plainFor yX6_lawfulAt && decide (yX6_lawfulAt.cls = pt_own YX6_lawfulAt.1)) = true := by decide +kernel
abbrev YX6_keepSpare : pt_Y := (0, cX6_keepSpare, 3, none, ({ frames := 1, cells := 0, slots := 0, locals := 20 } : Room))
def tX6_keepSpare : pt_B := [
  [(0, .iload_n 1, 1, 0), (1, .invokestatic 75, 3, 0), (4, .ifCond .eq 25, 3, 29), (7, .aload_n 0, 1, 0), (8, .getfield 11, 3, 0), (11, .iload_n 1, 1, 0), (12, .aaload, 1, 0), (13, .astore_n 2, 1, 0), (14, .aload_n 0, 1, 0), (15, .getfield 11, 3, 0)],
  [(18, .iload_n 1, 1, 0), (19, .aload_n 0, 1, 0), (20, .getfield 16, 3, 0), (23, .aastore, 1, 0), (24, .aload_n 0, 1, 0), (25, .aload_n 2, 1, 0), (26, .putfield 16, 3, 0), (29, .return_, 1, 0)]]
set_option maxRecDepth 100000 in
theorem tX6_keepSpare_ok : pt_ok YX6_keepSpare.2.1 tX6_keepSpare = true := by decide +kernel
theorem nX6_keepSpare : (plainFor yX6_keepSpare && decide (yX6_keepSpare.cls = pt_own YX6_keepSpare.1)) = true := by decide +kernel
abbrev YX6_setOut : pt_Y := (0, cX6_setOut, 3, none, ({ frames := 1, cells := 0, slots := 0, locals := 21 } : Room))
def tX6_setOut : pt_B := [
  [(0, .aload_n 0, 1, 0), (1, .iload_n 2, 1, 0), (2, .aload_n 1, 1, 0), (3, .arraylength, 1, 0), (4, .aload_n 0, 1, 0), (5, .getfield 41, 3, 0), (8, .arraylength, 1, 0), (9, .invokestatic 275, 3, 0), (12, .invokestatic 275, 3, 0), (15, .putfield 45, 3, 0)],
  [(18, .aload_n 1, 1, 0), (19, .iconst 0, 1, 0), (20, .aload_n 0, 1, 0), (21, .getfield 41, 3, 0), (24, .iconst 0, 1, 0), (25, .aload_n 0, 1, 0), (26, .getfield 45, 3, 0), (29, .invokestatic 278, 3, 0)],
  [(32, .return_, 1, 0)]]
set_option maxRecDepth 100000 in
theorem tX6_setOut_ok : pt_ok YX6_setOut.2.1 tX6_setOut = true := by decide +kernel
theorem nX6_setOut : (plainFor yX6_setOut && decide (yX6_setOut.cls = pt_own YX6_setOut.1)) = true := by decide +kernel
end
section
/-! methods: their instructions, by program -/
abbrev YX7_thrown : pt_Y := (7, cX7_thrown, 1, (some .int), ({ frames := 0, cells := 0, slots := 0, locals := 0 } : Room))
def tX7_thrown : pt_B := [
  [(0, .aload_n 0, 1, 0), (1, .getfield 64, 3, 0), (4, .ireturn, 1, 0)]]
set_option maxRecDepth 100000 in
theorem tX7_thrown_ok : pt_ok YX7_thrown.2.1 tX7_thrown = true := by decide +kernel
theorem nX7_thrown : (plainFor yX7_thrown && decide (yX7_thrown.cls = pt_own YX7_thrown.1)) = true := by decide +kernel
abbrev YX7_throwsIf : pt_Y := (7, cX7_throwsIf, 2, (some .boolean), ({ frames := 0, cells := 0, slots := 0, locals := 0 } : Room))
def tX7_throwsIf : pt_B := [
  [(0, .aload_n 0, 1, 0), (1, .iload_n 1, 1, 0), (2, .ifCond .eq 7, 3, 9), (5, .iconst 1, 1, 0), (6, .goto 4, 3, 10), (9, .iconst 0, 1, 0), (10, .putfield 64, 3, 0), (13, .iload_n 1, 1, 0), (14, .ireturn, 1, 0)]]
set_option maxRecDepth 100000 in
theorem tX7_throwsIf_ok : pt_ok YX7_throwsIf.2.1 tX7_throwsIf = true := by decide +kernel
theorem nX7_throwsIf : (plainFor yX7_throwsIf && decide (yX7_throwsIf.cls = pt_own YX7_throwsIf.1)) = true := by decide +kernel
abbrev YX7_feed : pt_Y := (7, cX7_feed, 6, (some .int), ({ frames := 1, cells := 0, slots := 0, locals := 22 } : Room))
def tX7_feed : pt_B := [
  [(0, .aload_n 0, 1, 0), (1, .iconst 0, 1, 0), (2, .putfield 64, 3, 0), (5, .aload_n 0, 1, 0), (6, .getfield 67, 3, 0), (9, .bipush 20, 2, 0), (11, .iadd, 1, 0), (12, .sipush 140, 3, 0), (15, .if_icmp .le 5, 3, 20)],
  [(18, .iconst (-1), 1, 0), (19, .ireturn, 1, 0), (20, .aload_n 0, 1, 0), (21, .iload_n 1, 1, 0), (22, .invokevirtual 70, 3, 0), (25, .aload_n 0, 1, 0), (26, .iload_n 2, 1, 0), (27, .invokevirtual 70, 3, 0), (30, .aload_n 0, 1, 0), (31, .iload_n 3, 1, 0)],
  [(32, .invokevirtual 70, 3, 0), (35, .aload_n 0, 1, 0), (36, .iload 4, 2, 0), (38, .invokevirtual 70, 3, 0), (41, .aload_n 0, 1, 0), (42, .iload 5, 2, 0), (44, .invokevirtual 70, 3, 0), (47, .aload_n 0, 1, 0)],
  [(48, .getfield 67, 3, 0), (51, .ireturn, 1, 0)]]
set_option maxRecDepth 100000 in
theorem tX7_feed_ok : pt_ok YX7_feed.2.1 tX7_feed = true := by decide +kernel
theorem nX7_feed : (plainFor yX7_feed && decide (yX7_feed.cls = pt_own YX7_feed.1)) = true := by decide +kernel
abbrev YX7_four : pt_Y := (7, cX7_four, 3, none, ({ frames := 0, cells := 0, slots := 0, locals := 0 } : Room))
def tX7_four : pt_B := [
  [(0, .bipush 24, 2, 0), (2, .istore_n 2, 1, 0), (3, .iload_n 2, 1, 0), (4, .ifCond .lt 32, 3, 36), (7, .aload_n 0, 1, 0), (8, .getfield 7, 3, 0), (11, .aload_n 0, 1, 0), (12, .getfield 67, 3, 0), (15, .iload_n 1, 1, 0)],
  [(16, .iload_n 2, 1, 0), (17, .ishr, 1, 0), (18, .i2b, 1, 0), (19, .bastore, 1, 0), (20, .aload_n 0, 1, 0), (21, .dup, 1, 0), (22, .getfield 67, 3, 0), (25, .iconst 1, 1, 0), (26, .iadd, 1, 0), (27, .putfield 67, 3, 0), (30, .iinc 2 (-8), 3, 0)],
  [(33, .goto (-30), 3, 3), (36, .return_, 1, 0)]]
set_option maxRecDepth 100000 in
theorem tX7_four_ok : pt_ok YX7_four.2.1 tX7_four = true := by decide +kernel
theorem nX7_four : (plainFor yX7_four && decide (yX7_four.cls = pt_own YX7_four.1)) = true := by decide +kernel
abbrev YX7_end : pt_Y := (7, cX7_end, 2, (some .boolean), ({ frames := 0, cells := 0, slots := 0, locals := 0 } : Room))
def tX7_end : pt_B := [
  [(0, .aload_n 0, 1, 0), (1, .iconst 0, 1, 0), (2, .putfield 64, 3, 0), (5, .iload_n 1, 1, 0), (6, .ifCond .lt 11, 3, 17), (9, .iload_n 1, 1, 0), (10, .aload_n 0, 1, 0), (11, .getfield 67, 3, 0), (14, .if_icmp .le 5, 3, 19)],
  [(17, .iconst 0, 1, 0), (18, .ireturn, 1, 0), (19, .aload_n 0, 1, 0), (20, .iload_n 1, 1, 0), (21, .putfield 67, 3, 0), (24, .iconst 1, 1, 0), (25, .ireturn, 1, 0)]]
set_option maxRecDepth 100000 in
theorem tX7_end_ok : pt_ok YX7_end.2.1 tX7_end = true := by decide +kernel
theorem nX7_end : (plainFor yX7_end && decide (yX7_end.cls = pt_own YX7_end.1)) = true := by decide +kernel
abbrev YX7_taken : pt_Y := (7, cX7_taken, 1, none, ({ frames := 0, cells := 0, slots := 0, locals := 0 } : Room))
def tX7_taken : pt_B := [
  [(0, .aload_n 0, 1, 0), (1, .aload_n 0, 1, 0), (2, .getfield 67, 3, 0), (5, .putfield 74, 3, 0), (8, .aload_n 0, 1, 0), (9, .iconst 0, 1, 0), (10, .putfield 67, 3, 0), (13, .return_, 1, 0)]]
set_option maxRecDepth 100000 in
theorem tX7_taken_ok : pt_ok YX7_taken.2.1 tX7_taken = true := by decide +kernel
theorem nX7_taken : (plainFor yX7_taken && decide (yX7_taken.cls = pt_own YX7_taken.1)) = true := by decide +kernel
abbrev YX7_three : pt_Y := (7, cX7_three, 3, (some .int), ({ frames := 0, cells := 0, slots := 0, locals := 0 } : Room))
def tX7_three : pt_B := [
  [(0, .iload_n 2, 1, 0), (1, .iload_n 2, 1, 0), (2, .iconst 1, 1, 0), (3, .isub, 1, 0), (4, .imul, 1, 0), (5, .iload_n 2, 1, 0), (6, .iconst 2, 1, 0), (7, .isub, 1, 0), (8, .imul, 1, 0), (9, .bipush 6, 2, 0), (11, .idiv, 1, 0), (12, .iload_n 1, 1, 0), (13, .iload_n 1, 1, 0), (14, .iconst 1, 1, 0), (15, .isub, 1, 0)],
  [(16, .imul, 1, 0), (17, .iconst 2, 1, 0), (18, .idiv, 1, 0), (19, .iadd, 1, 0), (20, .iload_n 0, 1, 0), (21, .iadd, 1, 0), (22, .ireturn, 1, 0)]]
set_option maxRecDepth 100000 in
theorem tX7_three_ok : pt_ok YX7_three.2.1 tX7_three = true := by decide +kernel
theorem nX7_three : (plainFor yX7_three && decide (yX7_three.cls = pt_own YX7_three.1)) = true := by decide +kernel
abbrev YX7_turnAt : pt_Y := (7, cX7_turnAt, 10, (some .int), ({ frames := 1, cells := 0, slots := 0, locals := 22 } : Room))
def tX7_turnAt : pt_B := [
  [(0, .iload_n 2, 1, 0), (1, .iload_n 3, 1, 0), (2, .if_icmp .ge 18, 3, 20), (5, .iload_n 2, 1, 0), (6, .iload 4, 2, 0), (8, .if_icmp .ge 7, 3, 15), (11, .iload_n 2, 1, 0), (12, .goto 20, 3, 32), (15, .iload 4, 2, 0)],
  [(17, .goto 15, 3, 32), (20, .iload_n 3, 1, 0), (21, .iload 4, 2, 0), (23, .if_icmp .ge 7, 3, 30), (26, .iload_n 3, 1, 0), (27, .goto 5, 3, 32), (30, .iload 4, 2, 0)],
  [(32, .istore 5, 2, 0), (34, .iload_n 2, 1, 0), (35, .iload_n 3, 1, 0), (36, .if_icmp .le 18, 3, 54), (39, .iload_n 2, 1, 0), (40, .iload 4, 2, 0), (42, .if_icmp .le 7, 3, 49), (45, .iload_n 2, 1, 0), (46, .goto 20, 3, 66)],
  [(49, .iload 4, 2, 0), (51, .goto 15, 3, 66), (54, .iload_n 3, 1, 0), (55, .iload 4, 2, 0), (57, .if_icmp .le 7, 3, 64), (60, .iload_n 3, 1, 0), (61, .goto 5, 3, 66)],
  [(64, .iload 4, 2, 0), (66, .istore 6, 2, 0), (68, .iload_n 2, 1, 0), (69, .iload_n 3, 1, 0), (70, .iadd, 1, 0), (71, .iload 4, 2, 0), (73, .iadd, 1, 0), (74, .iload 5, 2, 0), (76, .isub, 1, 0), (77, .iload 6, 2, 0), (79, .isub, 1, 0)],
  [(80, .istore 7, 2, 0), (82, .iload_n 2, 1, 0), (83, .iload 5, 2, 0), (85, .if_icmp .ne 9, 3, 94), (88, .iload_n 3, 1, 0), (89, .iload 7, 2, 0), (91, .if_icmp .eq 29, 3, 120), (94, .iload_n 3, 1, 0), (95, .iload 5, 2, 0)],
  [(97, .if_icmp .ne 10, 3, 107), (100, .iload 4, 2, 0), (102, .iload 7, 2, 0), (104, .if_icmp .eq 16, 3, 120), (107, .iload 4, 2, 0), (109, .iload 5, 2, 0), (111, .if_icmp .ne 13, 3, 124)],
  [(114, .iload_n 2, 1, 0), (115, .iload 7, 2, 0), (117, .if_icmp .ne 7, 3, 124), (120, .iconst 1, 1, 0), (121, .goto 4, 3, 125), (124, .iconst 0, 1, 0), (125, .istore 8, 2, 0), (127, .aload_n 0, 1, 0)],
  [(128, .getfield 17, 3, 0), (131, .iload_n 1, 1, 0), (132, .iload 5, 2, 0), (134, .iload 7, 2, 0), (136, .iload 6, 2, 0), (138, .invokestatic 77, 3, 0), (141, .iadd, 1, 0), (142, .iaload, 1, 0), (143, .istore 9, 2, 0)],
  [(145, .iload 8, 2, 0), (147, .ifCond .eq 8, 3, 155), (150, .iload 9, 2, 0), (152, .goto 6, 3, 158), (155, .iload 9, 2, 0), (157, .ineg, 1, 0), (158, .ireturn, 1, 0)]]
set_option maxRecDepth 100000 in
theorem tX7_turnAt_ok : pt_ok YX7_turnAt.2.1 tX7_turnAt = true := by decide +kernel
theorem nX7_turnAt : (plainFor yX7_turnAt && decide (yX7_turnAt.cls = pt_own YX7_turnAt.1)) = true := by decide +kernel
abbrev YX7_left : pt_Y := (7, cX7_left, 5, (some .boolean), ({ frames := 2, cells := 0, slots := 0, locals := 51 } : Room))
def tX7_left : pt_B := [
  [(0, .aload_n 0, 1, 0), (1, .iload_n 1, 1, 0), (2, .iload_n 2, 1, 0), (3, .iload_n 3, 1, 0), (4, .iload 4, 2, 0), (6, .invokevirtual 81, 3, 0), (9, .iconst 1, 1, 0), (10, .if_icmp .ne 7, 3, 17), (13, .iconst 1, 1, 0), (14, .goto 4, 3, 18)],
  [(17, .iconst 0, 1, 0), (18, .ireturn, 1, 0)]]
set_option maxRecDepth 100000 in
theorem tX7_left_ok : pt_ok YX7_left.2.1 tX7_left = true := by decide +kernel
theorem nX7_left : (plainFor yX7_left && decide (yX7_left.cls = pt_own YX7_left.1)) = true := by decide +kernel
abbrev YX7_set : pt_Y := (7, cX7_set, 6, none, ({ frames := 1, cells := 0, slots := 0, locals := 22 } : Room))
def tX7_set : pt_B := [
  [(0, .aload_n 0, 1, 0), (1, .getfield 17, 3, 0), (4, .iload_n 1, 1, 0), (5, .iload_n 2, 1, 0), (6, .iload_n 3, 1, 0), (7, .iload 4, 2, 0), (9, .invokestatic 77, 3, 0), (12, .iadd, 1, 0), (13, .iload 5, 2, 0), (15, .iastore, 1, 0)],
  [(16, .return_, 1, 0)]]
set_option maxRecDepth 100000 in
theorem tX7_set_ok : pt_ok YX7_set.2.1 tX7_set = true := by decide +kernel
theorem nX7_set : (plainFor yX7_set && decide (yX7_set.cls = pt_own YX7_set.1)) = true := by decide +kernel
abbrev YX7_isSlot : pt_Y := (7, cX7_isSlot, 1, (some .boolean), ({ frames := 0, cells := 0, slots := 0, locals := 0 } : Room))
def tX7_isSlot : pt_B := [
  [(0, .iload_n 0, 1, 0), (1, .ifCond .lt 13, 3, 14), (4, .iload_n 0, 1, 0), (5, .bipush 6, 2, 0), (7, .if_icmp .ge 7, 3, 14), (10, .iconst 1, 1, 0), (11, .goto 4, 3, 15), (14, .iconst 0, 1, 0), (15, .ireturn, 1, 0)]]
set_option maxRecDepth 100000 in
theorem tX7_isSlot_ok : pt_ok YX7_isSlot.2.1 tX7_isSlot = true := by decide +kernel
theorem nX7_isSlot : (plainFor yX7_isSlot && decide (yX7_isSlot.cls = pt_own YX7_isSlot.1)) = true := by decide +kernel
abbrev YX7_has : pt_Y := (7, cX7_has, 2, (some .boolean), ({ frames := 1, cells := 0, slots := 0, locals := 20 } : Room))
def tX7_has : pt_B := [
  [(0, .iload_n 1, 1, 0), (1, .invokestatic 85, 3, 0), (4, .ifCond .eq 16, 3, 20), (7, .aload_n 0, 1, 0), (8, .getfield 13, 3, 0), (11, .iload_n 1, 1, 0), (12, .iaload, 1, 0), (13, .ifCond .le 7, 3, 20)],
  [(16, .iconst 1, 1, 0), (17, .goto 4, 3, 21), (20, .iconst 0, 1, 0), (21, .ireturn, 1, 0)]]
set_option maxRecDepth 100000 in
theorem tX7_has_ok : pt_ok YX7_has.2.1 tX7_has = true := by decide +kernel
theorem nX7_has : (plainFor yX7_has && decide (yX7_has.cls = pt_own YX7_has.1)) = true := by decide +kernel
abbrev YX7_copy : pt_Y := (7, cX7_copy, 4, none, ({ frames := 0, cells := 0, slots := 0, locals := 0 } : Room))
def tX7_copy : pt_B := [
  [(0, .iconst 0, 1, 0), (1, .istore_n 3, 1, 0), (2, .iload_n 3, 1, 0), (3, .bipush 120, 2, 0), (5, .if_icmp .ge 25, 3, 30), (8, .aload_n 0, 1, 0), (9, .getfield 17, 3, 0), (12, .iload_n 2, 1, 0), (13, .iload_n 3, 1, 0), (14, .iadd, 1, 0), (15, .aload_n 0, 1, 0)],
  [(16, .getfield 17, 3, 0), (19, .iload_n 1, 1, 0), (20, .iload_n 3, 1, 0), (21, .iadd, 1, 0), (22, .iaload, 1, 0), (23, .iastore, 1, 0), (24, .iinc 3 1, 3, 0), (27, .goto (-25), 3, 2), (30, .return_, 1, 0)]]
set_option maxRecDepth 100000 in
theorem tX7_copy_ok : pt_ok YX7_copy.2.1 tX7_copy = true := by decide +kernel
theorem nX7_copy : (plainFor yX7_copy && decide (yX7_copy.cls = pt_own YX7_copy.1)) = true := by decide +kernel
abbrev YX7_points : pt_Y := (7, cX7_points, 2, (some .int), ({ frames := 2, cells := 0, slots := 0, locals := 41 } : Room))
def tX7_points : pt_B := [
  [(0, .aload_n 0, 1, 0), (1, .iconst 0, 1, 0), (2, .putfield 64, 3, 0), (5, .aload_n 0, 1, 0), (6, .iload_n 1, 1, 0), (7, .invokevirtual 89, 3, 0), (10, .ifCond .eq 12, 3, 22), (13, .aload_n 0, 1, 0), (14, .getfield 13, 3, 0)],
  [(17, .iload_n 1, 1, 0), (18, .iaload, 1, 0), (19, .goto 4, 3, 23), (22, .iconst 0, 1, 0), (23, .ireturn, 1, 0)]]
set_option maxRecDepth 100000 in
theorem tX7_points_ok : pt_ok YX7_points.2.1 tX7_points = true := by decide +kernel
theorem nX7_points : (plainFor yX7_points && decide (yX7_points.cls = pt_own YX7_points.1)) = true := by decide +kernel
abbrev YX7_place : pt_Y := (7, cX7_place, 8, (some .int), ({ frames := 2, cells := 0, slots := 0, locals := 47 } : Room))
def tX7_place : pt_B := [
  [(0, .aload_n 0, 1, 0), (1, .iconst 0, 1, 0), (2, .putfield 64, 3, 0), (5, .aload_n 0, 1, 0), (6, .invokevirtual 92, 3, 0), (9, .aload_n 0, 1, 0), (10, .getfield 74, 3, 0), (13, .iconst 4, 1, 0), (14, .idiv, 1, 0), (15, .istore_n 2, 1, 0)],
  [(16, .iload_n 1, 1, 0), (17, .invokestatic 85, 3, 0), (20, .ifCond .eq 23, 3, 43), (23, .aload_n 0, 1, 0), (24, .getfield 74, 3, 0), (27, .iconst 4, 1, 0), (28, .irem, 1, 0), (29, .ifCond .ne 14, 3, 43)],
  [(32, .iload_n 2, 1, 0), (33, .iconst 3, 1, 0), (34, .if_icmp .lt 9, 3, 43), (37, .iload_n 2, 1, 0), (38, .bipush 10, 2, 0), (40, .if_icmp .le 5, 3, 45), (43, .iconst 1, 1, 0), (44, .ireturn, 1, 0), (45, .iconst 0, 1, 0), (46, .istore_n 3, 1, 0), (47, .iload_n 3, 1, 0)],
  [(48, .iload_n 2, 1, 0), (49, .if_icmp .ge 131, 3, 180), (52, .aload_n 0, 1, 0), (53, .getfield 20, 3, 0), (56, .iload_n 3, 1, 0), (57, .aload_n 0, 1, 0), (58, .getfield 7, 3, 0), (61, .iconst 4, 1, 0), (62, .iload_n 3, 1, 0), (63, .imul, 1, 0)],
  [(64, .baload, 1, 0), (65, .bipush 8, 2, 0), (67, .ishl, 1, 0), (68, .aload_n 0, 1, 0), (69, .getfield 7, 3, 0), (72, .iconst 4, 1, 0), (73, .iload_n 3, 1, 0), (74, .imul, 1, 0), (75, .iconst 1, 1, 0), (76, .iadd, 1, 0), (77, .baload, 1, 0), (78, .sipush 255, 3, 0)],
  [(81, .iand, 1, 0), (82, .ior, 1, 0), (83, .i2l, 1, 0), (84, .lastore, 1, 0), (85, .aload_n 0, 1, 0), (86, .getfield 24, 3, 0), (89, .iload_n 3, 1, 0), (90, .aload_n 0, 1, 0), (91, .getfield 7, 3, 0), (94, .iconst 4, 1, 0), (95, .iload_n 3, 1, 0)],
  [(96, .imul, 1, 0), (97, .iconst 2, 1, 0), (98, .iadd, 1, 0), (99, .baload, 1, 0), (100, .bipush 8, 2, 0), (102, .ishl, 1, 0), (103, .aload_n 0, 1, 0), (104, .getfield 7, 3, 0), (107, .iconst 4, 1, 0), (108, .iload_n 3, 1, 0), (109, .imul, 1, 0), (110, .iconst 3, 1, 0), (111, .iadd, 1, 0)],
  [(112, .baload, 1, 0), (113, .sipush 255, 3, 0), (116, .iand, 1, 0), (117, .ior, 1, 0), (118, .i2l, 1, 0), (119, .lastore, 1, 0), (120, .aload_n 0, 1, 0), (121, .getfield 20, 3, 0), (124, .iload_n 3, 1, 0), (125, .laload, 1, 0), (126, .ldc2_w 95, 3, 0)],
  [(129, .lcmp, 1, 0), (130, .ifCond .lt 42, 3, 172), (133, .aload_n 0, 1, 0), (134, .getfield 20, 3, 0), (137, .iload_n 3, 1, 0), (138, .laload, 1, 0), (139, .ldc2_w 97, 3, 0), (142, .lcmp, 1, 0), (143, .ifCond .gt 29, 3, 172)],
  [(146, .aload_n 0, 1, 0), (147, .getfield 24, 3, 0), (150, .iload_n 3, 1, 0), (151, .laload, 1, 0), (152, .ldc2_w 95, 3, 0), (155, .lcmp, 1, 0), (156, .ifCond .lt 16, 3, 172), (159, .aload_n 0, 1, 0)],
  [(160, .getfield 24, 3, 0), (163, .iload_n 3, 1, 0), (164, .laload, 1, 0), (165, .ldc2_w 97, 3, 0), (168, .lcmp, 1, 0), (169, .ifCond .le 5, 3, 174), (172, .iconst 1, 1, 0), (173, .ireturn, 1, 0), (174, .iinc 3 1, 3, 0)],
  [(177, .goto (-130), 3, 47), (180, .iconst 0, 1, 0), (181, .istore_n 3, 1, 0), (182, .iload_n 3, 1, 0), (183, .iload_n 2, 1, 0), (184, .if_icmp .ge 155, 3, 339), (187, .iload_n 3, 1, 0), (188, .iconst 1, 1, 0), (189, .iadd, 1, 0), (190, .istore 4, 2, 0)],
  [(192, .iload 4, 2, 0), (194, .iload_n 2, 1, 0), (195, .if_icmp .ge 138, 3, 333), (198, .iload 4, 2, 0), (200, .iconst 1, 1, 0), (201, .iadd, 1, 0), (202, .istore 5, 2, 0), (204, .iload 5, 2, 0), (206, .iload_n 2, 1, 0), (207, .if_icmp .ge 120, 3, 327)],
  [(210, .aload_n 0, 1, 0), (211, .getfield 20, 3, 0), (214, .iload 4, 2, 0), (216, .laload, 1, 0), (217, .aload_n 0, 1, 0), (218, .getfield 20, 3, 0), (221, .iload_n 3, 1, 0), (222, .laload, 1, 0), (223, .lsub, 1, 0)],
  [(224, .aload_n 0, 1, 0), (225, .getfield 24, 3, 0), (228, .iload 5, 2, 0), (230, .laload, 1, 0), (231, .aload_n 0, 1, 0), (232, .getfield 24, 3, 0), (235, .iload_n 3, 1, 0), (236, .laload, 1, 0), (237, .lsub, 1, 0), (238, .lmul, 1, 0), (239, .aload_n 0, 1, 0)],
  [(240, .getfield 24, 3, 0), (243, .iload 4, 2, 0), (245, .laload, 1, 0), (246, .aload_n 0, 1, 0), (247, .getfield 24, 3, 0), (250, .iload_n 3, 1, 0), (251, .laload, 1, 0), (252, .lsub, 1, 0), (253, .aload_n 0, 1, 0), (254, .getfield 20, 3, 0)],
  [(257, .iload 5, 2, 0), (259, .laload, 1, 0), (260, .aload_n 0, 1, 0), (261, .getfield 20, 3, 0), (264, .iload_n 3, 1, 0), (265, .laload, 1, 0), (266, .lsub, 1, 0), (267, .lmul, 1, 0), (268, .lsub, 1, 0), (269, .lstore 6, 2, 0), (271, .lload 6, 2, 0)],
  [(273, .lconst 0, 1, 0), (274, .lcmp, 1, 0), (275, .ifCond .ne 22, 3, 297), (278, .aload_n 0, 1, 0), (279, .bipush 100, 2, 0), (281, .iload_n 3, 1, 0), (282, .imul, 1, 0), (283, .bipush 10, 2, 0), (285, .iload 4, 2, 0), (287, .imul, 1, 0)],
  [(288, .iadd, 1, 0), (289, .iload 5, 2, 0), (291, .iadd, 1, 0), (292, .putfield 27, 3, 0), (295, .iconst 2, 1, 0), (296, .ireturn, 1, 0), (297, .aload_n 0, 1, 0), (298, .sipush 720, 3, 0), (301, .iload_n 3, 1, 0), (302, .iload 4, 2, 0)],
  [(304, .iload 5, 2, 0), (306, .lload 6, 2, 0), (308, .lconst 0, 1, 0), (309, .lcmp, 1, 0), (310, .ifCond .le 7, 3, 317), (313, .iconst 1, 1, 0), (314, .goto 4, 3, 318), (317, .iconst (-1), 1, 0), (318, .invokevirtual 99, 3, 0)],
  [(321, .iinc 5 1, 3, 0), (324, .goto (-120), 3, 204), (327, .iinc 4 1, 3, 0), (330, .goto (-138), 3, 192), (333, .iinc 3 1, 3, 0)],
  [(336, .goto (-154), 3, 182), (339, .aload_n 0, 1, 0), (340, .sipush 720, 3, 0), (343, .bipush 120, 2, 0), (345, .iload_n 1, 1, 0), (346, .imul, 1, 0), (347, .invokevirtual 103, 3, 0), (350, .aload_n 0, 1, 0), (351, .getfield 13, 3, 0)],
  [(354, .iload_n 1, 1, 0), (355, .iload_n 2, 1, 0), (356, .iastore, 1, 0), (357, .iconst 0, 1, 0), (358, .ireturn, 1, 0)]]
set_option maxRecDepth 100000 in
theorem tX7_place_ok : pt_ok YX7_place.2.1 tX7_place = true := by decide +kernel
theorem nX7_place : (plainFor yX7_place && decide (yX7_place.cls = pt_own YX7_place.1)) = true := by decide +kernel
abbrev YX7_line : pt_Y := (7, cX7_line, 1, (some .int), ({ frames := 0, cells := 0, slots := 0, locals := 0 } : Room))
def tX7_line : pt_B := [
  [(0, .aload_n 0, 1, 0), (1, .iconst 0, 1, 0), (2, .putfield 64, 3, 0), (5, .aload_n 0, 1, 0), (6, .getfield 27, 3, 0), (9, .ireturn, 1, 0)]]
set_option maxRecDepth 100000 in
theorem tX7_line_ok : pt_ok YX7_line.2.1 tX7_line = true := by decide +kernel
theorem nX7_line : (plainFor yX7_line && decide (yX7_line.cls = pt_own YX7_line.1)) = true := by decide +kernel
abbrev YX7_table : pt_Y := (7, cX7_table, 7, (some .boolean), ({ frames := 2, cells := 0, slots := 0, locals := 47 } : Room))
def tX7_table : pt_B := [
  [(0, .aload_n 0, 1, 0), (1, .iconst 0, 1, 0), (2, .putfield 64, 3, 0), (5, .aload_n 0, 1, 0), (6, .invokevirtual 92, 3, 0), (9, .iload_n 1, 1, 0), (10, .invokestatic 85, 3, 0), (13, .ifCond .eq 36, 3, 49)],
  [(16, .iload_n 2, 1, 0), (17, .iconst 3, 1, 0), (18, .if_icmp .lt 31, 3, 49), (21, .iload_n 2, 1, 0), (22, .bipush 10, 2, 0), (24, .if_icmp .gt 25, 3, 49), (27, .bipush 8, 2, 0), (29, .aload_n 0, 1, 0), (30, .getfield 74, 3, 0)],
  [(33, .imul, 1, 0), (34, .iload_n 2, 1, 0), (35, .iload_n 2, 1, 0), (36, .iconst 1, 1, 0), (37, .isub, 1, 0), (38, .imul, 1, 0), (39, .iload_n 2, 1, 0), (40, .iconst 2, 1, 0), (41, .isub, 1, 0), (42, .imul, 1, 0), (43, .bipush 6, 2, 0), (45, .idiv, 1, 0), (46, .if_icmp .ge 5, 3, 51)],
  [(49, .iconst 0, 1, 0), (50, .ireturn, 1, 0), (51, .iconst 0, 1, 0), (52, .istore_n 3, 1, 0), (53, .iconst 0, 1, 0), (54, .istore 4, 2, 0), (56, .iload 4, 2, 0), (58, .iload_n 2, 1, 0), (59, .if_icmp .ge 90, 3, 149), (62, .iload 4, 2, 0)],
  [(64, .iconst 1, 1, 0), (65, .iadd, 1, 0), (66, .istore 5, 2, 0), (68, .iload 5, 2, 0), (70, .iload_n 2, 1, 0), (71, .if_icmp .ge 72, 3, 143), (74, .iload 5, 2, 0), (76, .iconst 1, 1, 0), (77, .iadd, 1, 0), (78, .istore 6, 2, 0)],
  [(80, .iload 6, 2, 0), (82, .iload_n 2, 1, 0), (83, .if_icmp .ge 54, 3, 137), (86, .aload_n 0, 1, 0), (87, .bipush 120, 2, 0), (89, .iload_n 1, 1, 0), (90, .imul, 1, 0), (91, .iload 4, 2, 0), (93, .iload 5, 2, 0), (95, .iload 6, 2, 0)],
  [(97, .aload_n 0, 1, 0), (98, .getfield 7, 3, 0), (101, .iload_n 3, 1, 0), (102, .bipush 8, 2, 0), (104, .idiv, 1, 0), (105, .baload, 1, 0), (106, .bipush 7, 2, 0), (108, .iload_n 3, 1, 0), (109, .bipush 8, 2, 0), (111, .irem, 1, 0)],
  [(112, .isub, 1, 0), (113, .ishr, 1, 0), (114, .iconst 1, 1, 0), (115, .iand, 1, 0), (116, .iconst 1, 1, 0), (117, .if_icmp .ne 7, 3, 124), (120, .iconst (-1), 1, 0), (121, .goto 4, 3, 125), (124, .iconst 1, 1, 0), (125, .invokevirtual 99, 3, 0)],
  [(128, .iinc 3 1, 3, 0), (131, .iinc 6 1, 3, 0), (134, .goto (-54), 3, 80), (137, .iinc 5 1, 3, 0), (140, .goto (-72), 3, 68), (143, .iinc 4 1, 3, 0)],
  [(146, .goto (-90), 3, 56), (149, .aload_n 0, 1, 0), (150, .getfield 13, 3, 0), (153, .iload_n 1, 1, 0), (154, .iload_n 2, 1, 0), (155, .iastore, 1, 0), (156, .iconst 1, 1, 0), (157, .ireturn, 1, 0)]]
set_option maxRecDepth 100000 in
theorem tX7_table_ok : pt_ok YX7_table.2.1 tX7_table = true := by decide +kernel
theorem nX7_table : (plainFor yX7_table && decide (yX7_table.cls = pt_own YX7_table.1)) = true := by decide +kernel
abbrev YX7_areThree : pt_Y := (7, cX7_areThree, 5, (some .boolean), ({ frames := 2, cells := 0, slots := 0, locals := 41 } : Room))
def tX7_areThree : pt_B := [
  [(0, .aload_n 0, 1, 0), (1, .iload_n 1, 1, 0), (2, .invokevirtual 89, 3, 0), (5, .ifCond .eq 68, 3, 73), (8, .iload_n 2, 1, 0), (9, .ifCond .lt 64, 3, 73), (12, .iload_n 3, 1, 0), (13, .ifCond .lt 60, 3, 73)],
  [(16, .iload 4, 2, 0), (18, .ifCond .lt 55, 3, 73), (21, .iload_n 2, 1, 0), (22, .aload_n 0, 1, 0), (23, .getfield 13, 3, 0), (26, .iload_n 1, 1, 0), (27, .iaload, 1, 0), (28, .if_icmp .ge 45, 3, 73), (31, .iload_n 3, 1, 0)],
  [(32, .aload_n 0, 1, 0), (33, .getfield 13, 3, 0), (36, .iload_n 1, 1, 0), (37, .iaload, 1, 0), (38, .if_icmp .ge 35, 3, 73), (41, .iload 4, 2, 0), (43, .aload_n 0, 1, 0), (44, .getfield 13, 3, 0), (47, .iload_n 1, 1, 0)],
  [(48, .iaload, 1, 0), (49, .if_icmp .ge 24, 3, 73), (52, .iload_n 2, 1, 0), (53, .iload_n 3, 1, 0), (54, .if_icmp .eq 19, 3, 73), (57, .iload_n 3, 1, 0), (58, .iload 4, 2, 0), (60, .if_icmp .eq 13, 3, 73), (63, .iload_n 2, 1, 0)],
  [(64, .iload 4, 2, 0), (66, .if_icmp .eq 7, 3, 73), (69, .iconst 1, 1, 0), (70, .goto 4, 3, 74), (73, .iconst 0, 1, 0), (74, .ireturn, 1, 0)]]
set_option maxRecDepth 100000 in
theorem tX7_areThree_ok : pt_ok YX7_areThree.2.1 tX7_areThree = true := by decide +kernel
theorem nX7_areThree : (plainFor yX7_areThree && decide (yX7_areThree.cls = pt_own YX7_areThree.1)) = true := by decide +kernel
abbrev YX7_turn : pt_Y := (7, cX7_turn, 5, (some .int), ({ frames := 3, cells := 0, slots := 0, locals := 65 } : Room))
def tX7_turn : pt_B := [
  [(0, .aload_n 0, 1, 0), (1, .iconst 0, 1, 0), (2, .putfield 64, 3, 0), (5, .aload_n 0, 1, 0), (6, .iload_n 1, 1, 0), (7, .iload_n 2, 1, 0), (8, .iload_n 3, 1, 0), (9, .iload 4, 2, 0), (11, .invokevirtual 107, 3, 0), (14, .ifCond .eq 18, 3, 32)],
  [(17, .aload_n 0, 1, 0), (18, .bipush 120, 2, 0), (20, .iload_n 1, 1, 0), (21, .imul, 1, 0), (22, .iload_n 2, 1, 0), (23, .iload_n 3, 1, 0), (24, .iload 4, 2, 0), (26, .invokevirtual 81, 3, 0), (29, .goto 4, 3, 33)],
  [(32, .iconst 0, 1, 0), (33, .ireturn, 1, 0)]]
set_option maxRecDepth 100000 in
theorem tX7_turn_ok : pt_ok YX7_turn.2.1 tX7_turn = true := by decide +kernel
theorem nX7_turn : (plainFor yX7_turn && decide (yX7_turn.cls = pt_own YX7_turn.1)) = true := by decide +kernel
abbrev YX7_flip : pt_Y := (7, cX7_flip, 8, (some .boolean), ({ frames := 3, cells := 0, slots := 0, locals := 65 } : Room))
def tX7_flip : pt_B := [
  [(0, .aload_n 0, 1, 0), (1, .iconst 0, 1, 0), (2, .putfield 64, 3, 0), (5, .aload_n 0, 1, 0), (6, .iload_n 1, 1, 0), (7, .iload_n 2, 1, 0), (8, .iload_n 3, 1, 0), (9, .iload 4, 2, 0), (11, .invokevirtual 107, 3, 0), (14, .ifCond .ne 5, 3, 19)],
  [(17, .iconst 0, 1, 0), (18, .ireturn, 1, 0), (19, .iload_n 2, 1, 0), (20, .iload_n 3, 1, 0), (21, .if_icmp .ge 18, 3, 39), (24, .iload_n 2, 1, 0), (25, .iload 4, 2, 0), (27, .if_icmp .ge 7, 3, 34), (30, .iload_n 2, 1, 0), (31, .goto 20, 3, 51)],
  [(34, .iload 4, 2, 0), (36, .goto 15, 3, 51), (39, .iload_n 3, 1, 0), (40, .iload 4, 2, 0), (42, .if_icmp .ge 7, 3, 49), (45, .iload_n 3, 1, 0), (46, .goto 5, 3, 51)],
  [(49, .iload 4, 2, 0), (51, .istore 5, 2, 0), (53, .iload_n 2, 1, 0), (54, .iload_n 3, 1, 0), (55, .if_icmp .le 18, 3, 73), (58, .iload_n 2, 1, 0), (59, .iload 4, 2, 0), (61, .if_icmp .le 7, 3, 68)],
  [(64, .iload_n 2, 1, 0), (65, .goto 20, 3, 85), (68, .iload 4, 2, 0), (70, .goto 15, 3, 85), (73, .iload_n 3, 1, 0), (74, .iload 4, 2, 0), (76, .if_icmp .le 7, 3, 83), (79, .iload_n 3, 1, 0)],
  [(80, .goto 5, 3, 85), (83, .iload 4, 2, 0), (85, .istore 6, 2, 0), (87, .bipush 120, 2, 0), (89, .iload_n 1, 1, 0), (90, .imul, 1, 0), (91, .iload 5, 2, 0), (93, .iload_n 2, 1, 0), (94, .iload_n 3, 1, 0), (95, .iadd, 1, 0)],
  [(96, .iload 4, 2, 0), (98, .iadd, 1, 0), (99, .iload 5, 2, 0), (101, .isub, 1, 0), (102, .iload 6, 2, 0), (104, .isub, 1, 0), (105, .iload 6, 2, 0), (107, .invokestatic 77, 3, 0), (110, .iadd, 1, 0), (111, .istore 7, 2, 0)],
  [(113, .aload_n 0, 1, 0), (114, .getfield 17, 3, 0), (117, .iload 7, 2, 0), (119, .aload_n 0, 1, 0), (120, .getfield 17, 3, 0), (123, .iload 7, 2, 0), (125, .iaload, 1, 0), (126, .ineg, 1, 0), (127, .iastore, 1, 0)],
  [(128, .iconst 1, 1, 0), (129, .ireturn, 1, 0)]]
set_option maxRecDepth 100000 in
theorem tX7_flip_ok : pt_ok YX7_flip.2.1 tX7_flip = true := by decide +kernel
theorem nX7_flip : (plainFor yX7_flip && decide (yX7_flip.cls = pt_own YX7_flip.1)) = true := by decide +kernel
abbrev YX7_turnAll : pt_Y := (7, cX7_turnAll, 3, none, ({ frames := 0, cells := 0, slots := 0, locals := 0 } : Room))
def tX7_turnAll : pt_B := [
  [(0, .iconst 0, 1, 0), (1, .istore_n 2, 1, 0), (2, .iload_n 2, 1, 0), (3, .bipush 120, 2, 0), (5, .if_icmp .ge 26, 3, 31), (8, .aload_n 0, 1, 0), (9, .getfield 17, 3, 0), (12, .iload_n 1, 1, 0), (13, .iload_n 2, 1, 0), (14, .iadd, 1, 0), (15, .aload_n 0, 1, 0)],
  [(16, .getfield 17, 3, 0), (19, .iload_n 1, 1, 0), (20, .iload_n 2, 1, 0), (21, .iadd, 1, 0), (22, .iaload, 1, 0), (23, .ineg, 1, 0), (24, .iastore, 1, 0), (25, .iinc 2 1, 3, 0), (28, .goto (-26), 3, 2), (31, .return_, 1, 0)]]
set_option maxRecDepth 100000 in
theorem tX7_turnAll_ok : pt_ok YX7_turnAll.2.1 tX7_turnAll = true := by decide +kernel
theorem nX7_turnAll : (plainFor yX7_turnAll && decide (yX7_turnAll.cls = pt_own YX7_turnAll.1)) = true := by decide +kernel
abbrev YX7_mirror : pt_Y := (7, cX7_mirror, 3, (some .boolean), ({ frames := 2, cells := 0, slots := 0, locals := 41 } : Room))
def tX7_mirror : pt_B := [
  [(0, .aload_n 0, 1, 0), (1, .iconst 0, 1, 0), (2, .putfield 64, 3, 0), (5, .iload_n 1, 1, 0), (6, .invokestatic 85, 3, 0), (9, .ifCond .eq 11, 3, 20), (12, .aload_n 0, 1, 0), (13, .iload_n 2, 1, 0), (14, .invokevirtual 89, 3, 0)],
  [(17, .ifCond .ne 5, 3, 22), (20, .iconst 0, 1, 0), (21, .ireturn, 1, 0), (22, .aload_n 0, 1, 0), (23, .bipush 120, 2, 0), (25, .iload_n 2, 1, 0), (26, .imul, 1, 0), (27, .bipush 120, 2, 0), (29, .iload_n 1, 1, 0), (30, .imul, 1, 0), (31, .invokevirtual 103, 3, 0)],
  [(34, .aload_n 0, 1, 0), (35, .bipush 120, 2, 0), (37, .iload_n 1, 1, 0), (38, .imul, 1, 0), (39, .invokevirtual 111, 3, 0), (42, .aload_n 0, 1, 0), (43, .getfield 13, 3, 0), (46, .iload_n 1, 1, 0), (47, .aload_n 0, 1, 0)],
  [(48, .getfield 13, 3, 0), (51, .iload_n 2, 1, 0), (52, .iaload, 1, 0), (53, .iastore, 1, 0), (54, .iconst 1, 1, 0), (55, .ireturn, 1, 0)]]
set_option maxRecDepth 100000 in
theorem tX7_mirror_ok : pt_ok YX7_mirror.2.1 tX7_mirror = true := by decide +kernel
theorem nX7_mirror : (plainFor yX7_mirror && decide (yX7_mirror.cls = pt_own YX7_mirror.1)) = true := by decide +kernel
abbrev YX7_pick : pt_Y := (7, cX7_pick, 7, none, ({ frames := 2, cells := 0, slots := 0, locals := 51 } : Room))
def tX7_pick : pt_B := [
  [(0, .iconst 0, 1, 0), (1, .istore 4, 2, 0), (3, .iload 4, 2, 0), (5, .iload_n 3, 1, 0), (6, .if_icmp .ge 84, 3, 90), (9, .iload 4, 2, 0), (11, .iconst 1, 1, 0), (12, .iadd, 1, 0), (13, .istore 5, 2, 0), (15, .iload 5, 2, 0)],
  [(17, .iload_n 3, 1, 0), (18, .if_icmp .ge 66, 3, 84), (21, .iload 5, 2, 0), (23, .iconst 1, 1, 0), (24, .iadd, 1, 0), (25, .istore 6, 2, 0), (27, .iload 6, 2, 0), (29, .iload_n 3, 1, 0), (30, .if_icmp .ge 48, 3, 78)],
  [(33, .aload_n 0, 1, 0), (34, .sipush 840, 3, 0), (37, .iload 4, 2, 0), (39, .iload 5, 2, 0), (41, .iload 6, 2, 0), (43, .aload_n 0, 1, 0), (44, .iload_n 1, 1, 0), (45, .aload_n 0, 1, 0), (46, .getfield 31, 3, 0)],
  [(49, .iload 4, 2, 0), (51, .iaload, 1, 0), (52, .aload_n 0, 1, 0), (53, .getfield 31, 3, 0), (56, .iload 5, 2, 0), (58, .iaload, 1, 0), (59, .aload_n 0, 1, 0), (60, .getfield 31, 3, 0), (63, .iload 6, 2, 0)],
  [(65, .iaload, 1, 0), (66, .invokevirtual 81, 3, 0), (69, .invokevirtual 99, 3, 0), (72, .iinc 6 1, 3, 0), (75, .goto (-48), 3, 27), (78, .iinc 5 1, 3, 0)],
  [(81, .goto (-66), 3, 15), (84, .iinc 4 1, 3, 0), (87, .goto (-84), 3, 3), (90, .aload_n 0, 1, 0), (91, .sipush 840, 3, 0), (94, .iload_n 2, 1, 0), (95, .invokevirtual 103, 3, 0)],
  [(98, .return_, 1, 0)]]
set_option maxRecDepth 100000 in
theorem tX7_pick_ok : pt_ok YX7_pick.2.1 tX7_pick = true := by decide +kernel
theorem nX7_pick : (plainFor yX7_pick && decide (yX7_pick.cls = pt_own YX7_pick.1)) = true := by decide +kernel
abbrev YX7_rename : pt_Y := (7, cX7_rename, 5, (some .boolean), ({ frames := 3, cells := 0, slots := 0, locals := 77 } : Room))
def tX7_rename : pt_B := [
  [(0, .aload_n 0, 1, 0), (1, .iconst 0, 1, 0), (2, .putfield 64, 3, 0), (5, .aload_n 0, 1, 0), (6, .invokevirtual 92, 3, 0), (9, .iload_n 1, 1, 0), (10, .invokestatic 85, 3, 0), (13, .ifCond .eq 24, 3, 37)],
  [(16, .aload_n 0, 1, 0), (17, .iload_n 2, 1, 0), (18, .invokevirtual 89, 3, 0), (21, .ifCond .eq 16, 3, 37), (24, .aload_n 0, 1, 0), (25, .getfield 74, 3, 0), (28, .aload_n 0, 1, 0), (29, .getfield 13, 3, 0)],
  [(32, .iload_n 2, 1, 0), (33, .iaload, 1, 0), (34, .if_icmp .eq 5, 3, 39), (37, .iconst 0, 1, 0), (38, .ireturn, 1, 0), (39, .iconst 0, 1, 0), (40, .istore_n 3, 1, 0), (41, .iconst 0, 1, 0), (42, .istore 4, 2, 0), (44, .iload 4, 2, 0), (46, .aload_n 0, 1, 0), (47, .getfield 74, 3, 0)],
  [(50, .if_icmp .ge 76, 3, 126), (53, .aload_n 0, 1, 0), (54, .getfield 7, 3, 0), (57, .iload 4, 2, 0), (59, .baload, 1, 0), (60, .ifCond .lt 32, 3, 92), (63, .aload_n 0, 1, 0)],
  [(64, .getfield 7, 3, 0), (67, .iload 4, 2, 0), (69, .baload, 1, 0), (70, .aload_n 0, 1, 0), (71, .getfield 74, 3, 0), (74, .if_icmp .ge 18, 3, 92), (77, .iload_n 3, 1, 0), (78, .aload_n 0, 1, 0), (79, .getfield 7, 3, 0)],
  [(82, .iload 4, 2, 0), (84, .baload, 1, 0), (85, .ishr, 1, 0), (86, .iconst 1, 1, 0), (87, .iand, 1, 0), (88, .iconst 1, 1, 0), (89, .if_icmp .ne 5, 3, 94), (92, .iconst 0, 1, 0), (93, .ireturn, 1, 0), (94, .iload_n 3, 1, 0), (95, .iconst 1, 1, 0)],
  [(96, .aload_n 0, 1, 0), (97, .getfield 7, 3, 0), (100, .iload 4, 2, 0), (102, .baload, 1, 0), (103, .ishl, 1, 0), (104, .ior, 1, 0), (105, .istore_n 3, 1, 0), (106, .aload_n 0, 1, 0), (107, .getfield 31, 3, 0), (110, .iload 4, 2, 0)],
  [(112, .aload_n 0, 1, 0), (113, .getfield 7, 3, 0), (116, .iload 4, 2, 0), (118, .baload, 1, 0), (119, .iastore, 1, 0), (120, .iinc 4 1, 3, 0), (123, .goto (-79), 3, 44), (126, .aload_n 0, 1, 0), (127, .bipush 120, 2, 0)],
  [(129, .iload_n 2, 1, 0), (130, .imul, 1, 0), (131, .bipush 120, 2, 0), (133, .iload_n 1, 1, 0), (134, .imul, 1, 0), (135, .aload_n 0, 1, 0), (136, .getfield 74, 3, 0), (139, .invokevirtual 114, 3, 0), (142, .aload_n 0, 1, 0), (143, .getfield 13, 3, 0)],
  [(146, .iload_n 1, 1, 0), (147, .aload_n 0, 1, 0), (148, .getfield 74, 3, 0), (151, .iastore, 1, 0), (152, .iconst 1, 1, 0), (153, .ireturn, 1, 0)]]
set_option maxRecDepth 100000 in
theorem tX7_rename_ok : pt_ok YX7_rename.2.1 tX7_rename = true := by decide +kernel
theorem nX7_rename : (plainFor yX7_rename && decide (yX7_rename.cls = pt_own YX7_rename.1)) = true := by decide +kernel
abbrev YX7_without : pt_Y := (7, cX7_without, 6, (some .boolean), ({ frames := 3, cells := 0, slots := 0, locals := 77 } : Room))
def tX7_without : pt_B := [
  [(0, .aload_n 0, 1, 0), (1, .iconst 0, 1, 0), (2, .putfield 64, 3, 0), (5, .iload_n 1, 1, 0), (6, .invokestatic 85, 3, 0), (9, .ifCond .eq 35, 3, 44), (12, .aload_n 0, 1, 0), (13, .iload_n 2, 1, 0), (14, .invokevirtual 89, 3, 0)],
  [(17, .ifCond .eq 27, 3, 44), (20, .iload_n 3, 1, 0), (21, .ifCond .lt 23, 3, 44), (24, .iload_n 3, 1, 0), (25, .aload_n 0, 1, 0), (26, .getfield 13, 3, 0), (29, .iload_n 2, 1, 0), (30, .iaload, 1, 0), (31, .if_icmp .ge 13, 3, 44)],
  [(34, .aload_n 0, 1, 0), (35, .getfield 13, 3, 0), (38, .iload_n 2, 1, 0), (39, .iaload, 1, 0), (40, .iconst 3, 1, 0), (41, .if_icmp .ne 5, 3, 46), (44, .iconst 0, 1, 0), (45, .ireturn, 1, 0), (46, .aload_n 0, 1, 0), (47, .getfield 13, 3, 0)],
  [(50, .iload_n 2, 1, 0), (51, .iaload, 1, 0), (52, .iconst 1, 1, 0), (53, .isub, 1, 0), (54, .istore 4, 2, 0), (56, .iconst 0, 1, 0), (57, .istore 5, 2, 0), (59, .iload 5, 2, 0), (61, .iload 4, 2, 0), (63, .if_icmp .ge 31, 3, 94)],
  [(66, .aload_n 0, 1, 0), (67, .getfield 31, 3, 0), (70, .iload 5, 2, 0), (72, .iload 5, 2, 0), (74, .iload_n 3, 1, 0), (75, .if_icmp .ge 8, 3, 83), (78, .iload 5, 2, 0)],
  [(80, .goto 7, 3, 87), (83, .iload 5, 2, 0), (85, .iconst 1, 1, 0), (86, .iadd, 1, 0), (87, .iastore, 1, 0), (88, .iinc 5 1, 3, 0), (91, .goto (-32), 3, 59), (94, .aload_n 0, 1, 0), (95, .bipush 120, 2, 0)],
  [(97, .iload_n 2, 1, 0), (98, .imul, 1, 0), (99, .bipush 120, 2, 0), (101, .iload_n 1, 1, 0), (102, .imul, 1, 0), (103, .iload 4, 2, 0), (105, .invokevirtual 114, 3, 0), (108, .aload_n 0, 1, 0), (109, .getfield 13, 3, 0)],
  [(112, .iload_n 1, 1, 0), (113, .iload 4, 2, 0), (115, .iastore, 1, 0), (116, .iconst 1, 1, 0), (117, .ireturn, 1, 0)]]
set_option maxRecDepth 100000 in
theorem tX7_without_ok : pt_ok YX7_without.2.1 tX7_without = true := by decide +kernel
theorem nX7_without : (plainFor yX7_without && decide (yX7_without.cls = pt_own YX7_without.1)) = true := by decide +kernel
abbrev YX7_breaksFour : pt_Y := (7, cX7_breaksFour, 6, (some .boolean), ({ frames := 3, cells := 0, slots := 0, locals := 75 } : Room))
def tX7_breaksFour : pt_B := [
  [(0, .aload_n 0, 1, 0), (1, .iload_n 1, 1, 0), (2, .iload_n 2, 1, 0), (3, .iload_n 3, 1, 0), (4, .iload 5, 2, 0), (6, .invokevirtual 118, 3, 0), (9, .ifCond .eq 45, 3, 54), (12, .aload_n 0, 1, 0), (13, .iload_n 1, 1, 0), (14, .iload_n 3, 1, 0), (15, .iload 4, 2, 0)],
  [(17, .iload 5, 2, 0), (19, .invokevirtual 118, 3, 0), (22, .ifCond .eq 32, 3, 54), (25, .aload_n 0, 1, 0), (26, .iload_n 1, 1, 0), (27, .iload 4, 2, 0), (29, .iload_n 2, 1, 0), (30, .iload 5, 2, 0)],
  [(32, .invokevirtual 118, 3, 0), (35, .ifCond .eq 19, 3, 54), (38, .aload_n 0, 1, 0), (39, .iload_n 1, 1, 0), (40, .iload_n 2, 1, 0), (41, .iload_n 3, 1, 0), (42, .iload 4, 2, 0), (44, .invokevirtual 118, 3, 0), (47, .ifCond .ne 7, 3, 54)],
  [(50, .iconst 1, 1, 0), (51, .goto 4, 3, 55), (54, .iconst 0, 1, 0), (55, .ireturn, 1, 0)]]
set_option maxRecDepth 100000 in
theorem tX7_breaksFour_ok : pt_ok YX7_breaksFour.2.1 tX7_breaksFour = true := by decide +kernel
theorem nX7_breaksFour : (plainFor yX7_breaksFour && decide (yX7_breaksFour.cls = pt_own YX7_breaksFour.1)) = true := by decide +kernel
abbrev YX7_breaksFive : pt_Y := (7, cX7_breaksFive, 10, (some .boolean), ({ frames := 2, cells := 0, slots := 0, locals := 51 } : Room))
def tX7_breaksFive : pt_B := [
  [(0, .aload_n 0, 1, 0), (1, .iload_n 1, 1, 0), (2, .iload_n 2, 1, 0), (3, .iload_n 3, 1, 0), (4, .iload 4, 2, 0), (6, .invokevirtual 81, 3, 0), (9, .aload_n 0, 1, 0), (10, .iload_n 1, 1, 0), (11, .iload_n 2, 1, 0), (12, .iload 5, 2, 0), (14, .iload 6, 2, 0)],
  [(16, .invokevirtual 81, 3, 0), (19, .imul, 1, 0), (20, .istore 7, 2, 0), (22, .aload_n 0, 1, 0), (23, .iload_n 1, 1, 0), (24, .iload_n 2, 1, 0), (25, .iload_n 3, 1, 0), (26, .iload 5, 2, 0), (28, .invokevirtual 81, 3, 0), (31, .ineg, 1, 0)],
  [(32, .aload_n 0, 1, 0), (33, .iload_n 1, 1, 0), (34, .iload_n 2, 1, 0), (35, .iload 4, 2, 0), (37, .iload 6, 2, 0), (39, .invokevirtual 81, 3, 0), (42, .imul, 1, 0), (43, .istore 8, 2, 0), (45, .aload_n 0, 1, 0), (46, .iload_n 1, 1, 0), (47, .iload_n 2, 1, 0)],
  [(48, .iload_n 3, 1, 0), (49, .iload 6, 2, 0), (51, .invokevirtual 81, 3, 0), (54, .aload_n 0, 1, 0), (55, .iload_n 1, 1, 0), (56, .iload_n 2, 1, 0), (57, .iload 4, 2, 0), (59, .iload 5, 2, 0), (61, .invokevirtual 81, 3, 0)],
  [(64, .imul, 1, 0), (65, .istore 9, 2, 0), (67, .iload 7, 2, 0), (69, .iload 8, 2, 0), (71, .if_icmp .ne 14, 3, 85), (74, .iload 8, 2, 0), (76, .iload 9, 2, 0), (78, .if_icmp .ne 7, 3, 85)],
  [(81, .iconst 1, 1, 0), (82, .goto 4, 3, 86), (85, .iconst 0, 1, 0), (86, .ireturn, 1, 0)]]
set_option maxRecDepth 100000 in
theorem tX7_breaksFive_ok : pt_ok YX7_breaksFive.2.1 tX7_breaksFive = true := by decide +kernel
theorem nX7_breaksFive : (plainFor yX7_breaksFive && decide (yX7_breaksFive.cls = pt_own YX7_breaksFive.1)) = true := by decide +kernel
abbrev YX7_breaks : pt_Y := (7, cX7_breaks, 9, (some .boolean), ({ frames := 4, cells := 0, slots := 0, locals := 100 } : Room))
def tX7_breaks : pt_B := [
  [(0, .iconst 0, 1, 0), (1, .istore 4, 2, 0), (3, .iconst 0, 1, 0), (4, .istore 5, 2, 0), (6, .iload 5, 2, 0), (8, .iload_n 2, 1, 0), (9, .if_icmp .ge 33, 3, 42), (12, .iload_n 3, 1, 0), (13, .iload 5, 2, 0), (15, .ishr, 1, 0)],
  [(16, .iconst 1, 1, 0), (17, .iand, 1, 0), (18, .ifCond .ne 6, 3, 24), (21, .goto 15, 3, 36), (24, .aload_n 0, 1, 0), (25, .getfield 34, 3, 0), (28, .iload 4, 2, 0), (30, .iload 5, 2, 0)],
  [(32, .iastore, 1, 0), (33, .iinc 4 1, 3, 0), (36, .iinc 5 1, 3, 0), (39, .goto (-33), 3, 6), (42, .iconst 0, 1, 0), (43, .istore 5, 2, 0), (45, .iload 5, 2, 0), (47, .iload 4, 2, 0)],
  [(49, .if_icmp .ge 207, 3, 256), (52, .iconst 0, 1, 0), (53, .istore 6, 2, 0), (55, .iload 6, 2, 0), (57, .iload 4, 2, 0), (59, .if_icmp .ge 191, 3, 250), (62, .iconst 0, 1, 0), (63, .istore 7, 2, 0)],
  [(65, .iload 7, 2, 0), (67, .iload 4, 2, 0), (69, .if_icmp .ge 175, 3, 244), (72, .iload 5, 2, 0), (74, .iload 6, 2, 0), (76, .if_icmp .eq 162, 3, 238), (79, .iload 6, 2, 0)],
  [(81, .iload 7, 2, 0), (83, .if_icmp .eq 155, 3, 238), (86, .iload 5, 2, 0), (88, .iload 7, 2, 0), (90, .if_icmp .ne 6, 3, 96), (93, .goto 145, 3, 238)],
  [(96, .iconst 0, 1, 0), (97, .istore 8, 2, 0), (99, .iload 8, 2, 0), (101, .iload 4, 2, 0), (103, .if_icmp .ge 135, 3, 238), (106, .iload 8, 2, 0), (108, .iload 5, 2, 0), (110, .if_icmp .eq 122, 3, 232)],
  [(113, .iload 8, 2, 0), (115, .iload 6, 2, 0), (117, .if_icmp .eq 115, 3, 232), (120, .iload 8, 2, 0), (122, .iload 7, 2, 0), (124, .if_icmp .ne 6, 3, 130), (127, .goto 105, 3, 232)],
  [(130, .iload 4, 2, 0), (132, .iconst 4, 1, 0), (133, .if_icmp .ne 42, 3, 175), (136, .aload_n 0, 1, 0), (137, .iload_n 1, 1, 0), (138, .aload_n 0, 1, 0), (139, .getfield 34, 3, 0), (142, .iload 5, 2, 0)],
  [(144, .iaload, 1, 0), (145, .aload_n 0, 1, 0), (146, .getfield 34, 3, 0), (149, .iload 6, 2, 0), (151, .iaload, 1, 0), (152, .aload_n 0, 1, 0), (153, .getfield 34, 3, 0), (156, .iload 7, 2, 0), (158, .iaload, 1, 0), (159, .aload_n 0, 1, 0)],
  [(160, .getfield 34, 3, 0), (163, .iload 8, 2, 0), (165, .iaload, 1, 0), (166, .invokevirtual 121, 3, 0), (169, .ifCond .eq 63, 3, 232), (172, .goto 58, 3, 230), (175, .aload_n 0, 1, 0)],
  [(176, .iload_n 1, 1, 0), (177, .aload_n 0, 1, 0), (178, .getfield 34, 3, 0), (181, .iload 5, 2, 0), (183, .iaload, 1, 0), (184, .aload_n 0, 1, 0), (185, .getfield 34, 3, 0), (188, .iload 6, 2, 0), (190, .iaload, 1, 0), (191, .aload_n 0, 1, 0)],
  [(192, .getfield 34, 3, 0), (195, .iload 7, 2, 0), (197, .iaload, 1, 0), (198, .aload_n 0, 1, 0), (199, .getfield 34, 3, 0), (202, .iload 8, 2, 0), (204, .iaload, 1, 0), (205, .aload_n 0, 1, 0), (206, .getfield 34, 3, 0)],
  [(209, .bipush 10, 2, 0), (211, .iload 5, 2, 0), (213, .isub, 1, 0), (214, .iload 6, 2, 0), (216, .isub, 1, 0), (217, .iload 7, 2, 0), (219, .isub, 1, 0), (220, .iload 8, 2, 0), (222, .isub, 1, 0), (223, .iaload, 1, 0)],
  [(224, .invokevirtual 125, 3, 0), (227, .ifCond .eq 5, 3, 232), (230, .iconst 1, 1, 0), (231, .ireturn, 1, 0), (232, .iinc 8 1, 3, 0), (235, .goto (-136), 3, 99), (238, .iinc 7 1, 3, 0)],
  [(241, .goto (-176), 3, 65), (244, .iinc 6 1, 3, 0), (247, .goto (-192), 3, 55), (250, .iinc 5 1, 3, 0), (253, .goto (-208), 3, 45)],
  [(256, .iconst 0, 1, 0), (257, .ireturn, 1, 0)]]
set_option maxRecDepth 100000 in
theorem tX7_breaks_ok : pt_ok YX7_breaks.2.1 tX7_breaks = true := by decide +kernel
theorem nX7_breaks : (plainFor yX7_breaks && decide (yX7_breaks.cls = pt_own YX7_breaks.1)) = true := by decide +kernel
abbrev YX7_bits : pt_Y := (7, cX7_bits, 3, (some .int), ({ frames := 0, cells := 0, slots := 0, locals := 0 } : Room))
def tX7_bits : pt_B := [
  [(0, .iconst 0, 1, 0), (1, .istore_n 1, 1, 0), (2, .iconst 0, 1, 0), (3, .istore_n 2, 1, 0), (4, .iload_n 2, 1, 0), (5, .bipush 10, 2, 0), (7, .if_icmp .ge 17, 3, 24), (10, .iload_n 1, 1, 0), (11, .iload_n 0, 1, 0), (12, .iload_n 2, 1, 0), (13, .ishr, 1, 0), (14, .iconst 1, 1, 0), (15, .iand, 1, 0)],
  [(16, .iadd, 1, 0), (17, .istore_n 1, 1, 0), (18, .iinc 2 1, 3, 0), (21, .goto (-17), 3, 4), (24, .iload_n 1, 1, 0), (25, .ireturn, 1, 0)]]
set_option maxRecDepth 100000 in
theorem tX7_bits_ok : pt_ok YX7_bits.2.1 tX7_bits = true := by decide +kernel
theorem nX7_bits : (plainFor yX7_bits && decide (yX7_bits.cls = pt_own YX7_bits.1)) = true := by decide +kernel
abbrev YX7_whyNot : pt_Y := (7, cX7_whyNot, 7, (some .int), ({ frames := 5, cells := 0, slots := 0, locals := 128 } : Room))
def tX7_whyNot : pt_B := [
  [(0, .iconst 4, 1, 0), (1, .istore_n 3, 1, 0), (2, .iload_n 3, 1, 0), (3, .bipush 6, 2, 0), (5, .if_icmp .ge 90, 3, 95), (8, .iconst 1, 1, 0), (9, .iload_n 2, 1, 0), (10, .ishl, 1, 0), (11, .iconst 1, 1, 0), (12, .isub, 1, 0), (13, .istore 4, 2, 0), (15, .iload 4, 2, 0)],
  [(17, .ifCond .le 72, 3, 89), (20, .iload 4, 2, 0), (22, .invokestatic 129, 3, 0), (25, .iload_n 3, 1, 0), (26, .if_icmp .eq 6, 3, 32), (29, .goto 54, 3, 83)],
  [(32, .iconst 0, 1, 0), (33, .istore 5, 2, 0), (35, .iconst 0, 1, 0), (36, .istore 6, 2, 0), (38, .iload 6, 2, 0), (40, .iload_n 2, 1, 0), (41, .if_icmp .ge 28, 3, 69), (44, .iload 5, 2, 0), (46, .iload 4, 2, 0)],
  [(48, .iload_n 2, 1, 0), (49, .iconst 1, 1, 0), (50, .isub, 1, 0), (51, .iload 6, 2, 0), (53, .isub, 1, 0), (54, .ishr, 1, 0), (55, .iconst 1, 1, 0), (56, .iand, 1, 0), (57, .iload 6, 2, 0), (59, .ishl, 1, 0), (60, .ior, 1, 0), (61, .istore 5, 2, 0), (63, .iinc 6 1, 3, 0)],
  [(66, .goto (-28), 3, 38), (69, .aload_n 0, 1, 0), (70, .iload_n 1, 1, 0), (71, .iload_n 2, 1, 0), (72, .iload 5, 2, 0), (74, .invokevirtual 133, 3, 0), (77, .ifCond .eq 6, 3, 83)],
  [(80, .iload 5, 2, 0), (82, .ireturn, 1, 0), (83, .iinc 4 (-1), 3, 0), (86, .goto (-71), 3, 15), (89, .iinc 3 1, 3, 0), (92, .goto (-90), 3, 2), (95, .iconst 0, 1, 0)],
  [(96, .ireturn, 1, 0)]]
set_option maxRecDepth 100000 in
theorem tX7_whyNot_ok : pt_ok YX7_whyNot.2.1 tX7_whyNot = true := by decide +kernel
theorem nX7_whyNot : (plainFor yX7_whyNot && decide (yX7_whyNot.cls = pt_own YX7_whyNot.1)) = true := by decide +kernel
abbrev YX7_isLawful : pt_Y := (7, cX7_isLawful, 2, (some .boolean), ({ frames := 6, cells := 0, slots := 0, locals := 154 } : Room))
def tX7_isLawful : pt_B := [
  [(0, .aload_n 0, 1, 0), (1, .iload_n 1, 1, 0), (2, .invokevirtual 89, 3, 0), (5, .ifCond .eq 24, 3, 29), (8, .aload_n 0, 1, 0), (9, .bipush 120, 2, 0), (11, .iload_n 1, 1, 0), (12, .imul, 1, 0), (13, .aload_n 0, 1, 0), (14, .getfield 13, 3, 0)],
  [(17, .iload_n 1, 1, 0), (18, .iaload, 1, 0), (19, .invokevirtual 137, 3, 0), (22, .ifCond .ne 7, 3, 29), (25, .iconst 1, 1, 0), (26, .goto 4, 3, 30), (29, .iconst 0, 1, 0), (30, .ireturn, 1, 0)]]
set_option maxRecDepth 100000 in
theorem tX7_isLawful_ok : pt_ok YX7_isLawful.2.1 tX7_isLawful = true := by decide +kernel
theorem nX7_isLawful : (plainFor yX7_isLawful && decide (yX7_isLawful.cls = pt_own YX7_isLawful.1)) = true := by decide +kernel
abbrev YX7_lawful : pt_Y := (7, cX7_lawful, 2, (some .int), ({ frames := 7, cells := 0, slots := 0, locals := 175 } : Room))
def tX7_lawful : pt_B := [
  [(0, .aload_n 0, 1, 0), (1, .iconst 0, 1, 0), (2, .putfield 64, 3, 0), (5, .aload_n 0, 1, 0), (6, .iload_n 1, 1, 0), (7, .invokevirtual 89, 3, 0), (10, .ifCond .eq 19, 3, 29), (13, .aload_n 0, 1, 0), (14, .iload_n 1, 1, 0), (15, .invokevirtual 141, 3, 0)],
  [(18, .ifCond .eq 7, 3, 25), (21, .iconst 1, 1, 0), (22, .goto 8, 3, 30), (25, .iconst 0, 1, 0), (26, .goto 4, 3, 30), (29, .iconst (-1), 1, 0), (30, .ireturn, 1, 0)]]
set_option maxRecDepth 100000 in
theorem tX7_lawful_ok : pt_ok YX7_lawful.2.1 tX7_lawful = true := by decide +kernel
theorem nX7_lawful : (plainFor yX7_lawful && decide (yX7_lawful.cls = pt_own YX7_lawful.1)) = true := by decide +kernel
abbrev YX7_why : pt_Y := (7, cX7_why, 2, (some .int), ({ frames := 6, cells := 0, slots := 0, locals := 154 } : Room))
def tX7_why : pt_B := [
  [(0, .aload_n 0, 1, 0), (1, .iconst 0, 1, 0), (2, .putfield 64, 3, 0), (5, .aload_n 0, 1, 0), (6, .iload_n 1, 1, 0), (7, .invokevirtual 89, 3, 0), (10, .ifCond .eq 20, 3, 30), (13, .aload_n 0, 1, 0), (14, .bipush 120, 2, 0)],
  [(16, .iload_n 1, 1, 0), (17, .imul, 1, 0), (18, .aload_n 0, 1, 0), (19, .getfield 13, 3, 0), (22, .iload_n 1, 1, 0), (23, .iaload, 1, 0), (24, .invokevirtual 137, 3, 0), (27, .goto 4, 3, 31), (30, .iconst (-1), 1, 0), (31, .ireturn, 1, 0)]]
set_option maxRecDepth 100000 in
theorem tX7_why_ok : pt_ok YX7_why.2.1 tX7_why = true := by decide +kernel
theorem nX7_why : (plainFor yX7_why && decide (yX7_why.cls = pt_own YX7_why.1)) = true := by decide +kernel
abbrev YX7_nextTo : pt_Y := (7, cX7_nextTo, 7, (some .int), ({ frames := 3, cells := 0, slots := 0, locals := 75 } : Room))
def tX7_nextTo : pt_B := [
  [(0, .iconst 0, 1, 0), (1, .istore 4, 2, 0), (3, .iload 4, 2, 0), (5, .bipush 10, 2, 0), (7, .if_icmp .ge 101, 3, 108), (10, .iload 4, 2, 0), (12, .iload_n 3, 1, 0), (13, .if_icmp .eq 89, 3, 102)],
  [(16, .iload_n 2, 1, 0), (17, .iload 4, 2, 0), (19, .ishr, 1, 0), (20, .iconst 1, 1, 0), (21, .iand, 1, 0), (22, .ifCond .ne 6, 3, 28), (25, .goto 77, 3, 102), (28, .iconst 1, 1, 0), (29, .istore 5, 2, 0), (31, .iconst 0, 1, 0)],
  [(32, .istore 6, 2, 0), (34, .iload 6, 2, 0), (36, .bipush 10, 2, 0), (38, .if_icmp .ge 56, 3, 94), (41, .iload 5, 2, 0), (43, .ifCond .eq 42, 3, 85), (46, .iload 6, 2, 0)],
  [(48, .iload_n 3, 1, 0), (49, .if_icmp .eq 32, 3, 81), (52, .iload 6, 2, 0), (54, .iload 4, 2, 0), (56, .if_icmp .eq 25, 3, 81), (59, .iload_n 2, 1, 0), (60, .iload 6, 2, 0), (62, .ishr, 1, 0), (63, .iconst 1, 1, 0)],
  [(64, .iand, 1, 0), (65, .ifCond .eq 16, 3, 81), (68, .aload_n 0, 1, 0), (69, .iload_n 1, 1, 0), (70, .iload_n 3, 1, 0), (71, .iload 4, 2, 0), (73, .iload 6, 2, 0), (75, .invokevirtual 118, 3, 0), (78, .ifCond .eq 7, 3, 85)],
  [(81, .iconst 1, 1, 0), (82, .goto 4, 3, 86), (85, .iconst 0, 1, 0), (86, .istore 5, 2, 0), (88, .iinc 6 1, 3, 0), (91, .goto (-57), 3, 34), (94, .iload 5, 2, 0)],
  [(96, .ifCond .eq 6, 3, 102), (99, .iload 4, 2, 0), (101, .ireturn, 1, 0), (102, .iinc 4 1, 3, 0), (105, .goto (-102), 3, 3), (108, .iconst (-1), 1, 0), (109, .ireturn, 1, 0)]]
set_option maxRecDepth 100000 in
theorem tX7_nextTo_ok : pt_ok YX7_nextTo.2.1 tX7_nextTo = true := by decide +kernel
theorem nX7_nextTo : (plainFor yX7_nextTo && decide (yX7_nextTo.cls = pt_own YX7_nextTo.1)) = true := by decide +kernel
abbrev YX7_rimOf : pt_Y := (7, cX7_rimOf, 5, (some .int), ({ frames := 4, cells := 0, slots := 0, locals := 101 } : Room))
def tX7_rimOf : pt_B := [
  [(0, .iload_n 2, 1, 0), (1, .invokestatic 129, 3, 0), (4, .iconst 3, 1, 0), (5, .if_icmp .ge 5, 3, 10), (8, .iload_n 2, 1, 0), (9, .ireturn, 1, 0), (10, .iconst 0, 1, 0), (11, .istore_n 3, 1, 0), (12, .iconst 0, 1, 0), (13, .istore 4, 2, 0), (15, .iload 4, 2, 0)],
  [(17, .bipush 10, 2, 0), (19, .if_icmp .ge 37, 3, 56), (22, .iload_n 2, 1, 0), (23, .iload 4, 2, 0), (25, .ishr, 1, 0), (26, .iconst 1, 1, 0), (27, .iand, 1, 0), (28, .iconst 1, 1, 0), (29, .if_icmp .ne 21, 3, 50)],
  [(32, .aload_n 0, 1, 0), (33, .iload_n 1, 1, 0), (34, .iload_n 2, 1, 0), (35, .iload 4, 2, 0), (37, .invokevirtual 144, 3, 0), (40, .ifCond .lt 10, 3, 50), (43, .iload_n 3, 1, 0), (44, .iconst 1, 1, 0), (45, .iload 4, 2, 0), (47, .ishl, 1, 0)],
  [(48, .ior, 1, 0), (49, .istore_n 3, 1, 0), (50, .iinc 4 1, 3, 0), (53, .goto (-38), 3, 15), (56, .iload_n 3, 1, 0), (57, .ireturn, 1, 0)]]
set_option maxRecDepth 100000 in
theorem tX7_rimOf_ok : pt_ok YX7_rimOf.2.1 tX7_rimOf = true := by decide +kernel
theorem nX7_rimOf : (plainFor yX7_rimOf && decide (yX7_rimOf.cls = pt_own YX7_rimOf.1)) = true := by decide +kernel
abbrev YX7_rim : pt_Y := (7, cX7_rim, 2, (some .int), ({ frames := 7, cells := 0, slots := 0, locals := 175 } : Room))
def tX7_rim : pt_B := [
  [(0, .aload_n 0, 1, 0), (1, .iconst 0, 1, 0), (2, .putfield 64, 3, 0), (5, .aload_n 0, 1, 0), (6, .iload_n 1, 1, 0), (7, .invokevirtual 141, 3, 0), (10, .ifCond .eq 27, 3, 37), (13, .aload_n 0, 1, 0), (14, .bipush 120, 2, 0)],
  [(16, .iload_n 1, 1, 0), (17, .imul, 1, 0), (18, .iconst 1, 1, 0), (19, .aload_n 0, 1, 0), (20, .getfield 13, 3, 0), (23, .iload_n 1, 1, 0), (24, .iaload, 1, 0), (25, .ishl, 1, 0), (26, .iconst 1, 1, 0), (27, .isub, 1, 0), (28, .invokevirtual 147, 3, 0), (31, .invokestatic 129, 3, 0)],
  [(34, .goto 4, 3, 38), (37, .iconst (-1), 1, 0), (38, .ireturn, 1, 0)]]
set_option maxRecDepth 100000 in
theorem tX7_rim_ok : pt_ok YX7_rim.2.1 tX7_rim = true := by decide +kernel
theorem nX7_rim : (plainFor yX7_rim && decide (yX7_rim.cls = pt_own YX7_rim.1)) = true := by decide +kernel
abbrev YX7_onRim : pt_Y := (7, cX7_onRim, 7, (some .int), ({ frames := 7, cells := 0, slots := 0, locals := 175 } : Room))
def tX7_onRim : pt_B := [
  [(0, .aload_n 0, 1, 0), (1, .iload_n 1, 1, 0), (2, .invokevirtual 141, 3, 0), (5, .istore_n 3, 1, 0), (6, .iload_n 3, 1, 0), (7, .ifCond .eq 16, 3, 23), (10, .iconst 1, 1, 0), (11, .aload_n 0, 1, 0), (12, .getfield 13, 3, 0), (15, .iload_n 1, 1, 0)],
  [(16, .iaload, 1, 0), (17, .ishl, 1, 0), (18, .iconst 1, 1, 0), (19, .isub, 1, 0), (20, .goto 4, 3, 24), (23, .iconst 0, 1, 0), (24, .istore 4, 2, 0), (26, .aload_n 0, 1, 0), (27, .iload_n 3, 1, 0), (28, .ifCond .eq 24, 3, 52), (31, .iload_n 2, 1, 0)],
  [(32, .ifCond .lt 20, 3, 52), (35, .iload_n 2, 1, 0), (36, .aload_n 0, 1, 0), (37, .bipush 120, 2, 0), (39, .iload_n 1, 1, 0), (40, .imul, 1, 0), (41, .iload 4, 2, 0), (43, .invokevirtual 147, 3, 0), (46, .invokestatic 129, 3, 0)],
  [(49, .if_icmp .lt 7, 3, 56), (52, .iconst 1, 1, 0), (53, .goto 4, 3, 57), (56, .iconst 0, 1, 0), (57, .invokevirtual 150, 3, 0), (60, .ifCond .eq 5, 3, 65), (63, .iconst 0, 1, 0)],
  [(64, .ireturn, 1, 0), (65, .iconst 0, 1, 0), (66, .istore 5, 2, 0), (68, .aload_n 0, 1, 0), (69, .bipush 120, 2, 0), (71, .iload_n 1, 1, 0), (72, .imul, 1, 0), (73, .iload 4, 2, 0), (75, .iload 5, 2, 0), (77, .invokevirtual 144, 3, 0)],
  [(80, .ifCond .ge 9, 3, 89), (83, .iinc 5 1, 3, 0), (86, .goto (-18), 3, 68), (89, .iconst 0, 1, 0), (90, .istore 6, 2, 0), (92, .iload 6, 2, 0), (94, .iload_n 2, 1, 0), (95, .if_icmp .ge 23, 3, 118)],
  [(98, .aload_n 0, 1, 0), (99, .bipush 120, 2, 0), (101, .iload_n 1, 1, 0), (102, .imul, 1, 0), (103, .iload 4, 2, 0), (105, .iload 5, 2, 0), (107, .invokevirtual 144, 3, 0), (110, .istore 5, 2, 0)],
  [(112, .iinc 6 1, 3, 0), (115, .goto (-23), 3, 92), (118, .iload 5, 2, 0), (120, .ireturn, 1, 0)]]
set_option maxRecDepth 100000 in
theorem tX7_onRim_ok : pt_ok YX7_onRim.2.1 tX7_onRim = true := by decide +kernel
theorem nX7_onRim : (plainFor yX7_onRim && decide (yX7_onRim.cls = pt_own YX7_onRim.1)) = true := by decide +kernel
abbrev YX7_layer : pt_Y := (7, cX7_layer, 5, (some .int), ({ frames := 7, cells := 0, slots := 0, locals := 175 } : Room))
def tX7_layer : pt_B := [
  [(0, .aload_n 0, 1, 0), (1, .iconst 0, 1, 0), (2, .putfield 64, 3, 0), (5, .aload_n 0, 1, 0), (6, .iload_n 1, 1, 0), (7, .invokevirtual 141, 3, 0), (10, .ifCond .eq 17, 3, 27), (13, .iload_n 2, 1, 0), (14, .ifCond .lt 13, 3, 27)],
  [(17, .iload_n 2, 1, 0), (18, .aload_n 0, 1, 0), (19, .getfield 13, 3, 0), (22, .iload_n 1, 1, 0), (23, .iaload, 1, 0), (24, .if_icmp .lt 5, 3, 29), (27, .iconst (-1), 1, 0), (28, .ireturn, 1, 0), (29, .iconst 1, 1, 0), (30, .aload_n 0, 1, 0), (31, .getfield 13, 3, 0)],
  [(34, .iload_n 1, 1, 0), (35, .iaload, 1, 0), (36, .ishl, 1, 0), (37, .iconst 1, 1, 0), (38, .isub, 1, 0), (39, .istore_n 3, 1, 0), (40, .iconst 0, 1, 0), (41, .istore 4, 2, 0), (43, .aload_n 0, 1, 0), (44, .bipush 120, 2, 0), (46, .iload_n 1, 1, 0), (47, .imul, 1, 0)],
  [(48, .iload_n 3, 1, 0), (49, .invokevirtual 147, 3, 0), (52, .iload_n 2, 1, 0), (53, .ishr, 1, 0), (54, .iconst 1, 1, 0), (55, .iand, 1, 0), (56, .ifCond .ne 23, 3, 79), (59, .iload_n 3, 1, 0), (60, .aload_n 0, 1, 0), (61, .bipush 120, 2, 0), (63, .iload_n 1, 1, 0)],
  [(64, .imul, 1, 0), (65, .iload_n 3, 1, 0), (66, .invokevirtual 147, 3, 0), (69, .iconst (-1), 1, 0), (70, .ixor, 1, 0), (71, .iand, 1, 0), (72, .istore_n 3, 1, 0), (73, .iinc 4 1, 3, 0), (76, .goto (-33), 3, 43), (79, .iload 4, 2, 0)],
  [(81, .ireturn, 1, 0)]]
set_option maxRecDepth 100000 in
theorem tX7_layer_ok : pt_ok YX7_layer.2.1 tX7_layer = true := by decide +kernel
theorem nX7_layer : (plainFor yX7_layer && decide (yX7_layer.cls = pt_own YX7_layer.1)) = true := by decide +kernel
abbrev YX7_threesOf : pt_Y := (7, cX7_threesOf, 1, (some .int), ({ frames := 0, cells := 0, slots := 0, locals := 0 } : Room))
def tX7_threesOf : pt_B := [
  [(0, .iload_n 0, 1, 0), (1, .iload_n 0, 1, 0), (2, .iconst 1, 1, 0), (3, .isub, 1, 0), (4, .imul, 1, 0), (5, .iload_n 0, 1, 0), (6, .iconst 2, 1, 0), (7, .isub, 1, 0), (8, .imul, 1, 0), (9, .bipush 6, 2, 0), (11, .idiv, 1, 0), (12, .ireturn, 1, 0)]]
set_option maxRecDepth 100000 in
theorem tX7_threesOf_ok : pt_ok YX7_threesOf.2.1 tX7_threesOf = true := by decide +kernel
theorem nX7_threesOf : (plainFor yX7_threesOf && decide (yX7_threesOf.cls = pt_own YX7_threesOf.1)) = true := by decide +kernel
abbrev YX7_around : pt_Y := (7, cX7_around, 7, none, ({ frames := 3, cells := 0, slots := 0, locals := 75 } : Room))
def tX7_around : pt_B := [
  [(0, .aload_n 0, 1, 0), (1, .getfield 31, 3, 0), (4, .iconst 0, 1, 0), (5, .iload_n 3, 1, 0), (6, .iastore, 1, 0), (7, .iconst 1, 1, 0), (8, .istore 4, 2, 0), (10, .iconst 0, 1, 0), (11, .istore 5, 2, 0), (13, .iload 5, 2, 0), (15, .iload_n 2, 1, 0)],
  [(16, .if_icmp .ge 82, 3, 98), (19, .iload 5, 2, 0), (21, .iload_n 3, 1, 0), (22, .if_icmp .ne 6, 3, 28), (25, .goto 67, 3, 92), (28, .iload 4, 2, 0), (30, .istore 6, 2, 0)],
  [(32, .iload 6, 2, 0), (34, .iconst 1, 1, 0), (35, .if_icmp .le 45, 3, 80), (38, .aload_n 0, 1, 0), (39, .iload_n 1, 1, 0), (40, .iload_n 3, 1, 0), (41, .aload_n 0, 1, 0), (42, .getfield 31, 3, 0), (45, .iload 6, 2, 0), (47, .iconst 1, 1, 0)],
  [(48, .isub, 1, 0), (49, .iaload, 1, 0), (50, .iload 5, 2, 0), (52, .invokevirtual 118, 3, 0), (55, .ifCond .ne 25, 3, 80), (58, .aload_n 0, 1, 0), (59, .getfield 31, 3, 0), (62, .iload 6, 2, 0)],
  [(64, .aload_n 0, 1, 0), (65, .getfield 31, 3, 0), (68, .iload 6, 2, 0), (70, .iconst 1, 1, 0), (71, .isub, 1, 0), (72, .iaload, 1, 0), (73, .iastore, 1, 0), (74, .iinc 6 (-1), 3, 0), (77, .goto (-45), 3, 32)],
  [(80, .aload_n 0, 1, 0), (81, .getfield 31, 3, 0), (84, .iload 6, 2, 0), (86, .iload 5, 2, 0), (88, .iastore, 1, 0), (89, .iinc 4 1, 3, 0), (92, .iinc 5 1, 3, 0), (95, .goto (-82), 3, 13)],
  [(98, .return_, 1, 0)]]
set_option maxRecDepth 100000 in
theorem tX7_around_ok : pt_ok YX7_around.2.1 tX7_around = true := by decide +kernel
theorem nX7_around : (plainFor yX7_around && decide (yX7_around.cls = pt_own YX7_around.1)) = true := by decide +kernel
abbrev YX7_rowOf : pt_Y := (7, cX7_rowOf, 8, none, ({ frames := 2, cells := 0, slots := 0, locals := 51 } : Room))
def tX7_rowOf : pt_B := [
  [(0, .iconst 0, 1, 0), (1, .istore 4, 2, 0), (3, .iconst 0, 1, 0), (4, .istore 5, 2, 0), (6, .iload 5, 2, 0), (8, .iload_n 2, 1, 0), (9, .if_icmp .ge 87, 3, 96), (12, .iload 5, 2, 0), (14, .iconst 1, 1, 0), (15, .iadd, 1, 0)],
  [(16, .istore 6, 2, 0), (18, .iload 6, 2, 0), (20, .iload_n 2, 1, 0), (21, .if_icmp .ge 69, 3, 90), (24, .iload 6, 2, 0), (26, .iconst 1, 1, 0), (27, .iadd, 1, 0), (28, .istore 7, 2, 0), (30, .iload 7, 2, 0)],
  [(32, .iload_n 2, 1, 0), (33, .if_icmp .ge 51, 3, 84), (36, .aload_n 3, 1, 0), (37, .iload 4, 2, 0), (39, .aload_n 0, 1, 0), (40, .iload_n 1, 1, 0), (41, .aload_n 0, 1, 0), (42, .getfield 31, 3, 0), (45, .iload 5, 2, 0), (47, .iaload, 1, 0)],
  [(48, .aload_n 0, 1, 0), (49, .getfield 31, 3, 0), (52, .iload 6, 2, 0), (54, .iaload, 1, 0), (55, .aload_n 0, 1, 0), (56, .getfield 31, 3, 0), (59, .iload 7, 2, 0), (61, .iaload, 1, 0), (62, .invokevirtual 81, 3, 0)],
  [(65, .iconst 1, 1, 0), (66, .if_icmp .ne 7, 3, 73), (69, .iconst 1, 1, 0), (70, .goto 4, 3, 74), (73, .iconst 2, 1, 0), (74, .iastore, 1, 0), (75, .iinc 4 1, 3, 0), (78, .iinc 7 1, 3, 0)],
  [(81, .goto (-51), 3, 30), (84, .iinc 6 1, 3, 0), (87, .goto (-69), 3, 18), (90, .iinc 5 1, 3, 0), (93, .goto (-87), 3, 6)],
  [(96, .return_, 1, 0)]]
set_option maxRecDepth 100000 in
theorem tX7_rowOf_ok : pt_ok YX7_rowOf.2.1 tX7_rowOf = true := by decide +kernel
theorem nX7_rowOf : (plainFor yX7_rowOf && decide (yX7_rowOf.cls = pt_own YX7_rowOf.1)) = true := by decide +kernel
abbrev YX7_compare : pt_Y := (7, cX7_compare, 4, (some .int), ({ frames := 0, cells := 0, slots := 0, locals := 0 } : Room))
def tX7_compare : pt_B := [
  [(0, .iconst 0, 1, 0), (1, .istore_n 3, 1, 0), (2, .iload_n 3, 1, 0), (3, .iload_n 2, 1, 0), (4, .if_icmp .ge 26, 3, 30), (7, .aload_n 0, 1, 0), (8, .iload_n 3, 1, 0), (9, .iaload, 1, 0), (10, .aload_n 1, 1, 0), (11, .iload_n 3, 1, 0), (12, .iaload, 1, 0), (13, .if_icmp .eq 11, 3, 24)],
  [(16, .aload_n 0, 1, 0), (17, .iload_n 3, 1, 0), (18, .iaload, 1, 0), (19, .aload_n 1, 1, 0), (20, .iload_n 3, 1, 0), (21, .iaload, 1, 0), (22, .isub, 1, 0), (23, .ireturn, 1, 0), (24, .iinc 3 1, 3, 0), (27, .goto (-25), 3, 2), (30, .iconst 0, 1, 0), (31, .ireturn, 1, 0)]]
set_option maxRecDepth 100000 in
theorem tX7_compare_ok : pt_ok YX7_compare.2.1 tX7_compare = true := by decide +kernel
theorem nX7_compare : (plainFor yX7_compare && decide (yX7_compare.cls = pt_own YX7_compare.1)) = true := by decide +kernel
abbrev YX7_least : pt_Y := (7, cX7_least, 8, none, ({ frames := 4, cells := 0, slots := 0, locals := 101 } : Room))
def tX7_least : pt_B := [
  [(0, .iconst 1, 1, 0), (1, .iload_n 2, 1, 0), (2, .ishl, 1, 0), (3, .iconst 1, 1, 0), (4, .isub, 1, 0), (5, .istore 4, 2, 0), (7, .iconst 0, 1, 0), (8, .istore 5, 2, 0), (10, .iconst 0, 1, 0), (11, .istore 6, 2, 0), (13, .iload 6, 2, 0), (15, .iload_n 2, 1, 0)],
  [(16, .if_icmp .ge 97, 3, 113), (19, .aload_n 0, 1, 0), (20, .iload_n 1, 1, 0), (21, .iload 4, 2, 0), (23, .iload 6, 2, 0), (25, .invokevirtual 144, 3, 0), (28, .ifCond .ge 6, 3, 34), (31, .goto 76, 3, 107)],
  [(34, .aload_n 0, 1, 0), (35, .iload_n 1, 1, 0), (36, .iload_n 2, 1, 0), (37, .iload 6, 2, 0), (39, .invokevirtual 154, 3, 0), (42, .aload_n 0, 1, 0), (43, .iload_n 1, 1, 0), (44, .iload_n 2, 1, 0), (45, .aload_n 0, 1, 0), (46, .getfield 37, 3, 0)],
  [(49, .invokevirtual 157, 3, 0), (52, .iload 5, 2, 0), (54, .ifCond .eq 21, 3, 75), (57, .aload_n 0, 1, 0), (58, .getfield 37, 3, 0), (61, .aload_n 3, 1, 0), (62, .iload_n 2, 1, 0), (63, .invokestatic 161, 3, 0)],
  [(66, .invokestatic 164, 3, 0), (69, .ifCond .lt 6, 3, 75), (72, .goto 35, 3, 107), (75, .iconst 1, 1, 0), (76, .istore 5, 2, 0), (78, .iconst 0, 1, 0), (79, .istore 7, 2, 0)],
  [(81, .iload 7, 2, 0), (83, .iload_n 2, 1, 0), (84, .invokestatic 161, 3, 0), (87, .if_icmp .ge 20, 3, 107), (90, .aload_n 3, 1, 0), (91, .iload 7, 2, 0), (93, .aload_n 0, 1, 0), (94, .getfield 37, 3, 0)],
  [(97, .iload 7, 2, 0), (99, .iaload, 1, 0), (100, .iastore, 1, 0), (101, .iinc 7 1, 3, 0), (104, .goto (-23), 3, 81), (107, .iinc 6 1, 3, 0), (110, .goto (-97), 3, 13)],
  [(113, .return_, 1, 0)]]
set_option maxRecDepth 100000 in
theorem tX7_least_ok : pt_ok YX7_least.2.1 tX7_least = true := by decide +kernel
theorem nX7_least : (plainFor yX7_least && decide (yX7_least.cls = pt_own YX7_least.1)) = true := by decide +kernel
abbrev YX7_codeOf : pt_Y := (7, cX7_codeOf, 4, none, ({ frames := 5, cells := 0, slots := 0, locals := 128 } : Room))
def tX7_codeOf : pt_B := [
  [(0, .aload_n 0, 1, 0), (1, .iload_n 1, 1, 0), (2, .iload_n 2, 1, 0), (3, .aload_n 0, 1, 0), (4, .getfield 40, 3, 0), (7, .invokevirtual 168, 3, 0), (10, .aload_n 0, 1, 0), (11, .iload_n 1, 1, 0), (12, .invokevirtual 111, 3, 0), (15, .aload_n 0, 1, 0)],
  [(16, .iload_n 1, 1, 0), (17, .iload_n 2, 1, 0), (18, .aload_n 0, 1, 0), (19, .getfield 43, 3, 0), (22, .invokevirtual 168, 3, 0), (25, .aload_n 0, 1, 0), (26, .iload_n 1, 1, 0), (27, .invokevirtual 111, 3, 0), (30, .aload_n 0, 1, 0), (31, .getfield 43, 3, 0)],
  [(34, .aload_n 0, 1, 0), (35, .getfield 40, 3, 0), (38, .iload_n 2, 1, 0), (39, .invokestatic 161, 3, 0), (42, .invokestatic 164, 3, 0), (45, .ifCond .ge 31, 3, 76)],
  [(48, .iconst 0, 1, 0), (49, .istore_n 3, 1, 0), (50, .iload_n 3, 1, 0), (51, .iload_n 2, 1, 0), (52, .invokestatic 161, 3, 0), (55, .if_icmp .ge 21, 3, 76), (58, .aload_n 0, 1, 0), (59, .getfield 40, 3, 0), (62, .iload_n 3, 1, 0), (63, .aload_n 0, 1, 0)],
  [(64, .getfield 43, 3, 0), (67, .iload_n 3, 1, 0), (68, .iaload, 1, 0), (69, .iastore, 1, 0), (70, .iinc 3 1, 3, 0), (73, .goto (-23), 3, 50), (76, .return_, 1, 0)]]
set_option maxRecDepth 100000 in
theorem tX7_codeOf_ok : pt_ok YX7_codeOf.2.1 tX7_codeOf = true := by decide +kernel
theorem nX7_codeOf : (plainFor yX7_codeOf && decide (yX7_codeOf.cls = pt_own YX7_codeOf.1)) = true := by decide +kernel
abbrev YX7_code : pt_Y := (7, cX7_code, 3, (some .int), ({ frames := 7, cells := 0, slots := 0, locals := 175 } : Room))
def tX7_code : pt_B := [
  [(0, .aload_n 0, 1, 0), (1, .iconst 0, 1, 0), (2, .putfield 64, 3, 0), (5, .aload_n 0, 1, 0), (6, .iload_n 1, 1, 0), (7, .invokevirtual 141, 3, 0), (10, .ifCond .ne 5, 3, 15), (13, .iconst (-1), 1, 0), (14, .ireturn, 1, 0), (15, .aload_n 0, 1, 0)],
  [(16, .bipush 120, 2, 0), (18, .iload_n 1, 1, 0), (19, .imul, 1, 0), (20, .aload_n 0, 1, 0), (21, .getfield 13, 3, 0), (24, .iload_n 1, 1, 0), (25, .iaload, 1, 0), (26, .invokevirtual 171, 3, 0), (29, .aload_n 0, 1, 0), (30, .aload_n 0, 1, 0), (31, .getfield 13, 3, 0)],
  [(34, .iload_n 1, 1, 0), (35, .iaload, 1, 0), (36, .invokestatic 161, 3, 0), (39, .putfield 174, 3, 0), (42, .iconst 0, 1, 0), (43, .istore_n 2, 1, 0), (44, .iload_n 2, 1, 0), (45, .aload_n 0, 1, 0), (46, .getfield 174, 3, 0)],
  [(49, .if_icmp .ge 22, 3, 71), (52, .aload_n 0, 1, 0), (53, .getfield 49, 3, 0), (56, .iload_n 2, 1, 0), (57, .aload_n 0, 1, 0), (58, .getfield 40, 3, 0), (61, .iload_n 2, 1, 0), (62, .iaload, 1, 0), (63, .i2b, 1, 0)],
  [(64, .bastore, 1, 0), (65, .iinc 2 1, 3, 0), (68, .goto (-24), 3, 44), (71, .aload_n 0, 1, 0), (72, .getfield 174, 3, 0), (75, .ireturn, 1, 0)]]
set_option maxRecDepth 100000 in
theorem tX7_code_ok : pt_ok YX7_code.2.1 tX7_code = true := by decide +kernel
theorem nX7_code : (plainFor yX7_code && decide (yX7_code.cls = pt_own YX7_code.1)) = true := by decide +kernel
abbrev YX7_octet : pt_Y := (7, cX7_octet, 2, (some .int), ({ frames := 1, cells := 0, slots := 0, locals := 21 } : Room))
def tX7_octet : pt_B := [
  [(0, .aload_n 0, 1, 0), (1, .iload_n 1, 1, 0), (2, .ifCond .lt 11, 3, 13), (5, .iload_n 1, 1, 0), (6, .aload_n 0, 1, 0), (7, .getfield 174, 3, 0), (10, .if_icmp .lt 7, 3, 17), (13, .iconst 1, 1, 0), (14, .goto 4, 3, 18)],
  [(17, .iconst 0, 1, 0), (18, .invokevirtual 150, 3, 0), (21, .ifCond .eq 7, 3, 28), (24, .iconst 0, 1, 0), (25, .goto 9, 3, 34), (28, .aload_n 0, 1, 0), (29, .getfield 49, 3, 0)],
  [(32, .iload_n 1, 1, 0), (33, .baload, 1, 0), (34, .ireturn, 1, 0)]]
set_option maxRecDepth 100000 in
theorem tX7_octet_ok : pt_ok YX7_octet.2.1 tX7_octet = true := by decide +kernel
theorem nX7_octet : (plainFor yX7_octet && decide (yX7_octet.cls = pt_own YX7_octet.1)) = true := by decide +kernel
abbrev YX7_fill : pt_Y := (7, cX7_fill, 8, none, ({ frames := 2, cells := 0, slots := 0, locals := 47 } : Room))
def tX7_fill : pt_B := [
  [(0, .iconst 0, 1, 0), (1, .istore 4, 2, 0), (3, .iconst 0, 1, 0), (4, .istore 5, 2, 0), (6, .iload 5, 2, 0), (8, .iload_n 2, 1, 0), (9, .if_icmp .ge 75, 3, 84), (12, .iload 5, 2, 0), (14, .iconst 1, 1, 0), (15, .iadd, 1, 0)],
  [(16, .istore 6, 2, 0), (18, .iload 6, 2, 0), (20, .iload_n 2, 1, 0), (21, .if_icmp .ge 57, 3, 78), (24, .iload 6, 2, 0), (26, .iconst 1, 1, 0), (27, .iadd, 1, 0), (28, .istore 7, 2, 0), (30, .iload 7, 2, 0)],
  [(32, .iload_n 2, 1, 0), (33, .if_icmp .ge 39, 3, 72), (36, .aload_n 0, 1, 0), (37, .bipush 120, 2, 0), (39, .iload_n 1, 1, 0), (40, .imul, 1, 0), (41, .iload 5, 2, 0), (43, .iload 6, 2, 0), (45, .iload 7, 2, 0), (47, .aload_n 3, 1, 0)],
  [(48, .iload 4, 2, 0), (50, .iaload, 1, 0), (51, .iconst 1, 1, 0), (52, .if_icmp .ne 7, 3, 59), (55, .iconst 1, 1, 0), (56, .goto 4, 3, 60), (59, .iconst (-1), 1, 0), (60, .invokevirtual 99, 3, 0), (63, .iinc 4 1, 3, 0)],
  [(66, .iinc 7 1, 3, 0), (69, .goto (-39), 3, 30), (72, .iinc 6 1, 3, 0), (75, .goto (-57), 3, 18), (78, .iinc 5 1, 3, 0)],
  [(81, .goto (-75), 3, 6), (84, .aload_n 0, 1, 0), (85, .getfield 13, 3, 0), (88, .iload_n 1, 1, 0), (89, .iload_n 2, 1, 0), (90, .iastore, 1, 0), (91, .return_, 1, 0)]]
set_option maxRecDepth 100000 in
theorem tX7_fill_ok : pt_ok YX7_fill.2.1 tX7_fill = true := by decide +kernel
theorem nX7_fill : (plainFor yX7_fill && decide (yX7_fill.cls = pt_own YX7_fill.1)) = true := by decide +kernel
abbrev YX7_named : pt_Y := (7, cX7_named, 3, (some .boolean), ({ frames := 7, cells := 0, slots := 0, locals := 175 } : Room))
def tX7_named : pt_B := [
  [(0, .aload_n 0, 1, 0), (1, .iconst 0, 1, 0), (2, .putfield 64, 3, 0), (5, .iload_n 1, 1, 0), (6, .invokestatic 85, 3, 0), (9, .ifCond .eq 11, 3, 20), (12, .aload_n 0, 1, 0), (13, .iload_n 2, 1, 0), (14, .invokevirtual 141, 3, 0)],
  [(17, .ifCond .ne 5, 3, 22), (20, .iconst 0, 1, 0), (21, .ireturn, 1, 0), (22, .aload_n 0, 1, 0), (23, .bipush 120, 2, 0), (25, .iload_n 2, 1, 0), (26, .imul, 1, 0), (27, .aload_n 0, 1, 0), (28, .getfield 13, 3, 0), (31, .iload_n 2, 1, 0)],
  [(32, .iaload, 1, 0), (33, .invokevirtual 171, 3, 0), (36, .aload_n 0, 1, 0), (37, .iload_n 1, 1, 0), (38, .aload_n 0, 1, 0), (39, .getfield 13, 3, 0), (42, .iload_n 2, 1, 0), (43, .iaload, 1, 0), (44, .aload_n 0, 1, 0), (45, .getfield 40, 3, 0)],
  [(48, .invokevirtual 177, 3, 0), (51, .iconst 1, 1, 0), (52, .ireturn, 1, 0)]]
set_option maxRecDepth 100000 in
theorem tX7_named_ok : pt_ok YX7_named.2.1 tX7_named = true := by decide +kernel
theorem nX7_named : (plainFor yX7_named && decide (yX7_named.cls = pt_own YX7_named.1)) = true := by decide +kernel
abbrev YX7_like : pt_Y := (7, cX7_like, 5, (some .int), ({ frames := 7, cells := 0, slots := 0, locals := 175 } : Room))
def tX7_like : pt_B := [
  [(0, .aload_n 0, 1, 0), (1, .iconst 0, 1, 0), (2, .putfield 64, 3, 0), (5, .aload_n 0, 1, 0), (6, .iload_n 1, 1, 0), (7, .invokevirtual 141, 3, 0), (10, .ifCond .eq 11, 3, 21), (13, .aload_n 0, 1, 0), (14, .iload_n 2, 1, 0), (15, .invokevirtual 141, 3, 0)],
  [(18, .ifCond .ne 5, 3, 23), (21, .iconst (-1), 1, 0), (22, .ireturn, 1, 0), (23, .aload_n 0, 1, 0), (24, .getfield 13, 3, 0), (27, .iload_n 1, 1, 0), (28, .iaload, 1, 0), (29, .istore_n 3, 1, 0), (30, .iload_n 3, 1, 0), (31, .aload_n 0, 1, 0)],
  [(32, .getfield 13, 3, 0), (35, .iload_n 2, 1, 0), (36, .iaload, 1, 0), (37, .if_icmp .eq 5, 3, 42), (40, .iconst 0, 1, 0), (41, .ireturn, 1, 0), (42, .aload_n 0, 1, 0), (43, .bipush 120, 2, 0), (45, .iload_n 1, 1, 0), (46, .imul, 1, 0), (47, .iload_n 3, 1, 0)],
  [(48, .aload_n 0, 1, 0), (49, .getfield 46, 3, 0), (52, .invokevirtual 168, 3, 0), (55, .aload_n 0, 1, 0), (56, .bipush 120, 2, 0), (58, .iload_n 2, 1, 0), (59, .imul, 1, 0), (60, .iload_n 3, 1, 0), (61, .aload_n 0, 1, 0), (62, .getfield 40, 3, 0)],
  [(65, .invokevirtual 168, 3, 0), (68, .aload_n 0, 1, 0), (69, .getfield 46, 3, 0), (72, .aload_n 0, 1, 0), (73, .getfield 40, 3, 0), (76, .iload_n 3, 1, 0), (77, .invokestatic 161, 3, 0)],
  [(80, .invokestatic 164, 3, 0), (83, .ifCond .ne 7, 3, 90), (86, .iconst 1, 1, 0), (87, .goto 4, 3, 91), (90, .iconst 0, 1, 0), (91, .istore 4, 2, 0), (93, .aload_n 0, 1, 0), (94, .bipush 120, 2, 0)],
  [(96, .iload_n 2, 1, 0), (97, .imul, 1, 0), (98, .invokevirtual 111, 3, 0), (101, .aload_n 0, 1, 0), (102, .bipush 120, 2, 0), (104, .iload_n 2, 1, 0), (105, .imul, 1, 0), (106, .iload_n 3, 1, 0), (107, .aload_n 0, 1, 0), (108, .getfield 40, 3, 0), (111, .invokevirtual 168, 3, 0)],
  [(114, .aload_n 0, 1, 0), (115, .bipush 120, 2, 0), (117, .iload_n 2, 1, 0), (118, .imul, 1, 0), (119, .invokevirtual 111, 3, 0), (122, .aload_n 0, 1, 0), (123, .getfield 46, 3, 0), (126, .aload_n 0, 1, 0), (127, .getfield 40, 3, 0)],
  [(130, .iload_n 3, 1, 0), (131, .invokestatic 161, 3, 0), (134, .invokestatic 164, 3, 0), (137, .ifCond .ne 10, 3, 147), (140, .iload 4, 2, 0), (142, .iconst 2, 1, 0), (143, .iadd, 1, 0)],
  [(144, .goto 5, 3, 149), (147, .iload 4, 2, 0), (149, .ireturn, 1, 0)]]
set_option maxRecDepth 100000 in
theorem tX7_like_ok : pt_ok YX7_like.2.1 tX7_like = true := by decide +kernel
theorem nX7_like : (plainFor yX7_like && decide (yX7_like.cls = pt_own YX7_like.1)) = true := by decide +kernel
abbrev YX7_swept : pt_Y := (7, cX7_swept, 6, (some .boolean), ({ frames := 2, cells := 0, slots := 0, locals := 47 } : Room))
def tX7_swept : pt_B := [
  [(0, .aload_n 0, 1, 0), (1, .iconst 0, 1, 0), (2, .putfield 64, 3, 0), (5, .aload_n 0, 1, 0), (6, .invokevirtual 92, 3, 0), (9, .iload_n 1, 1, 0), (10, .invokestatic 85, 3, 0), (13, .ifCond .eq 28, 3, 41)],
  [(16, .iload_n 2, 1, 0), (17, .iconst 3, 1, 0), (18, .if_icmp .lt 23, 3, 41), (21, .iload_n 2, 1, 0), (22, .bipush 10, 2, 0), (24, .if_icmp .gt 17, 3, 41), (27, .aload_n 0, 1, 0), (28, .getfield 74, 3, 0), (31, .iload_n 2, 1, 0)],
  [(32, .iload_n 2, 1, 0), (33, .iconst 1, 1, 0), (34, .isub, 1, 0), (35, .imul, 1, 0), (36, .iconst 2, 1, 0), (37, .idiv, 1, 0), (38, .if_icmp .eq 5, 3, 43), (41, .iconst 0, 1, 0), (42, .ireturn, 1, 0), (43, .iconst 0, 1, 0), (44, .istore_n 3, 1, 0), (45, .iload_n 3, 1, 0), (46, .iload_n 2, 1, 0), (47, .if_icmp .ge 16, 3, 63)],
  [(50, .aload_n 0, 1, 0), (51, .getfield 52, 3, 0), (54, .iload_n 3, 1, 0), (55, .iload_n 3, 1, 0), (56, .iastore, 1, 0), (57, .iinc 3 1, 3, 0), (60, .goto (-15), 3, 45), (63, .iconst 0, 1, 0)],
  [(64, .istore_n 3, 1, 0), (65, .iload_n 3, 1, 0), (66, .aload_n 0, 1, 0), (67, .getfield 74, 3, 0), (70, .if_icmp .ge 58, 3, 128), (73, .aload_n 0, 1, 0), (74, .getfield 7, 3, 0), (77, .iload_n 3, 1, 0), (78, .baload, 1, 0), (79, .istore 4, 2, 0)],
  [(81, .iload 4, 2, 0), (83, .ifCond .lt 30, 3, 113), (86, .iload 4, 2, 0), (88, .iload_n 2, 1, 0), (89, .iconst 2, 1, 0), (90, .isub, 1, 0), (91, .if_icmp .gt 22, 3, 113), (94, .aload_n 0, 1, 0), (95, .getfield 52, 3, 0)],
  [(98, .iload 4, 2, 0), (100, .iaload, 1, 0), (101, .aload_n 0, 1, 0), (102, .getfield 52, 3, 0), (105, .iload 4, 2, 0), (107, .iconst 1, 1, 0), (108, .iadd, 1, 0), (109, .iaload, 1, 0), (110, .if_icmp .le 5, 3, 115)],
  [(113, .iconst 0, 1, 0), (114, .ireturn, 1, 0), (115, .aload_n 0, 1, 0), (116, .iload 4, 2, 0), (118, .iload_n 3, 1, 0), (119, .invokevirtual 180, 3, 0), (122, .iinc 3 1, 3, 0), (125, .goto (-60), 3, 65)],
  [(128, .iconst 0, 1, 0), (129, .istore_n 3, 1, 0), (130, .iload_n 3, 1, 0), (131, .iload_n 2, 1, 0), (132, .if_icmp .ge 90, 3, 222), (135, .iload_n 3, 1, 0), (136, .iconst 1, 1, 0), (137, .iadd, 1, 0), (138, .istore 4, 2, 0), (140, .iload 4, 2, 0), (142, .iload_n 2, 1, 0), (143, .if_icmp .ge 73, 3, 216)],
  [(146, .iload 4, 2, 0), (148, .iconst 1, 1, 0), (149, .iadd, 1, 0), (150, .istore 5, 2, 0), (152, .iload 5, 2, 0), (154, .iload_n 2, 1, 0), (155, .if_icmp .ge 55, 3, 210), (158, .aload_n 0, 1, 0), (159, .bipush 120, 2, 0)],
  [(161, .iload_n 1, 1, 0), (162, .imul, 1, 0), (163, .iload_n 3, 1, 0), (164, .iload 4, 2, 0), (166, .iload 5, 2, 0), (168, .aload_n 0, 1, 0), (169, .getfield 55, 3, 0), (172, .bipush 10, 2, 0), (174, .iload_n 3, 1, 0), (175, .imul, 1, 0)],
  [(176, .iload 4, 2, 0), (178, .iadd, 1, 0), (179, .iaload, 1, 0), (180, .aload_n 0, 1, 0), (181, .getfield 55, 3, 0), (184, .bipush 10, 2, 0), (186, .iload 4, 2, 0), (188, .imul, 1, 0), (189, .iload 5, 2, 0), (191, .iadd, 1, 0)],
  [(192, .iaload, 1, 0), (193, .if_icmp .ge 7, 3, 200), (196, .iconst 1, 1, 0), (197, .goto 4, 3, 201), (200, .iconst (-1), 1, 0), (201, .invokevirtual 99, 3, 0), (204, .iinc 5 1, 3, 0), (207, .goto (-55), 3, 152)],
  [(210, .iinc 4 1, 3, 0), (213, .goto (-73), 3, 140), (216, .iinc 3 1, 3, 0), (219, .goto (-89), 3, 130), (222, .aload_n 0, 1, 0), (223, .getfield 13, 3, 0)],
  [(226, .iload_n 1, 1, 0), (227, .iload_n 2, 1, 0), (228, .iastore, 1, 0), (229, .iconst 1, 1, 0), (230, .ireturn, 1, 0)]]
set_option maxRecDepth 100000 in
theorem tX7_swept_ok : pt_ok YX7_swept.2.1 tX7_swept = true := by decide +kernel
theorem nX7_swept : (plainFor yX7_swept && decide (yX7_swept.cls = pt_own YX7_swept.1)) = true := by decide +kernel
abbrev YX7_swap : pt_Y := (7, cX7_swap, 4, none, ({ frames := 0, cells := 0, slots := 0, locals := 0 } : Room))
def tX7_swap : pt_B := [
  [(0, .aload_n 0, 1, 0), (1, .getfield 52, 3, 0), (4, .iload_n 1, 1, 0), (5, .iaload, 1, 0), (6, .istore_n 3, 1, 0), (7, .aload_n 0, 1, 0), (8, .getfield 52, 3, 0), (11, .iload_n 1, 1, 0), (12, .aload_n 0, 1, 0), (13, .getfield 52, 3, 0)],
  [(16, .iload_n 1, 1, 0), (17, .iconst 1, 1, 0), (18, .iadd, 1, 0), (19, .iaload, 1, 0), (20, .iastore, 1, 0), (21, .aload_n 0, 1, 0), (22, .getfield 52, 3, 0), (25, .iload_n 1, 1, 0), (26, .iconst 1, 1, 0), (27, .iadd, 1, 0), (28, .iload_n 3, 1, 0), (29, .iastore, 1, 0), (30, .aload_n 0, 1, 0), (31, .getfield 55, 3, 0)],
  [(34, .bipush 10, 2, 0), (36, .iload_n 3, 1, 0), (37, .imul, 1, 0), (38, .aload_n 0, 1, 0), (39, .getfield 52, 3, 0), (42, .iload_n 1, 1, 0), (43, .iaload, 1, 0), (44, .iadd, 1, 0), (45, .iload_n 2, 1, 0), (46, .iastore, 1, 0), (47, .return_, 1, 0)]]
set_option maxRecDepth 100000 in
theorem tX7_swap_ok : pt_ok YX7_swap.2.1 tX7_swap = true := by decide +kernel
theorem nX7_swap : (plainFor yX7_swap && decide (yX7_swap.cls = pt_own YX7_swap.1)) = true := by decide +kernel
abbrev YX7_wasSwapped : pt_Y := (7, cX7_wasSwapped, 3, (some .boolean), ({ frames := 0, cells := 0, slots := 0, locals := 0 } : Room))
def tX7_wasSwapped : pt_B := [
  [(0, .aload_n 0, 1, 0), (1, .getfield 55, 3, 0), (4, .bipush 10, 2, 0), (6, .iload_n 1, 1, 0), (7, .imul, 1, 0), (8, .iload_n 2, 1, 0), (9, .iadd, 1, 0), (10, .iaload, 1, 0), (11, .ifCond .lt 7, 3, 18), (14, .iconst 1, 1, 0), (15, .goto 4, 3, 19)],
  [(18, .iconst 0, 1, 0), (19, .ireturn, 1, 0)]]
set_option maxRecDepth 100000 in
theorem tX7_wasSwapped_ok : pt_ok YX7_wasSwapped.2.1 tX7_wasSwapped = true := by decide +kernel
theorem nX7_wasSwapped : (plainFor yX7_wasSwapped && decide (yX7_wasSwapped.cls = pt_own YX7_wasSwapped.1)) = true := by decide +kernel
abbrev YX7_isNext : pt_Y := (7, cX7_isNext, 15, (some .boolean), ({ frames := 3, cells := 0, slots := 0, locals := 75 } : Room))
def tX7_isNext : pt_B := [
  [(0, .iload 4, 2, 0), (2, .iload_n 2, 1, 0), (3, .if_icmp .ge 8, 3, 11), (6, .iload 4, 2, 0), (8, .goto 4, 3, 12), (11, .iload_n 2, 1, 0), (12, .istore 5, 2, 0), (14, .iload 4, 2, 0)],
  [(16, .iload_n 3, 1, 0), (17, .if_icmp .le 8, 3, 25), (20, .iload 4, 2, 0), (22, .goto 4, 3, 26), (25, .iload_n 3, 1, 0), (26, .istore 6, 2, 0), (28, .iload_n 2, 1, 0), (29, .iload_n 3, 1, 0), (30, .iadd, 1, 0), (31, .iload 4, 2, 0)],
  [(33, .iadd, 1, 0), (34, .iload 5, 2, 0), (36, .isub, 1, 0), (37, .iload 6, 2, 0), (39, .isub, 1, 0), (40, .istore 7, 2, 0), (42, .aload_n 0, 1, 0), (43, .iload 5, 2, 0), (45, .iload 7, 2, 0), (47, .invokevirtual 183, 3, 0)],
  [(50, .istore 8, 2, 0), (52, .aload_n 0, 1, 0), (53, .iload 5, 2, 0), (55, .iload 6, 2, 0), (57, .invokevirtual 183, 3, 0), (60, .istore 9, 2, 0), (62, .aload_n 0, 1, 0), (63, .iload 7, 2, 0)],
  [(65, .iload 6, 2, 0), (67, .invokevirtual 183, 3, 0), (70, .istore 10, 2, 0), (72, .aload_n 0, 1, 0), (73, .iload_n 1, 1, 0), (74, .iload 5, 2, 0), (76, .iload 7, 2, 0), (78, .iload 6, 2, 0)],
  [(80, .invokevirtual 118, 3, 0), (83, .istore 11, 2, 0), (85, .iload_n 2, 1, 0), (86, .iload 5, 2, 0), (88, .if_icmp .ne 48, 3, 136), (91, .iload_n 3, 1, 0), (92, .iload 6, 2, 0), (94, .if_icmp .ne 42, 3, 136)],
  [(97, .iload 11, 2, 0), (99, .ifCond .eq 21, 3, 120), (102, .iload 8, 2, 0), (104, .ifCond .eq 12, 3, 116), (107, .iload 10, 2, 0), (109, .ifCond .ne 7, 3, 116)],
  [(112, .iconst 1, 1, 0), (113, .goto 22, 3, 135), (116, .iconst 0, 1, 0), (117, .goto 18, 3, 135), (120, .iload 10, 2, 0), (122, .ifCond .eq 12, 3, 134), (125, .iload 8, 2, 0), (127, .ifCond .ne 7, 3, 134)],
  [(130, .iconst 1, 1, 0), (131, .goto 4, 3, 135), (134, .iconst 0, 1, 0), (135, .ireturn, 1, 0), (136, .iload_n 2, 1, 0), (137, .iload 5, 2, 0), (139, .if_icmp .ne 7, 3, 146), (142, .iconst 1, 1, 0), (143, .goto 4, 3, 147)],
  [(146, .iconst 0, 1, 0), (147, .istore 12, 2, 0), (149, .iload 12, 2, 0), (151, .iload 11, 2, 0), (153, .if_icmp .ne 7, 3, 160), (156, .iconst 1, 1, 0), (157, .goto 4, 3, 161)],
  [(160, .iconst 0, 1, 0), (161, .istore 13, 2, 0), (163, .iload 12, 2, 0), (165, .ifCond .eq 8, 3, 173), (168, .iload 10, 2, 0), (170, .goto 5, 3, 175), (173, .iload 8, 2, 0), (175, .istore 14, 2, 0)],
  [(177, .iload 13, 2, 0), (179, .ifCond .eq 21, 3, 200), (182, .iload 9, 2, 0), (184, .ifCond .ne 12, 3, 196), (187, .iload 14, 2, 0), (189, .ifCond .ne 7, 3, 196)],
  [(192, .iconst 1, 1, 0), (193, .goto 22, 3, 215), (196, .iconst 0, 1, 0), (197, .goto 18, 3, 215), (200, .iload 9, 2, 0), (202, .ifCond .eq 12, 3, 214), (205, .iload 14, 2, 0), (207, .ifCond .eq 7, 3, 214)],
  [(210, .iconst 1, 1, 0), (211, .goto 4, 3, 215), (214, .iconst 0, 1, 0), (215, .ireturn, 1, 0)]]
set_option maxRecDepth 100000 in
theorem tX7_isNext_ok : pt_ok YX7_isNext.2.1 tX7_isNext = true := by decide +kernel
theorem nX7_isNext : (plainFor yX7_isNext && decide (yX7_isNext.cls = pt_own YX7_isNext.1)) = true := by decide +kernel
abbrev YX7_sweep : pt_Y := (7, cX7_sweep, 6, (some .int), ({ frames := 5, cells := 0, slots := 0, locals := 136 } : Room))
def tX7_sweep : pt_B := [
  [(0, .aload_n 0, 1, 0), (1, .iconst 0, 1, 0), (2, .putfield 64, 3, 0), (5, .aload_n 0, 1, 0), (6, .iload_n 1, 1, 0), (7, .invokevirtual 89, 3, 0), (10, .ifCond .ne 5, 3, 15), (13, .iconst (-1), 1, 0), (14, .ireturn, 1, 0), (15, .aload_n 0, 1, 0)],
  [(16, .getfield 13, 3, 0), (19, .iload_n 1, 1, 0), (20, .iaload, 1, 0), (21, .istore_n 2, 1, 0), (22, .iconst 0, 1, 0), (23, .istore_n 3, 1, 0), (24, .iload_n 3, 1, 0), (25, .iload_n 2, 1, 0), (26, .if_icmp .ge 16, 3, 42), (29, .aload_n 0, 1, 0), (30, .getfield 52, 3, 0)],
  [(33, .iload_n 3, 1, 0), (34, .iload_n 3, 1, 0), (35, .iastore, 1, 0), (36, .iinc 3 1, 3, 0), (39, .goto (-15), 3, 24), (42, .iconst 0, 1, 0), (43, .istore_n 3, 1, 0), (44, .iload_n 3, 1, 0), (45, .bipush 100, 2, 0), (47, .if_icmp .ge 16, 3, 63)],
  [(50, .aload_n 0, 1, 0), (51, .getfield 55, 3, 0), (54, .iload_n 3, 1, 0), (55, .iconst (-1), 1, 0), (56, .iastore, 1, 0), (57, .iinc 3 1, 3, 0), (60, .goto (-16), 3, 44), (63, .iload_n 2, 1, 0)],
  [(64, .iload_n 2, 1, 0), (65, .iconst 1, 1, 0), (66, .isub, 1, 0), (67, .imul, 1, 0), (68, .iconst 2, 1, 0), (69, .idiv, 1, 0), (70, .istore_n 3, 1, 0), (71, .iconst 0, 1, 0), (72, .istore 4, 2, 0), (74, .iload 4, 2, 0), (76, .iload_n 3, 1, 0), (77, .if_icmp .ge 67, 3, 144)],
  [(80, .iconst 0, 1, 0), (81, .istore 5, 2, 0), (83, .iload 5, 2, 0), (85, .iload_n 2, 1, 0), (86, .iconst 1, 1, 0), (87, .isub, 1, 0), (88, .if_icmp .ge 23, 3, 111), (91, .aload_n 0, 1, 0), (92, .bipush 120, 2, 0), (94, .iload_n 1, 1, 0), (95, .imul, 1, 0)],
  [(96, .iload_n 2, 1, 0), (97, .iload 5, 2, 0), (99, .invokevirtual 187, 3, 0), (102, .ifCond .ne 9, 3, 111), (105, .iinc 5 1, 3, 0), (108, .goto (-25), 3, 83), (111, .iload 5, 2, 0)],
  [(113, .iload_n 2, 1, 0), (114, .iconst 1, 1, 0), (115, .isub, 1, 0), (116, .if_icmp .ne 5, 3, 121), (119, .iconst (-1), 1, 0), (120, .ireturn, 1, 0), (121, .aload_n 0, 1, 0), (122, .getfield 37, 3, 0), (125, .iload 4, 2, 0), (127, .iload 5, 2, 0)],
  [(129, .iastore, 1, 0), (130, .aload_n 0, 1, 0), (131, .iload 5, 2, 0), (133, .iload 4, 2, 0), (135, .invokevirtual 180, 3, 0), (138, .iinc 4 1, 3, 0), (141, .goto (-67), 3, 74)],
  [(144, .iconst 0, 1, 0), (145, .istore 4, 2, 0), (147, .iload 4, 2, 0), (149, .iload_n 3, 1, 0), (150, .if_icmp .ge 24, 3, 174), (153, .aload_n 0, 1, 0), (154, .getfield 49, 3, 0), (157, .iload 4, 2, 0), (159, .aload_n 0, 1, 0)],
  [(160, .getfield 37, 3, 0), (163, .iload 4, 2, 0), (165, .iaload, 1, 0), (166, .i2b, 1, 0), (167, .bastore, 1, 0), (168, .iinc 4 1, 3, 0), (171, .goto (-24), 3, 147), (174, .aload_n 0, 1, 0), (175, .iload_n 3, 1, 0)],
  [(176, .putfield 174, 3, 0), (179, .iload_n 3, 1, 0), (180, .ireturn, 1, 0)]]
set_option maxRecDepth 100000 in
theorem tX7_sweep_ok : pt_ok YX7_sweep.2.1 tX7_sweep = true := by decide +kernel
theorem nX7_sweep : (plainFor yX7_sweep && decide (yX7_sweep.cls = pt_own YX7_sweep.1)) = true := by decide +kernel
abbrev YX7_maySwap : pt_Y := (7, cX7_maySwap, 8, (some .boolean), ({ frames := 4, cells := 0, slots := 0, locals := 109 } : Room))
def tX7_maySwap : pt_B := [
  [(0, .aload_n 0, 1, 0), (1, .getfield 52, 3, 0), (4, .iload_n 3, 1, 0), (5, .iaload, 1, 0), (6, .istore 4, 2, 0), (8, .aload_n 0, 1, 0), (9, .getfield 52, 3, 0), (12, .iload_n 3, 1, 0), (13, .iconst 1, 1, 0), (14, .iadd, 1, 0), (15, .iaload, 1, 0)],
  [(16, .istore 5, 2, 0), (18, .iload 4, 2, 0), (20, .iload 5, 2, 0), (22, .if_icmp .ge 7, 3, 29), (25, .iconst 1, 1, 0), (26, .goto 4, 3, 30), (29, .iconst 0, 1, 0), (30, .istore 6, 2, 0)],
  [(32, .iconst 0, 1, 0), (33, .istore 7, 2, 0), (35, .iload 7, 2, 0), (37, .iload_n 2, 1, 0), (38, .if_icmp .ge 49, 3, 87), (41, .iload 6, 2, 0), (43, .ifCond .eq 44, 3, 87), (46, .iload 7, 2, 0)],
  [(48, .iload 4, 2, 0), (50, .if_icmp .eq 24, 3, 74), (53, .iload 7, 2, 0), (55, .iload 5, 2, 0), (57, .if_icmp .eq 17, 3, 74), (60, .aload_n 0, 1, 0), (61, .iload_n 1, 1, 0), (62, .iload 4, 2, 0)],
  [(64, .iload 5, 2, 0), (66, .iload 7, 2, 0), (68, .invokevirtual 190, 3, 0), (71, .ifCond .eq 7, 3, 78), (74, .iconst 1, 1, 0), (75, .goto 4, 3, 79), (78, .iconst 0, 1, 0), (79, .istore 6, 2, 0)],
  [(81, .iinc 7 1, 3, 0), (84, .goto (-49), 3, 35), (87, .iload 6, 2, 0), (89, .ireturn, 1, 0)]]
set_option maxRecDepth 100000 in
theorem tX7_maySwap_ok : pt_ok YX7_maySwap.2.1 tX7_maySwap = true := by decide +kernel
theorem nX7_maySwap : (plainFor yX7_maySwap && decide (yX7_maySwap.cls = pt_own YX7_maySwap.1)) = true := by decide +kernel
abbrev YX7_isEmpty : pt_Y := (7, cX7_isEmpty, 7, (some .boolean), ({ frames := 4, cells := 0, slots := 0, locals := 101 } : Room))
def tX7_isEmpty : pt_B := [
  [(0, .iconst 0, 1, 0), (1, .istore 4, 2, 0), (3, .iload 4, 2, 0), (5, .iload_n 2, 1, 0), (6, .if_icmp .ge 88, 3, 94), (9, .iload_n 3, 1, 0), (10, .iload 4, 2, 0), (12, .ishr, 1, 0), (13, .iconst 1, 1, 0), (14, .iand, 1, 0), (15, .iconst 1, 1, 0)],
  [(16, .if_icmp .ne 6, 3, 22), (19, .goto 69, 3, 88), (22, .iconst 1, 1, 0), (23, .istore 5, 2, 0), (25, .iconst 0, 1, 0), (26, .istore 6, 2, 0), (28, .iload 6, 2, 0), (30, .iload_n 2, 1, 0), (31, .if_icmp .ge 50, 3, 81)],
  [(34, .iload 5, 2, 0), (36, .ifCond .eq 36, 3, 72), (39, .iload_n 3, 1, 0), (40, .iload 6, 2, 0), (42, .ishr, 1, 0), (43, .iconst 1, 1, 0), (44, .iand, 1, 0), (45, .ifCond .eq 23, 3, 68)],
  [(48, .aload_n 0, 1, 0), (49, .iload_n 1, 1, 0), (50, .iload 6, 2, 0), (52, .aload_n 0, 1, 0), (53, .iload_n 1, 1, 0), (54, .iload_n 3, 1, 0), (55, .iload 6, 2, 0), (57, .invokevirtual 144, 3, 0), (60, .iload 4, 2, 0), (62, .invokevirtual 118, 3, 0)],
  [(65, .ifCond .eq 7, 3, 72), (68, .iconst 1, 1, 0), (69, .goto 4, 3, 73), (72, .iconst 0, 1, 0), (73, .istore 5, 2, 0), (75, .iinc 6 1, 3, 0), (78, .goto (-50), 3, 28)],
  [(81, .iload 5, 2, 0), (83, .ifCond .eq 5, 3, 88), (86, .iconst 0, 1, 0), (87, .ireturn, 1, 0), (88, .iinc 4 1, 3, 0), (91, .goto (-88), 3, 3), (94, .iconst 1, 1, 0), (95, .ireturn, 1, 0)]]
set_option maxRecDepth 100000 in
theorem tX7_isEmpty_ok : pt_ok YX7_isEmpty.2.1 tX7_isEmpty = true := by decide +kernel
theorem nX7_isEmpty : (plainFor yX7_isEmpty && decide (yX7_isEmpty.cls = pt_own YX7_isEmpty.1)) = true := by decide +kernel
abbrev YX7_figures : pt_Y := (7, cX7_figures, 6, (some .int), ({ frames := 7, cells := 0, slots := 0, locals := 175 } : Room))
def tX7_figures : pt_B := [
  [(0, .aload_n 0, 1, 0), (1, .iconst 0, 1, 0), (2, .putfield 64, 3, 0), (5, .aload_n 0, 1, 0), (6, .iload_n 1, 1, 0), (7, .invokevirtual 141, 3, 0), (10, .ifCond .eq 14, 3, 24), (13, .iload_n 2, 1, 0), (14, .iconst 3, 1, 0), (15, .if_icmp .lt 9, 3, 24)],
  [(18, .iload_n 2, 1, 0), (19, .bipush 6, 2, 0), (21, .if_icmp .le 5, 3, 26), (24, .iconst (-1), 1, 0), (25, .ireturn, 1, 0), (26, .iconst 0, 1, 0), (27, .istore 4, 2, 0), (29, .iconst 0, 1, 0), (30, .istore 5, 2, 0)],
  [(32, .iload 5, 2, 0), (34, .iconst 1, 1, 0), (35, .aload_n 0, 1, 0), (36, .getfield 13, 3, 0), (39, .iload_n 1, 1, 0), (40, .iaload, 1, 0), (41, .ishl, 1, 0), (42, .if_icmp .ge 69, 3, 111), (45, .iload 5, 2, 0), (47, .invokestatic 129, 3, 0)],
  [(50, .iload_n 2, 1, 0), (51, .if_icmp .ne 54, 3, 105), (54, .aload_n 0, 1, 0), (55, .bipush 120, 2, 0), (57, .iload_n 1, 1, 0), (58, .imul, 1, 0), (59, .iload 5, 2, 0), (61, .invokevirtual 147, 3, 0)],
  [(64, .iload 5, 2, 0), (66, .if_icmp .eq 6, 3, 72), (69, .goto 36, 3, 105), (72, .iload 4, 2, 0), (74, .iload_n 3, 1, 0), (75, .ifCond .eq 22, 3, 97), (78, .aload_n 0, 1, 0), (79, .bipush 120, 2, 0)],
  [(81, .iload_n 1, 1, 0), (82, .imul, 1, 0), (83, .aload_n 0, 1, 0), (84, .getfield 13, 3, 0), (87, .iload_n 1, 1, 0), (88, .iaload, 1, 0), (89, .iload 5, 2, 0), (91, .invokevirtual 193, 3, 0), (94, .ifCond .eq 7, 3, 101)],
  [(97, .iconst 1, 1, 0), (98, .goto 4, 3, 102), (101, .iconst 0, 1, 0), (102, .iadd, 1, 0), (103, .istore 4, 2, 0), (105, .iinc 5 1, 3, 0), (108, .goto (-76), 3, 32), (111, .iload 4, 2, 0)],
  [(113, .ireturn, 1, 0)]]
set_option maxRecDepth 100000 in
theorem tX7_figures_ok : pt_ok YX7_figures.2.1 tX7_figures = true := by decide +kernel
theorem nX7_figures : (plainFor yX7_figures && decide (yX7_figures.cls = pt_own YX7_figures.1)) = true := by decide +kernel
abbrev YX7_lines : pt_Y := (7, cX7_lines, 8, (some .int), ({ frames := 3, cells := 0, slots := 0, locals := 75 } : Room))
def tX7_lines : pt_B := [
  [(0, .aload_n 0, 1, 0), (1, .iconst 0, 1, 0), (2, .putfield 64, 3, 0), (5, .aload_n 0, 1, 0), (6, .iload_n 1, 1, 0), (7, .invokevirtual 89, 3, 0), (10, .ifCond .ne 5, 3, 15), (13, .iconst (-1), 1, 0), (14, .ireturn, 1, 0), (15, .iconst 0, 1, 0)],
  [(16, .istore_n 3, 1, 0), (17, .iconst 0, 1, 0), (18, .istore 4, 2, 0), (20, .iload 4, 2, 0), (22, .aload_n 0, 1, 0), (23, .getfield 13, 3, 0), (26, .iload_n 1, 1, 0), (27, .iaload, 1, 0), (28, .if_icmp .ge 110, 3, 138), (31, .iload 4, 2, 0)],
  [(33, .iconst 1, 1, 0), (34, .iadd, 1, 0), (35, .istore 5, 2, 0), (37, .iload 5, 2, 0), (39, .aload_n 0, 1, 0), (40, .getfield 13, 3, 0), (43, .iload_n 1, 1, 0), (44, .iaload, 1, 0), (45, .if_icmp .ge 87, 3, 132)],
  [(48, .iconst 0, 1, 0), (49, .istore 6, 2, 0), (51, .iconst 0, 1, 0), (52, .istore 7, 2, 0), (54, .iload 7, 2, 0), (56, .aload_n 0, 1, 0), (57, .getfield 13, 3, 0), (60, .iload_n 1, 1, 0), (61, .iaload, 1, 0), (62, .if_icmp .ge 50, 3, 112)],
  [(65, .iload 6, 2, 0), (67, .iload 7, 2, 0), (69, .iload 4, 2, 0), (71, .if_icmp .eq 31, 3, 102), (74, .iload 7, 2, 0), (76, .iload 5, 2, 0), (78, .if_icmp .eq 24, 3, 102)],
  [(81, .aload_n 0, 1, 0), (82, .bipush 120, 2, 0), (84, .iload_n 1, 1, 0), (85, .imul, 1, 0), (86, .iload 4, 2, 0), (88, .iload 5, 2, 0), (90, .iload 7, 2, 0), (92, .invokevirtual 118, 3, 0), (95, .ifCond .eq 7, 3, 102)],
  [(98, .iconst 1, 1, 0), (99, .goto 4, 3, 103), (102, .iconst 0, 1, 0), (103, .iadd, 1, 0), (104, .istore 6, 2, 0), (106, .iinc 7 1, 3, 0), (109, .goto (-55), 3, 54)],
  [(112, .iload_n 3, 1, 0), (113, .iload 6, 2, 0), (115, .iload_n 2, 1, 0), (116, .if_icmp .ne 7, 3, 123), (119, .iconst 1, 1, 0), (120, .goto 4, 3, 124), (123, .iconst 0, 1, 0), (124, .iadd, 1, 0), (125, .istore_n 3, 1, 0), (126, .iinc 5 1, 3, 0)],
  [(129, .goto (-92), 3, 37), (132, .iinc 4 1, 3, 0), (135, .goto (-115), 3, 20), (138, .iload_n 3, 1, 0), (139, .ireturn, 1, 0)]]
set_option maxRecDepth 100000 in
theorem tX7_lines_ok : pt_ok YX7_lines.2.1 tX7_lines = true := by decide +kernel
theorem nX7_lines : (plainFor yX7_lines && decide (yX7_lines.cls = pt_own YX7_lines.1)) = true := by decide +kernel
abbrev YX7_inside : pt_Y := (7, cX7_inside, 8, (some .int), ({ frames := 3, cells := 0, slots := 0, locals := 65 } : Room))
def tX7_inside : pt_B := [
  [(0, .aload_n 0, 1, 0), (1, .iconst 0, 1, 0), (2, .putfield 64, 3, 0), (5, .aload_n 0, 1, 0), (6, .iload_n 1, 1, 0), (7, .iload_n 2, 1, 0), (8, .iload_n 3, 1, 0), (9, .iload 4, 2, 0), (11, .invokevirtual 107, 3, 0), (14, .ifCond .eq 22, 3, 36)],
  [(17, .aload_n 0, 1, 0), (18, .iload_n 1, 1, 0), (19, .iload_n 2, 1, 0), (20, .iload_n 3, 1, 0), (21, .iload 5, 2, 0), (23, .invokevirtual 107, 3, 0), (26, .ifCond .eq 10, 3, 36), (29, .iload 5, 2, 0), (31, .iload 4, 2, 0)],
  [(33, .if_icmp .ne 5, 3, 38), (36, .iconst (-1), 1, 0), (37, .ireturn, 1, 0), (38, .bipush 120, 2, 0), (40, .iload_n 1, 1, 0), (41, .imul, 1, 0), (42, .istore 6, 2, 0), (44, .aload_n 0, 1, 0), (45, .iload 6, 2, 0), (47, .iload_n 2, 1, 0)],
  [(48, .iload_n 3, 1, 0), (49, .iload 4, 2, 0), (51, .invokevirtual 81, 3, 0), (54, .istore 7, 2, 0), (56, .aload_n 0, 1, 0), (57, .iload 6, 2, 0), (59, .iload_n 2, 1, 0), (60, .iload_n 3, 1, 0), (61, .iload 5, 2, 0), (63, .invokevirtual 81, 3, 0)],
  [(66, .iload 7, 2, 0), (68, .if_icmp .ne 39, 3, 107), (71, .aload_n 0, 1, 0), (72, .iload 6, 2, 0), (74, .iload_n 3, 1, 0), (75, .iload 4, 2, 0), (77, .iload 5, 2, 0), (79, .invokevirtual 81, 3, 0)],
  [(82, .iload 7, 2, 0), (84, .if_icmp .ne 23, 3, 107), (87, .aload_n 0, 1, 0), (88, .iload 6, 2, 0), (90, .iload 4, 2, 0), (92, .iload_n 2, 1, 0), (93, .iload 5, 2, 0), (95, .invokevirtual 81, 3, 0)],
  [(98, .iload 7, 2, 0), (100, .if_icmp .ne 7, 3, 107), (103, .iconst 1, 1, 0), (104, .goto 4, 3, 108), (107, .iconst 0, 1, 0), (108, .ireturn, 1, 0)]]
set_option maxRecDepth 100000 in
theorem tX7_inside_ok : pt_ok YX7_inside.2.1 tX7_inside = true := by decide +kernel
theorem nX7_inside : (plainFor yX7_inside && decide (yX7_inside.cls = pt_own YX7_inside.1)) = true := by decide +kernel
abbrev YX7_byBits : pt_Y := (7, cX7_byBits, 7, none, ({ frames := 2, cells := 0, slots := 0, locals := 47 } : Room))
def tX7_byBits : pt_B := [
  [(0, .iload_n 1, 1, 0), (1, .iconst 1, 1, 0), (2, .isub, 1, 0), (3, .invokestatic 161, 3, 0), (6, .istore_n 3, 1, 0), (7, .iconst 0, 1, 0), (8, .istore 4, 2, 0), (10, .iload 4, 2, 0), (12, .iload_n 1, 1, 0), (13, .if_icmp .ge 85, 3, 98)],
  [(16, .iload 4, 2, 0), (18, .iconst 1, 1, 0), (19, .iadd, 1, 0), (20, .istore 5, 2, 0), (22, .iload 5, 2, 0), (24, .iload_n 1, 1, 0), (25, .if_icmp .ge 67, 3, 92), (28, .iload 5, 2, 0), (30, .iconst 1, 1, 0), (31, .iadd, 1, 0)],
  [(32, .istore 6, 2, 0), (34, .iload 6, 2, 0), (36, .iload_n 1, 1, 0), (37, .if_icmp .ge 49, 3, 86), (40, .iload 4, 2, 0), (42, .ifCond .le 6, 3, 48), (45, .iinc 3 (-1), 3, 0)],
  [(48, .aload_n 0, 1, 0), (49, .sipush 720, 3, 0), (52, .iload 4, 2, 0), (54, .iload 5, 2, 0), (56, .iload 6, 2, 0), (58, .iload 4, 2, 0), (60, .ifCond .le 16, 3, 76), (63, .iload_n 2, 1, 0)],
  [(64, .iload_n 3, 1, 0), (65, .ishr, 1, 0), (66, .iconst 1, 1, 0), (67, .iand, 1, 0), (68, .iconst 1, 1, 0), (69, .if_icmp .ne 7, 3, 76), (72, .iconst (-1), 1, 0), (73, .goto 4, 3, 77), (76, .iconst 1, 1, 0), (77, .invokevirtual 99, 3, 0)],
  [(80, .iinc 6 1, 3, 0), (83, .goto (-49), 3, 34), (86, .iinc 5 1, 3, 0), (89, .goto (-67), 3, 22), (92, .iinc 4 1, 3, 0), (95, .goto (-85), 3, 10)],
  [(98, .return_, 1, 0)]]
set_option maxRecDepth 100000 in
theorem tX7_byBits_ok : pt_ok YX7_byBits.2.1 tX7_byBits = true := by decide +kernel
theorem nX7_byBits : (plainFor yX7_byBits && decide (yX7_byBits.cls = pt_own YX7_byBits.1)) = true := by decide +kernel
abbrev YX7_find : pt_Y := (7, cX7_find, 5, none, ({ frames := 6, cells := 0, slots := 0, locals := 154 } : Room))
def tX7_find : pt_B := [
  [(0, .aload_n 0, 1, 0), (1, .getfield 58, 3, 0), (4, .iload_n 1, 1, 0), (5, .iaload, 1, 0), (6, .ifCond .lt 4, 3, 10), (9, .return_, 1, 0), (10, .iconst 0, 1, 0), (11, .istore_n 2, 1, 0), (12, .iconst 0, 1, 0), (13, .istore_n 3, 1, 0), (14, .iload_n 3, 1, 0), (15, .iconst 1, 1, 0)],
  [(16, .iload_n 1, 1, 0), (17, .iconst 1, 1, 0), (18, .isub, 1, 0), (19, .invokestatic 161, 3, 0), (22, .ishl, 1, 0), (23, .if_icmp .ge 109, 3, 132), (26, .aload_n 0, 1, 0), (27, .iload_n 1, 1, 0), (28, .iload_n 3, 1, 0), (29, .invokevirtual 196, 3, 0)],
  [(32, .aload_n 0, 1, 0), (33, .sipush 720, 3, 0), (36, .iload_n 1, 1, 0), (37, .invokevirtual 137, 3, 0), (40, .ifCond .eq 6, 3, 46), (43, .goto 83, 3, 126), (46, .aload_n 0, 1, 0), (47, .sipush 720, 3, 0)],
  [(50, .iload_n 1, 1, 0), (51, .invokevirtual 171, 3, 0), (54, .iconst 0, 1, 0), (55, .istore 4, 2, 0), (57, .iload 4, 2, 0), (59, .iload_n 1, 1, 0), (60, .if_icmp .ge 18, 3, 78), (63, .aload_n 0, 1, 0)],
  [(64, .getfield 31, 3, 0), (67, .iload 4, 2, 0), (69, .iload 4, 2, 0), (71, .iastore, 1, 0), (72, .iinc 4 1, 3, 0), (75, .goto (-18), 3, 57), (78, .aload_n 0, 1, 0), (79, .sipush 720, 3, 0)],
  [(82, .iload_n 1, 1, 0), (83, .aload_n 0, 1, 0), (84, .getfield 37, 3, 0), (87, .invokevirtual 157, 3, 0), (90, .aload_n 0, 1, 0), (91, .getfield 37, 3, 0), (94, .aload_n 0, 1, 0), (95, .getfield 40, 3, 0)],
  [(98, .iload_n 1, 1, 0), (99, .invokestatic 161, 3, 0), (102, .invokestatic 164, 3, 0), (105, .ifCond .eq 6, 3, 111), (108, .goto 18, 3, 126), (111, .aload_n 0, 1, 0)],
  [(112, .getfield 61, 3, 0), (115, .bipush 64, 2, 0), (117, .iload_n 1, 1, 0), (118, .imul, 1, 0), (119, .iload_n 2, 1, 0), (120, .iadd, 1, 0), (121, .iload_n 3, 1, 0), (122, .iastore, 1, 0), (123, .iinc 2 1, 3, 0), (126, .iinc 3 1, 3, 0)],
  [(129, .goto (-115), 3, 14), (132, .aload_n 0, 1, 0), (133, .getfield 58, 3, 0), (136, .iload_n 1, 1, 0), (137, .iload_n 2, 1, 0), (138, .iastore, 1, 0), (139, .return_, 1, 0)]]
set_option maxRecDepth 100000 in
theorem tX7_find_ok : pt_ok YX7_find.2.1 tX7_find = true := by decide +kernel
theorem nX7_find : (plainFor yX7_find && decide (yX7_find.cls = pt_own YX7_find.1)) = true := by decide +kernel
abbrev YX7_kinds : pt_Y := (7, cX7_kinds, 2, (some .int), ({ frames := 7, cells := 0, slots := 0, locals := 178 } : Room))
def tX7_kinds : pt_B := [
  [(0, .aload_n 0, 1, 0), (1, .iconst 0, 1, 0), (2, .putfield 64, 3, 0), (5, .iload_n 1, 1, 0), (6, .iconst 3, 1, 0), (7, .if_icmp .lt 9, 3, 16), (10, .iload_n 1, 1, 0), (11, .bipush 6, 2, 0), (13, .if_icmp .le 5, 3, 18)],
  [(16, .iconst (-1), 1, 0), (17, .ireturn, 1, 0), (18, .aload_n 0, 1, 0), (19, .iload_n 1, 1, 0), (20, .invokevirtual 199, 3, 0), (23, .aload_n 0, 1, 0), (24, .getfield 58, 3, 0), (27, .iload_n 1, 1, 0), (28, .iaload, 1, 0), (29, .ireturn, 1, 0)]]
set_option maxRecDepth 100000 in
theorem tX7_kinds_ok : pt_ok YX7_kinds.2.1 tX7_kinds = true := by decide +kernel
theorem nX7_kinds : (plainFor yX7_kinds && decide (yX7_kinds.cls = pt_own YX7_kinds.1)) = true := by decide +kernel
abbrev YX7_kind : pt_Y := (7, cX7_kind, 4, (some .boolean), ({ frames := 7, cells := 0, slots := 0, locals := 178 } : Room))
def tX7_kind : pt_B := [
  [(0, .aload_n 0, 1, 0), (1, .iconst 0, 1, 0), (2, .putfield 64, 3, 0), (5, .iload_n 1, 1, 0), (6, .invokestatic 85, 3, 0), (9, .ifCond .eq 14, 3, 23), (12, .iload_n 2, 1, 0), (13, .iconst 3, 1, 0), (14, .if_icmp .lt 9, 3, 23)],
  [(17, .iload_n 2, 1, 0), (18, .bipush 6, 2, 0), (20, .if_icmp .le 5, 3, 25), (23, .iconst 0, 1, 0), (24, .ireturn, 1, 0), (25, .aload_n 0, 1, 0), (26, .iload_n 2, 1, 0), (27, .invokevirtual 199, 3, 0), (30, .iload_n 3, 1, 0), (31, .ifCond .lt 13, 3, 44)],
  [(34, .iload_n 3, 1, 0), (35, .aload_n 0, 1, 0), (36, .getfield 58, 3, 0), (39, .iload_n 2, 1, 0), (40, .iaload, 1, 0), (41, .if_icmp .lt 5, 3, 46), (44, .iconst 0, 1, 0), (45, .ireturn, 1, 0), (46, .aload_n 0, 1, 0), (47, .iload_n 2, 1, 0)],
  [(48, .aload_n 0, 1, 0), (49, .getfield 61, 3, 0), (52, .bipush 64, 2, 0), (54, .iload_n 2, 1, 0), (55, .imul, 1, 0), (56, .iload_n 3, 1, 0), (57, .iadd, 1, 0), (58, .iaload, 1, 0), (59, .invokevirtual 196, 3, 0), (62, .aload_n 0, 1, 0), (63, .sipush 720, 3, 0)],
  [(66, .bipush 120, 2, 0), (68, .iload_n 1, 1, 0), (69, .imul, 1, 0), (70, .invokevirtual 103, 3, 0), (73, .aload_n 0, 1, 0), (74, .getfield 13, 3, 0), (77, .iload_n 1, 1, 0), (78, .iload_n 2, 1, 0), (79, .iastore, 1, 0)],
  [(80, .iconst 1, 1, 0), (81, .ireturn, 1, 0)]]
set_option maxRecDepth 100000 in
theorem tX7_kind_ok : pt_ok YX7_kind.2.1 tX7_kind = true := by decide +kernel
theorem nX7_kind : (plainFor yX7_kind && decide (yX7_kind.cls = pt_own YX7_kind.1)) = true := by decide +kernel
abbrev YX7_which : pt_Y := (7, cX7_which, 5, (some .int), ({ frames := 7, cells := 0, slots := 0, locals := 178 } : Room))
def tX7_which : pt_B := [
  [(0, .aload_n 0, 1, 0), (1, .iconst 0, 1, 0), (2, .putfield 64, 3, 0), (5, .aload_n 0, 1, 0), (6, .iload_n 1, 1, 0), (7, .invokevirtual 141, 3, 0), (10, .ifCond .eq 14, 3, 24), (13, .aload_n 0, 1, 0), (14, .getfield 13, 3, 0)],
  [(17, .iload_n 1, 1, 0), (18, .iaload, 1, 0), (19, .bipush 6, 2, 0), (21, .if_icmp .le 5, 3, 26), (24, .iconst (-1), 1, 0), (25, .ireturn, 1, 0), (26, .aload_n 0, 1, 0), (27, .getfield 13, 3, 0), (30, .iload_n 1, 1, 0), (31, .iaload, 1, 0)],
  [(32, .istore_n 2, 1, 0), (33, .aload_n 0, 1, 0), (34, .iload_n 2, 1, 0), (35, .invokevirtual 199, 3, 0), (38, .aload_n 0, 1, 0), (39, .bipush 120, 2, 0), (41, .iload_n 1, 1, 0), (42, .imul, 1, 0), (43, .iload_n 2, 1, 0), (44, .invokevirtual 171, 3, 0), (47, .iconst 0, 1, 0)],
  [(48, .istore_n 3, 1, 0), (49, .iload_n 3, 1, 0), (50, .iload_n 2, 1, 0), (51, .invokestatic 161, 3, 0), (54, .if_icmp .ge 21, 3, 75), (57, .aload_n 0, 1, 0), (58, .getfield 46, 3, 0), (61, .iload_n 3, 1, 0), (62, .aload_n 0, 1, 0), (63, .getfield 40, 3, 0)],
  [(66, .iload_n 3, 1, 0), (67, .iaload, 1, 0), (68, .iastore, 1, 0), (69, .iinc 3 1, 3, 0), (72, .goto (-23), 3, 49), (75, .iconst 0, 1, 0), (76, .istore_n 3, 1, 0), (77, .iload_n 3, 1, 0), (78, .aload_n 0, 1, 0), (79, .getfield 58, 3, 0)],
  [(82, .iload_n 2, 1, 0), (83, .iaload, 1, 0), (84, .if_icmp .ge 81, 3, 165), (87, .aload_n 0, 1, 0), (88, .iload_n 2, 1, 0), (89, .aload_n 0, 1, 0), (90, .getfield 61, 3, 0), (93, .bipush 64, 2, 0), (95, .iload_n 2, 1, 0)],
  [(96, .imul, 1, 0), (97, .iload_n 3, 1, 0), (98, .iadd, 1, 0), (99, .iaload, 1, 0), (100, .invokevirtual 196, 3, 0), (103, .iconst 0, 1, 0), (104, .istore 4, 2, 0), (106, .iload 4, 2, 0), (108, .iload_n 2, 1, 0), (109, .if_icmp .ge 18, 3, 127)],
  [(112, .aload_n 0, 1, 0), (113, .getfield 31, 3, 0), (116, .iload 4, 2, 0), (118, .iload 4, 2, 0), (120, .iastore, 1, 0), (121, .iinc 4 1, 3, 0), (124, .goto (-18), 3, 106), (127, .aload_n 0, 1, 0)],
  [(128, .sipush 720, 3, 0), (131, .iload_n 2, 1, 0), (132, .aload_n 0, 1, 0), (133, .getfield 37, 3, 0), (136, .invokevirtual 157, 3, 0), (139, .aload_n 0, 1, 0), (140, .getfield 37, 3, 0), (143, .aload_n 0, 1, 0)],
  [(144, .getfield 46, 3, 0), (147, .iload_n 2, 1, 0), (148, .invokestatic 161, 3, 0), (151, .invokestatic 164, 3, 0), (154, .ifCond .ne 5, 3, 159), (157, .iload_n 3, 1, 0), (158, .ireturn, 1, 0), (159, .iinc 3 1, 3, 0)],
  [(162, .goto (-85), 3, 77), (165, .iconst (-1), 1, 0), (166, .ireturn, 1, 0)]]
set_option maxRecDepth 100000 in
theorem tX7_which_ok : pt_ok YX7_which.2.1 tX7_which = true := by decide +kernel
theorem nX7_which : (plainFor yX7_which && decide (yX7_which.cls = pt_own YX7_which.1)) = true := by decide +kernel
end
section
/-! call sites: their words, by program -/
set_option maxRecDepth 100000 in
theorem mX0_codeOf : pt_ckM yX0_codeOf YX0_codeOf 1 55 413 = true := by decide +kernel
set_option maxRecDepth 100000 in
theorem mX0_findFirstRows : pt_ckM yX0_findFirstRows YX0_findFirstRows 1 55 417 = true := by decide +kernel
set_option maxRecDepth 100000 in
theorem mX0_findFirstRow : pt_ckM yX0_findFirstRow YX0_findFirstRow 3 55 421 = true := by decide +kernel
set_option maxRecDepth 100000 in
theorem mX0_nameBy : pt_ckM yX0_nameBy YX0_nameBy 3 55 429 = true := by decide +kernel
set_option maxRecDepth 100000 in
theorem mX0_offerRow : pt_ckM yX0_offerRow YX0_offerRow 3 55 435 = true := by decide +kernel
set_option maxRecDepth 100000 in
theorem mX0_compareRows : pt_ckM yX0_compareRows YX0_compareRows 3 55 440 = true := by decide +kernel
set_option maxRecDepth 100000 in
theorem mX0_bitsOf : pt_ckM yX0_bitsOf YX0_bitsOf 2 55 566 = true := by decide +kernel
set_option maxRecDepth 100000 in
theorem mX1_faultOf : pt_ckM yX1_faultOf YX1_faultOf 1 60 351 = true := by decide +kernel
set_option maxRecDepth 100000 in
theorem mX1_firstFour : pt_ckM yX1_firstFour YX1_firstFour 1 60 354 = true := by decide +kernel
set_option maxRecDepth 100000 in
theorem mX1_breaksFour : pt_ckM yX1_breaksFour YX1_breaksFour 5 60 357 = true := by decide +kernel
set_option maxRecDepth 100000 in
theorem mX1_firstFive : pt_ckM yX1_firstFive YX1_firstFive 1 60 361 = true := by decide +kernel
set_option maxRecDepth 100000 in
theorem mX1_breaksFive : pt_ckM yX1_breaksFive YX1_breaksFive 6 60 364 = true := by decide +kernel
set_option maxRecDepth 100000 in
theorem mX1_isOneSided : pt_ckM yX1_isOneSided YX1_isOneSided 6 60 367 = true := by decide +kernel
set_option maxRecDepth 100000 in
theorem mX2_isIn : pt_ckM yX2_isIn YX2_isIn 2 61 388 = true := by decide +kernel
set_option maxRecDepth 100000 in
theorem mX2_leastOf : pt_ckM yX2_leastOf YX2_leastOf 2 61 648 = true := by decide +kernel
set_option maxRecDepth 100000 in
theorem mX2_nextTo : pt_ckM yX2_nextTo YX2_nextTo 3 61 391 = true := by decide +kernel
set_option maxRecDepth 100000 in
theorem mX2_rimOf : pt_ckM yX2_rimOf YX2_rimOf 2 61 379 = true := by decide +kernel
set_option maxRecDepth 100000 in
theorem mX2_layerOf : pt_ckM yX2_layerOf YX2_layerOf 2 61 403 = true := by decide +kernel
set_option maxRecDepth 100000 in
theorem mX2_isFigure : pt_ckM yX2_isFigure YX2_isFigure 2 61 526 = true := by decide +kernel
set_option maxRecDepth 100000 in
theorem mX2_insideOf : pt_ckM yX2_insideOf YX2_insideOf 2 61 529 = true := by decide +kernel
set_option maxRecDepth 100000 in
theorem mX3_read : pt_ckM yX3_read YX3_read 2 56 475 = true := by decide +kernel
set_option maxRecDepth 100000 in
theorem mX3_fill : pt_ckM yX3_fill YX3_fill 2 56 491 = true := by decide +kernel
set_option maxRecDepth 100000 in
theorem mX3_find : pt_ckM yX3_find YX3_find 1 56 501 = true := by decide +kernel
set_option maxRecDepth 100000 in
theorem mX3_begin : pt_ckM yX3_begin YX3_begin 1 56 482 = true := by decide +kernel
set_option maxRecDepth 100000 in
theorem mX3_swapAt : pt_ckM yX3_swapAt YX3_swapAt 1 56 487 = true := by decide +kernel
set_option maxRecDepth 100000 in
theorem mX3_leastPlace : pt_ckM yX3_leastPlace YX3_leastPlace 1 56 505 = true := by decide +kernel
set_option maxRecDepth 100000 in
theorem mX3_isDue : pt_ckM yX3_isDue YX3_isDue 3 56 509 = true := by decide +kernel
set_option maxRecDepth 100000 in
theorem mX3_isDueWith : pt_ckM yX3_isDueWith YX3_isDueWith 4 56 513 = true := by decide +kernel
set_option maxRecDepth 100000 in
theorem mX3_areSwapped : pt_ckM yX3_areSwapped YX3_areSwapped 2 56 517 = true := by decide +kernel
set_option maxRecDepth 100000 in
theorem mX4_begin : pt_ckM yX4_begin YX4_begin 1 53 244 = true := by decide +kernel
set_option maxRecDepth 100000 in
theorem mX4_forget : pt_ckM yX4_forget YX4_forget 0 53 251 = true := by decide +kernel
set_option maxRecDepth 100000 in
theorem mX4_everyPoint : pt_ckM yX4_everyPoint YX4_everyPoint 0 53 336 = true := by decide +kernel
set_option maxRecDepth 100000 in
theorem mX4_hasPoint : pt_ckM yX4_hasPoint YX4_hasPoint 1 53 304 = true := by decide +kernel
set_option maxRecDepth 100000 in
theorem mX4_hasThree : pt_ckM yX4_hasThree YX4_hasThree 3 53 300 = true := by decide +kernel
set_option maxRecDepth 100000 in
theorem mX4_leftOf : pt_ckM yX4_leftOf YX4_leftOf 2 53 395 = true := by decide +kernel
set_option maxRecDepth 100000 in
theorem mX4_isLeft : pt_ckM yX4_isLeft YX4_isLeft 3 53 308 = true := by decide +kernel
set_option maxRecDepth 100000 in
theorem mX4_put : pt_ckM yX4_put YX4_put 4 53 255 = true := by decide +kernel
set_option maxRecDepth 100000 in
theorem mX4_putOne : pt_ckM yX4_putOne YX4_putOne 4 53 259 = true := by decide +kernel
set_option maxRecDepth 100000 in
theorem mX4_takeRow : pt_ckM yX4_takeRow YX4_takeRow 2 53 286 = true := by decide +kernel
set_option maxRecDepth 100000 in
theorem mX4_takeTurns : pt_ckM yX4_takeTurns YX4_takeTurns 4 53 321 = true := by decide +kernel
set_option maxRecDepth 100000 in
theorem mX5_addNumber : pt_ckM yX5_addNumber YX5_addNumber 1 54 203 = true := by decide +kernel
set_option maxRecDepth 100000 in
theorem mX5_byteAt : pt_ckM yX5_byteAt YX5_byteAt 1 54 233 = true := by decide +kernel
set_option maxRecDepth 100000 in
theorem mX5_shortAt : pt_ckM yX5_shortAt YX5_shortAt 1 54 229 = true := by decide +kernel
set_option maxRecDepth 100000 in
theorem mX5_hasBit : pt_ckM yX5_hasBit YX5_hasBit 1 54 282 = true := by decide +kernel
set_option maxRecDepth 100000 in
theorem mJ6_compare_7cf53 : pt_ckM yJ6_compare_7cf53 YJ6_compare_7cf53 2 62 443 = true := by decide +kernel
set_option maxRecDepth 100000 in
theorem mJ6_bitCount_0f7a4 : pt_ckM yJ6_bitCount_0f7a4 YJ6_bitCount_0f7a4 1 62 382 = true := by decide +kernel
set_option maxRecDepth 100000 in
theorem mJ9_abs_0f7a4 : pt_ckM yJ9_abs_0f7a4 YJ9_abs_0f7a4 1 58 236 = true := by decide +kernel
set_option maxRecDepth 100000 in
theorem mJ9_min_7cf53 : pt_ckM yJ9_min_7cf53 YJ9_min_7cf53 2 58 450 = true := by decide +kernel
set_option maxRecDepth 100000 in
theorem mJ7_fill_53178 : pt_ckM yJ7_fill_53178 YJ7_fill_53178 2 59 247 = true := by decide +kernel
set_option maxRecDepth 100000 in
theorem kX0_codeOf_15 : pt_ckV YX0_codeOf 15 5 yX0_findFirstRows YX0_findFirstRows 414 415 416 = true := by decide +kernel
set_option maxRecDepth 100000 in
theorem kX0_codeOf_31 : pt_ckN YX0_codeOf yX6_turnsOf YX6_turnsOf 277 = true := by decide +kernel
set_option maxRecDepth 100000 in
theorem kX0_codeOf_35 : pt_ckS YX0_codeOf 35 yX0_compareRows YX0_compareRows 438 439 = true := by decide +kernel
set_option maxRecDepth 100000 in
theorem kX0_findFirstRows_43 : pt_ckV YX0_findFirstRows 43 5 yX0_findFirstRow YX0_findFirstRow 418 420 9 = true := by decide +kernel
set_option maxRecDepth 100000 in
theorem kX0_findFirstRow_47 : pt_ckS YX0_findFirstRow 47 yJ7_fill_53178 YJ7_fill_53178 422 246 = true := by decide +kernel
set_option maxRecDepth 100000 in
theorem kX0_findFirstRow_53 : pt_ckV YX0_findFirstRow 53 3 yX4_everyPoint YX4_everyPoint 423 334 335 = true := by decide +kernel
set_option maxRecDepth 100000 in
theorem kX0_findFirstRow_57 : pt_ckS YX0_findFirstRow 57 yX2_rimOf YX2_rimOf 424 378 = true := by decide +kernel
set_option maxRecDepth 100000 in
theorem kX0_findFirstRow_63 : pt_ckS YX0_findFirstRow 63 yX2_isIn YX2_isIn 425 387 = true := by decide +kernel
set_option maxRecDepth 100000 in
theorem kX0_findFirstRow_67 : pt_ckV YX0_findFirstRow 67 5 yX0_nameBy YX0_nameBy 426 428 10 = true := by decide +kernel
set_option maxRecDepth 100000 in
theorem kX0_findFirstRow_71 : pt_ckV YX0_findFirstRow 71 5 yX0_offerRow YX0_offerRow 432 434 11 = true := by decide +kernel
set_option maxRecDepth 100000 in
theorem kX0_nameBy_74 : pt_ckV YX0_nameBy 74 3 yX4_leftOf YX4_leftOf 430 393 394 = true := by decide +kernel
set_option maxRecDepth 100000 in
theorem kX0_nameBy_78 : pt_ckS YX0_nameBy 78 yJ6_bitCount_0f7a4 YJ6_bitCount_0f7a4 431 381 = true := by decide +kernel
set_option maxRecDepth 100000 in
theorem kX0_offerRow_83 : pt_ckV YX0_offerRow 83 3 yX4_isLeft YX4_isLeft 436 306 307 = true := by decide +kernel
set_option maxRecDepth 100000 in
theorem kX0_compareRows_87 : pt_ckS YX0_compareRows 87 yJ6_compare_7cf53 YJ6_compare_7cf53 441 442 = true := by decide +kernel
set_option maxRecDepth 100000 in
theorem kX1_faultOf_13 : pt_ckS YX1_faultOf 13 yX1_firstFour YX1_firstFour 352 353 = true := by decide +kernel
set_option maxRecDepth 100000 in
theorem kX1_faultOf_19 : pt_ckS YX1_faultOf 19 yX1_firstFive YX1_firstFive 359 360 = true := by decide +kernel
set_option maxRecDepth 100000 in
theorem kX1_firstFour_25 : pt_ckS YX1_firstFour 25 yX1_breaksFour YX1_breaksFour 355 356 = true := by decide +kernel
set_option maxRecDepth 100000 in
theorem kX1_breaksFour_29 : pt_ckV YX1_breaksFour 29 3 yX4_isLeft YX4_isLeft 358 306 307 = true := by decide +kernel
set_option maxRecDepth 100000 in
theorem kX1_firstFive_33 : pt_ckS YX1_firstFive 33 yX1_breaksFive YX1_breaksFive 362 363 = true := by decide +kernel
set_option maxRecDepth 100000 in
theorem kX1_breaksFive_37 : pt_ckS YX1_breaksFive 37 yX1_isOneSided YX1_isOneSided 365 366 = true := by decide +kernel
set_option maxRecDepth 100000 in
theorem kX1_isOneSided_29 : pt_ckV YX1_isOneSided 29 3 yX4_isLeft YX4_isLeft 358 306 307 = true := by decide +kernel
set_option maxRecDepth 100000 in
theorem kX2_leastOf_15 : pt_ckS YX2_leastOf 15 yX2_isIn YX2_isIn 386 387 = true := by decide +kernel
set_option maxRecDepth 100000 in
theorem kX2_nextTo_15 : pt_ckS YX2_nextTo 15 yX2_isIn YX2_isIn 386 387 = true := by decide +kernel
set_option maxRecDepth 100000 in
theorem kX2_nextTo_21 : pt_ckV YX2_nextTo 21 3 yX4_leftOf YX4_leftOf 392 393 394 = true := by decide +kernel
set_option maxRecDepth 100000 in
theorem kX2_rimOf_25 : pt_ckS YX2_rimOf 25 yJ6_bitCount_0f7a4 YJ6_bitCount_0f7a4 380 381 = true := by decide +kernel
set_option maxRecDepth 100000 in
theorem kX2_rimOf_15 : pt_ckS YX2_rimOf 15 yX2_isIn YX2_isIn 386 387 = true := by decide +kernel
set_option maxRecDepth 100000 in
theorem kX2_rimOf_31 : pt_ckS YX2_rimOf 31 yX2_nextTo YX2_nextTo 389 390 = true := by decide +kernel
set_option maxRecDepth 100000 in
theorem kX2_layerOf_35 : pt_ckV YX2_layerOf 35 3 yX4_everyPoint YX4_everyPoint 404 334 335 = true := by decide +kernel
set_option maxRecDepth 100000 in
theorem kX2_layerOf_39 : pt_ckS YX2_layerOf 39 yX2_rimOf YX2_rimOf 405 378 = true := by decide +kernel
set_option maxRecDepth 100000 in
theorem kX2_layerOf_15 : pt_ckS YX2_layerOf 15 yX2_isIn YX2_isIn 386 387 = true := by decide +kernel
set_option maxRecDepth 100000 in
theorem kX2_isFigure_15 : pt_ckS YX2_isFigure 15 yX2_isIn YX2_isIn 386 387 = true := by decide +kernel
set_option maxRecDepth 100000 in
theorem kX2_isFigure_31 : pt_ckS YX2_isFigure 31 yX2_nextTo YX2_nextTo 389 390 = true := by decide +kernel
set_option maxRecDepth 100000 in
theorem kX2_insideOf_35 : pt_ckV YX2_insideOf 35 3 yX4_everyPoint YX4_everyPoint 404 334 335 = true := by decide +kernel
set_option maxRecDepth 100000 in
theorem kX2_insideOf_15 : pt_ckS YX2_insideOf 15 yX2_isIn YX2_isIn 386 387 = true := by decide +kernel
set_option maxRecDepth 100000 in
theorem kX2_insideOf_31 : pt_ckS YX2_insideOf 31 yX2_nextTo YX2_nextTo 389 390 = true := by decide +kernel
set_option maxRecDepth 100000 in
theorem kX2_insideOf_21 : pt_ckV YX2_insideOf 21 3 yX4_leftOf YX4_leftOf 392 393 394 = true := by decide +kernel
set_option maxRecDepth 100000 in
theorem kX3_read_30 : pt_ckN YX3_read yX6_swapsOf YX6_swapsOf 477 = true := by decide +kernel
set_option maxRecDepth 100000 in
theorem kX3_read_34 : pt_ckV YX3_read 34 6 yX3_begin YX3_begin 479 481 14 = true := by decide +kernel
set_option maxRecDepth 100000 in
theorem kX3_read_38 : pt_ckV YX3_read 38 4 yX5_byteAt YX5_byteAt 483 231 232 = true := by decide +kernel
set_option maxRecDepth 100000 in
theorem kX3_read_41 : pt_ckV YX3_read 41 6 yX3_swapAt YX3_swapAt 484 486 15 = true := by decide +kernel
set_option maxRecDepth 100000 in
theorem kX3_fill_44 : pt_ckV YX3_fill 44 3 yX4_begin YX4_begin 492 242 243 = true := by decide +kernel
set_option maxRecDepth 100000 in
theorem kX3_fill_47 : pt_ckV YX3_fill 47 3 yX4_put YX4_put 493 253 254 = true := by decide +kernel
set_option maxRecDepth 100000 in
theorem kX3_find_34 : pt_ckV YX3_find 34 6 yX3_begin YX3_begin 479 481 14 = true := by decide +kernel
set_option maxRecDepth 100000 in
theorem kX3_find_30 : pt_ckN YX3_find yX6_swapsOf YX6_swapsOf 477 = true := by decide +kernel
set_option maxRecDepth 100000 in
theorem kX3_find_54 : pt_ckV YX3_find 54 6 yX3_leastPlace YX3_leastPlace 502 504 16 = true := by decide +kernel
set_option maxRecDepth 100000 in
theorem kX3_find_41 : pt_ckV YX3_find 41 6 yX3_swapAt YX3_swapAt 484 486 15 = true := by decide +kernel
set_option maxRecDepth 100000 in
theorem kX3_leastPlace_58 : pt_ckV YX3_leastPlace 58 6 yX3_isDue YX3_isDue 506 508 17 = true := by decide +kernel
set_option maxRecDepth 100000 in
theorem kX3_isDue_62 : pt_ckV YX3_isDue 62 6 yX3_isDueWith YX3_isDueWith 510 512 18 = true := by decide +kernel
set_option maxRecDepth 100000 in
theorem kX3_isDueWith_66 : pt_ckV YX3_isDueWith 66 6 yX3_areSwapped YX3_areSwapped 514 516 19 = true := by decide +kernel
set_option maxRecDepth 100000 in
theorem kX3_isDueWith_70 : pt_ckV YX3_isDueWith 70 3 yX4_isLeft YX4_isLeft 518 306 307 = true := by decide +kernel
set_option maxRecDepth 100000 in
theorem kX4_begin_32 : pt_ckS YX4_begin 32 yJ7_fill_53178 YJ7_fill_53178 245 246 = true := by decide +kernel
set_option maxRecDepth 100000 in
theorem kX4_begin_38 : pt_ckV YX4_begin 38 3 yX4_forget YX4_forget 248 249 250 = true := by decide +kernel
set_option maxRecDepth 100000 in
theorem kX4_hasThree_41 : pt_ckV YX4_hasThree 41 3 yX4_hasPoint YX4_hasPoint 301 302 303 = true := by decide +kernel
set_option maxRecDepth 100000 in
theorem kX4_put_45 : pt_ckV YX4_put 45 3 yX4_putOne YX4_putOne 256 258 3 = true := by decide +kernel
set_option maxRecDepth 100000 in
theorem kX4_takeRow_49 : pt_ckV YX4_takeRow 49 3 yX4_begin YX4_begin 287 242 243 = true := by decide +kernel
set_option maxRecDepth 100000 in
theorem kX4_takeRow_53 : pt_ckV YX4_takeRow 53 3 yX4_put YX4_put 288 253 254 = true := by decide +kernel
set_option maxRecDepth 100000 in
theorem kX4_takeTurns_49 : pt_ckV YX4_takeTurns 49 3 yX4_begin YX4_begin 287 242 243 = true := by decide +kernel
set_option maxRecDepth 100000 in
theorem kX4_takeTurns_56 : pt_ckV YX4_takeTurns 56 3 yX4_isLeft YX4_isLeft 322 306 307 = true := by decide +kernel
set_option maxRecDepth 100000 in
theorem kX4_takeTurns_53 : pt_ckV YX4_takeTurns 53 3 yX4_put YX4_put 288 253 254 = true := by decide +kernel
set_option maxRecDepth 100000 in
theorem kX5_shortAt_19 : pt_ckV YX5_shortAt 19 4 yX5_byteAt YX5_byteAt 230 231 232 = true := by decide +kernel
set_option maxRecDepth 100000 in
theorem kX5_hasBit_19 : pt_ckV YX5_hasBit 19 4 yX5_byteAt YX5_byteAt 230 231 232 = true := by decide +kernel
end
section
/-! call sites: their words, by program -/
set_option maxRecDepth 100000 in
theorem mX6_feed : pt_ckM yX6_feed YX6_feed 5 52 199 = true := by decide +kernel
set_option maxRecDepth 100000 in
theorem mX6_end : pt_ckM yX6_end YX6_end 1 52 207 = true := by decide +kernel
set_option maxRecDepth 100000 in
theorem mX6_place : pt_ckM yX6_place YX6_place 1 52 211 = true := by decide +kernel
set_option maxRecDepth 100000 in
theorem mX6_placeByTape : pt_ckM yX6_placeByTape YX6_placeByTape 1 52 215 = true := by decide +kernel
set_option maxRecDepth 100000 in
theorem mX6_readPlaces : pt_ckM yX6_readPlaces YX6_readPlaces 1 52 225 = true := by decide +kernel
set_option maxRecDepth 100000 in
theorem mX6_placeSpare : pt_ckM yX6_placeSpare YX6_placeSpare 1 52 240 = true := by decide +kernel
set_option maxRecDepth 100000 in
theorem mX6_line : pt_ckM yX6_line YX6_line 0 52 267 = true := by decide +kernel
set_option maxRecDepth 100000 in
theorem mX6_table : pt_ckM yX6_table YX6_table 2 52 271 = true := by decide +kernel
set_option maxRecDepth 100000 in
theorem mX6_tableByTape : pt_ckM yX6_tableByTape YX6_tableByTape 2 52 275 = true := by decide +kernel
set_option maxRecDepth 100000 in
theorem mX6_turn : pt_ckM yX6_turn YX6_turn 4 52 292 = true := by decide +kernel
set_option maxRecDepth 100000 in
theorem mX6_flip : pt_ckM yX6_flip YX6_flip 4 52 312 = true := by decide +kernel
set_option maxRecDepth 100000 in
theorem mX6_mirror : pt_ckM yX6_mirror YX6_mirror 2 52 317 = true := by decide +kernel
set_option maxRecDepth 100000 in
theorem mX6_rename : pt_ckM yX6_rename YX6_rename 2 52 326 = true := by decide +kernel
set_option maxRecDepth 100000 in
theorem mX6_renameByTape : pt_ckM yX6_renameByTape YX6_renameByTape 2 52 330 = true := by decide +kernel
set_option maxRecDepth 100000 in
theorem mX6_without : pt_ckM yX6_without YX6_without 3 52 340 = true := by decide +kernel
set_option maxRecDepth 100000 in
theorem mX6_lawful : pt_ckM yX6_lawful YX6_lawful 1 52 344 = true := by decide +kernel
set_option maxRecDepth 100000 in
theorem mX6_why : pt_ckM yX6_why YX6_why 1 52 348 = true := by decide +kernel
set_option maxRecDepth 100000 in
theorem mX6_rim : pt_ckM yX6_rim YX6_rim 1 52 372 = true := by decide +kernel
set_option maxRecDepth 100000 in
theorem mX6_onRim : pt_ckM yX6_onRim YX6_onRim 2 52 578 = true := by decide +kernel
set_option maxRecDepth 100000 in
theorem mX6_layer : pt_ckM yX6_layer YX6_layer 2 52 400 = true := by decide +kernel
set_option maxRecDepth 100000 in
theorem mX6_code : pt_ckM yX6_code YX6_code 1 52 409 = true := by decide +kernel
set_option maxRecDepth 100000 in
theorem mX6_named : pt_ckM yX6_named YX6_named 2 52 457 = true := by decide +kernel
set_option maxRecDepth 100000 in
theorem mX6_like : pt_ckM yX6_like YX6_like 2 52 461 = true := by decide +kernel
set_option maxRecDepth 100000 in
theorem mX6_swept : pt_ckM yX6_swept YX6_swept 2 52 467 = true := by decide +kernel
set_option maxRecDepth 100000 in
theorem mX6_sweptByTape : pt_ckM yX6_sweptByTape YX6_sweptByTape 2 52 471 = true := by decide +kernel
set_option maxRecDepth 100000 in
theorem mX6_sweep : pt_ckM yX6_sweep YX6_sweep 1 52 497 = true := by decide +kernel
set_option maxRecDepth 100000 in
theorem mX6_octet : pt_ckM yX6_octet YX6_octet 1 52 656 = true := by decide +kernel
set_option maxRecDepth 100000 in
theorem mX6_figures : pt_ckM yX6_figures YX6_figures 3 52 523 = true := by decide +kernel
set_option maxRecDepth 100000 in
theorem mX6_lines : pt_ckM yX6_lines YX6_lines 2 52 533 = true := by decide +kernel
set_option maxRecDepth 100000 in
theorem mX6_inside : pt_ckM yX6_inside YX6_inside 5 52 538 = true := by decide +kernel
set_option maxRecDepth 100000 in
theorem mX6_kinds : pt_ckM yX6_kinds YX6_kinds 1 52 542 = true := by decide +kernel
set_option maxRecDepth 100000 in
theorem mX6_kind : pt_ckM yX6_kind YX6_kind 3 52 559 = true := by decide +kernel
set_option maxRecDepth 100000 in
theorem mX6_which : pt_ckM yX6_which YX6_which 1 52 563 = true := by decide +kernel
set_option maxRecDepth 100000 in
theorem mX6_points : pt_ckM yX6_points YX6_points 1 52 570 = true := by decide +kernel
set_option maxRecDepth 100000 in
theorem mX6_isSlot : pt_ckM yX6_isSlot YX6_isSlot 1 52 218 = true := by decide +kernel
set_option maxRecDepth 100000 in
theorem mX6_isSize : pt_ckM yX6_isSize YX6_isSize 1 52 221 = true := by decide +kernel
set_option maxRecDepth 100000 in
theorem mX6_turnsOf : pt_ckM yX6_turnsOf YX6_turnsOf 1 52 278 = true := by decide +kernel
set_option maxRecDepth 100000 in
theorem mX6_swapsOf : pt_ckM yX6_swapsOf YX6_swapsOf 1 52 478 = true := by decide +kernel
set_option maxRecDepth 100000 in
theorem mX6_kindsOf : pt_ckM yX6_kindsOf YX6_kindsOf 1 52 545 = true := by decide +kernel
set_option maxRecDepth 100000 in
theorem mX6_tableAt : pt_ckM yX6_tableAt YX6_tableAt 1 52 296 = true := by decide +kernel
set_option maxRecDepth 100000 in
theorem mX6_lawfulAt : pt_ckM yX6_lawfulAt YX6_lawfulAt 1 52 376 = true := by decide +kernel
set_option maxRecDepth 100000 in
theorem mX6_keepSpare : pt_ckM yX6_keepSpare YX6_keepSpare 1 52 263 = true := by decide +kernel
set_option maxRecDepth 100000 in
theorem mX6_setOut : pt_ckM yX6_setOut YX6_setOut 2 52 447 = true := by decide +kernel
set_option maxRecDepth 100000 in
theorem kX6_feed_67 : pt_ckV YX6_feed 67 4 yX5_addNumber YX5_addNumber 200 201 202 = true := by decide +kernel
set_option maxRecDepth 100000 in
theorem kX6_place_71 : pt_ckV YX6_place 71 2 yX6_placeByTape YX6_placeByTape 212 214 0 = true := by decide +kernel
set_option maxRecDepth 100000 in
theorem kX6_placeByTape_75 : pt_ckS YX6_placeByTape 75 yX6_isSlot YX6_isSlot 216 217 = true := by decide +kernel
set_option maxRecDepth 100000 in
theorem kX6_placeByTape_79 : pt_ckS YX6_placeByTape 79 yX6_isSize YX6_isSize 219 220 = true := by decide +kernel
set_option maxRecDepth 100000 in
theorem kX6_placeByTape_82 : pt_ckV YX6_placeByTape 82 2 yX6_readPlaces YX6_readPlaces 222 224 1 = true := by decide +kernel
set_option maxRecDepth 100000 in
theorem kX6_placeByTape_85 : pt_ckV YX6_placeByTape 85 2 yX6_placeSpare YX6_placeSpare 237 239 2 = true := by decide +kernel
set_option maxRecDepth 100000 in
theorem kX6_placeByTape_88 : pt_ckV YX6_placeByTape 88 2 yX6_keepSpare YX6_keepSpare 260 262 4 = true := by decide +kernel
set_option maxRecDepth 100000 in
theorem kX6_readPlaces_91 : pt_ckV YX6_readPlaces 91 4 yX5_shortAt YX5_shortAt 226 227 228 = true := by decide +kernel
set_option maxRecDepth 100000 in
theorem kX6_readPlaces_94 : pt_ckS YX6_readPlaces 94 yJ9_abs_0f7a4 YJ9_abs_0f7a4 234 235 = true := by decide +kernel
set_option maxRecDepth 100000 in
theorem kX6_placeSpare_99 : pt_ckV YX6_placeSpare 99 3 yX4_begin YX4_begin 241 242 243 = true := by decide +kernel
set_option maxRecDepth 100000 in
theorem kX6_placeSpare_102 : pt_ckV YX6_placeSpare 102 3 yX4_put YX4_put 252 253 254 = true := by decide +kernel
set_option maxRecDepth 100000 in
theorem kX6_table_106 : pt_ckV YX6_table 106 2 yX6_tableByTape YX6_tableByTape 272 274 5 = true := by decide +kernel
set_option maxRecDepth 100000 in
theorem kX6_tableByTape_75 : pt_ckS YX6_tableByTape 75 yX6_isSlot YX6_isSlot 216 217 = true := by decide +kernel
set_option maxRecDepth 100000 in
theorem kX6_tableByTape_79 : pt_ckS YX6_tableByTape 79 yX6_isSize YX6_isSize 219 220 = true := by decide +kernel
set_option maxRecDepth 100000 in
theorem kX6_tableByTape_110 : pt_ckS YX6_tableByTape 110 yX6_turnsOf YX6_turnsOf 276 277 = true := by decide +kernel
set_option maxRecDepth 100000 in
theorem kX6_tableByTape_113 : pt_ckV YX6_tableByTape 113 4 yX5_hasBit YX5_hasBit 279 280 281 = true := by decide +kernel
set_option maxRecDepth 100000 in
theorem kX6_tableByTape_116 : pt_ckV YX6_tableByTape 116 3 yX4_takeRow YX4_takeRow 283 284 285 = true := by decide +kernel
set_option maxRecDepth 100000 in
theorem kX6_tableByTape_88 : pt_ckV YX6_tableByTape 88 2 yX6_keepSpare YX6_keepSpare 260 262 4 = true := by decide +kernel
set_option maxRecDepth 100000 in
theorem kX6_turn_120 : pt_ckV YX6_turn 120 2 yX6_tableAt YX6_tableAt 293 295 6 = true := by decide +kernel
set_option maxRecDepth 100000 in
theorem kX6_turn_124 : pt_ckV YX6_turn 124 3 yX4_hasThree YX4_hasThree 297 298 299 = true := by decide +kernel
set_option maxRecDepth 100000 in
theorem kX6_turn_128 : pt_ckV YX6_turn 128 3 yX4_isLeft YX4_isLeft 305 306 307 = true := by decide +kernel
set_option maxRecDepth 100000 in
theorem kX6_flip_120 : pt_ckV YX6_flip 120 2 yX6_tableAt YX6_tableAt 293 295 6 = true := by decide +kernel
set_option maxRecDepth 100000 in
theorem kX6_flip_124 : pt_ckV YX6_flip 124 3 yX4_hasThree YX4_hasThree 297 298 299 = true := by decide +kernel
set_option maxRecDepth 100000 in
theorem kX6_flip_128 : pt_ckV YX6_flip 128 3 yX4_isLeft YX4_isLeft 305 306 307 = true := by decide +kernel
set_option maxRecDepth 100000 in
theorem kX6_flip_102 : pt_ckV YX6_flip 102 3 yX4_put YX4_put 252 253 254 = true := by decide +kernel
set_option maxRecDepth 100000 in
theorem kX6_flip_131 : pt_ckV YX6_flip 131 3 yX4_forget YX4_forget 313 249 250 = true := by decide +kernel
set_option maxRecDepth 100000 in
theorem kX6_mirror_120 : pt_ckV YX6_mirror 120 2 yX6_tableAt YX6_tableAt 293 295 6 = true := by decide +kernel
set_option maxRecDepth 100000 in
theorem kX6_mirror_75 : pt_ckS YX6_mirror 75 yX6_isSlot YX6_isSlot 216 217 = true := by decide +kernel
set_option maxRecDepth 100000 in
theorem kX6_mirror_137 : pt_ckV YX6_mirror 137 3 yX4_takeTurns YX4_takeTurns 318 319 320 = true := by decide +kernel
set_option maxRecDepth 100000 in
theorem kX6_mirror_88 : pt_ckV YX6_mirror 88 2 yX6_keepSpare YX6_keepSpare 260 262 4 = true := by decide +kernel
set_option maxRecDepth 100000 in
theorem kX6_rename_141 : pt_ckV YX6_rename 141 2 yX6_renameByTape YX6_renameByTape 327 329 7 = true := by decide +kernel
set_option maxRecDepth 100000 in
theorem kX6_renameByTape_120 : pt_ckV YX6_renameByTape 120 2 yX6_tableAt YX6_tableAt 293 295 6 = true := by decide +kernel
set_option maxRecDepth 100000 in
theorem kX6_renameByTape_75 : pt_ckS YX6_renameByTape 75 yX6_isSlot YX6_isSlot 216 217 = true := by decide +kernel
set_option maxRecDepth 100000 in
theorem kX6_renameByTape_144 : pt_ckV YX6_renameByTape 144 4 yX5_byteAt YX5_byteAt 331 231 232 = true := by decide +kernel
set_option maxRecDepth 100000 in
theorem kX6_renameByTape_147 : pt_ckV YX6_renameByTape 147 3 yX4_hasPoint YX4_hasPoint 332 302 303 = true := by decide +kernel
set_option maxRecDepth 100000 in
theorem kX6_renameByTape_150 : pt_ckV YX6_renameByTape 150 3 yX4_everyPoint YX4_everyPoint 333 334 335 = true := by decide +kernel
set_option maxRecDepth 100000 in
theorem kX6_renameByTape_137 : pt_ckV YX6_renameByTape 137 3 yX4_takeTurns YX4_takeTurns 318 319 320 = true := by decide +kernel
set_option maxRecDepth 100000 in
theorem kX6_renameByTape_88 : pt_ckV YX6_renameByTape 88 2 yX6_keepSpare YX6_keepSpare 260 262 4 = true := by decide +kernel
set_option maxRecDepth 100000 in
theorem kX6_without_120 : pt_ckV YX6_without 120 2 yX6_tableAt YX6_tableAt 293 295 6 = true := by decide +kernel
set_option maxRecDepth 100000 in
theorem kX6_without_75 : pt_ckS YX6_without 75 yX6_isSlot YX6_isSlot 216 217 = true := by decide +kernel
set_option maxRecDepth 100000 in
theorem kX6_without_147 : pt_ckV YX6_without 147 3 yX4_hasPoint YX4_hasPoint 332 302 303 = true := by decide +kernel
set_option maxRecDepth 100000 in
theorem kX6_without_137 : pt_ckV YX6_without 137 3 yX4_takeTurns YX4_takeTurns 318 319 320 = true := by decide +kernel
set_option maxRecDepth 100000 in
theorem kX6_without_88 : pt_ckV YX6_without 88 2 yX6_keepSpare YX6_keepSpare 260 262 4 = true := by decide +kernel
set_option maxRecDepth 100000 in
theorem kX6_lawful_154 : pt_ckV YX6_lawful 154 2 yX6_why YX6_why 345 346 347 = true := by decide +kernel
set_option maxRecDepth 100000 in
theorem kX6_why_120 : pt_ckV YX6_why 120 2 yX6_tableAt YX6_tableAt 293 295 6 = true := by decide +kernel
set_option maxRecDepth 100000 in
theorem kX6_why_157 : pt_ckS YX6_why 157 yX1_faultOf YX1_faultOf 349 350 = true := by decide +kernel
set_option maxRecDepth 100000 in
theorem kX6_rim_163 : pt_ckV YX6_rim 163 2 yX6_lawfulAt YX6_lawfulAt 373 375 8 = true := by decide +kernel
set_option maxRecDepth 100000 in
theorem kX6_rim_150 : pt_ckV YX6_rim 150 3 yX4_everyPoint YX4_everyPoint 333 334 335 = true := by decide +kernel
set_option maxRecDepth 100000 in
theorem kX6_rim_166 : pt_ckS YX6_rim 166 yX2_rimOf YX2_rimOf 377 378 = true := by decide +kernel
set_option maxRecDepth 100000 in
theorem kX6_rim_172 : pt_ckS YX6_rim 172 yJ6_bitCount_0f7a4 YJ6_bitCount_0f7a4 396 381 = true := by decide +kernel
set_option maxRecDepth 100000 in
theorem kX6_onRim_163 : pt_ckV YX6_onRim 163 2 yX6_lawfulAt YX6_lawfulAt 373 375 8 = true := by decide +kernel
set_option maxRecDepth 100000 in
theorem kX6_onRim_150 : pt_ckV YX6_onRim 150 3 yX4_everyPoint YX4_everyPoint 333 334 335 = true := by decide +kernel
set_option maxRecDepth 100000 in
theorem kX6_onRim_166 : pt_ckS YX6_onRim 166 yX2_rimOf YX2_rimOf 377 378 = true := by decide +kernel
set_option maxRecDepth 100000 in
theorem kX6_onRim_172 : pt_ckS YX6_onRim 172 yJ6_bitCount_0f7a4 YJ6_bitCount_0f7a4 396 381 = true := by decide +kernel
set_option maxRecDepth 100000 in
theorem kX6_onRim_186 : pt_ckS YX6_onRim 186 yX2_leastOf YX2_leastOf 646 647 = true := by decide +kernel
set_option maxRecDepth 100000 in
theorem kX6_onRim_189 : pt_ckS YX6_onRim 189 yX2_nextTo YX2_nextTo 649 390 = true := by decide +kernel
set_option maxRecDepth 100000 in
theorem kX6_layer_163 : pt_ckV YX6_layer 163 2 yX6_lawfulAt YX6_lawfulAt 373 375 8 = true := by decide +kernel
set_option maxRecDepth 100000 in
theorem kX6_layer_147 : pt_ckV YX6_layer 147 3 yX4_hasPoint YX4_hasPoint 332 302 303 = true := by decide +kernel
set_option maxRecDepth 100000 in
theorem kX6_layer_193 : pt_ckS YX6_layer 193 yX2_layerOf YX2_layerOf 401 402 = true := by decide +kernel
set_option maxRecDepth 100000 in
theorem kX6_code_163 : pt_ckV YX6_code 163 2 yX6_lawfulAt YX6_lawfulAt 373 375 8 = true := by decide +kernel
set_option maxRecDepth 100000 in
theorem kX6_code_196 : pt_ckV YX6_code 196 5 yX0_codeOf YX0_codeOf 410 411 412 = true := by decide +kernel
set_option maxRecDepth 100000 in
theorem kX6_code_110 : pt_ckS YX6_code 110 yX6_turnsOf YX6_turnsOf 276 277 = true := by decide +kernel
set_option maxRecDepth 100000 in
theorem kX6_code_200 : pt_ckV YX6_code 200 2 yX6_setOut YX6_setOut 444 446 12 = true := by decide +kernel
set_option maxRecDepth 100000 in
theorem kX6_named_163 : pt_ckV YX6_named 163 2 yX6_lawfulAt YX6_lawfulAt 373 375 8 = true := by decide +kernel
set_option maxRecDepth 100000 in
theorem kX6_named_75 : pt_ckS YX6_named 75 yX6_isSlot YX6_isSlot 216 217 = true := by decide +kernel
set_option maxRecDepth 100000 in
theorem kX6_named_196 : pt_ckV YX6_named 196 5 yX0_codeOf YX0_codeOf 410 411 412 = true := by decide +kernel
set_option maxRecDepth 100000 in
theorem kX6_named_116 : pt_ckV YX6_named 116 3 yX4_takeRow YX4_takeRow 283 284 285 = true := by decide +kernel
set_option maxRecDepth 100000 in
theorem kX6_named_88 : pt_ckV YX6_named 88 2 yX6_keepSpare YX6_keepSpare 260 262 4 = true := by decide +kernel
set_option maxRecDepth 100000 in
theorem kX6_like_163 : pt_ckV YX6_like 163 2 yX6_lawfulAt YX6_lawfulAt 373 375 8 = true := by decide +kernel
set_option maxRecDepth 100000 in
theorem kX6_like_204 : pt_ckV YX6_like 204 5 yX0_findFirstRows YX0_findFirstRows 462 415 416 = true := by decide +kernel
set_option maxRecDepth 100000 in
theorem kX6_like_110 : pt_ckS YX6_like 110 yX6_turnsOf YX6_turnsOf 276 277 = true := by decide +kernel
set_option maxRecDepth 100000 in
theorem kX6_like_211 : pt_ckS YX6_like 211 yX0_compareRows YX0_compareRows 463 439 = true := by decide +kernel
set_option maxRecDepth 100000 in
theorem kX6_swept_218 : pt_ckV YX6_swept 218 2 yX6_sweptByTape YX6_sweptByTape 468 470 13 = true := by decide +kernel
set_option maxRecDepth 100000 in
theorem kX6_sweptByTape_75 : pt_ckS YX6_sweptByTape 75 yX6_isSlot YX6_isSlot 216 217 = true := by decide +kernel
set_option maxRecDepth 100000 in
theorem kX6_sweptByTape_79 : pt_ckS YX6_sweptByTape 79 yX6_isSize YX6_isSize 219 220 = true := by decide +kernel
set_option maxRecDepth 100000 in
theorem kX6_sweptByTape_221 : pt_ckV YX6_sweptByTape 221 6 yX3_read YX3_read 472 473 474 = true := by decide +kernel
set_option maxRecDepth 100000 in
theorem kX6_sweptByTape_225 : pt_ckV YX6_sweptByTape 225 6 yX3_fill YX3_fill 488 489 490 = true := by decide +kernel
set_option maxRecDepth 100000 in
theorem kX6_sweptByTape_88 : pt_ckV YX6_sweptByTape 88 2 yX6_keepSpare YX6_keepSpare 260 262 4 = true := by decide +kernel
set_option maxRecDepth 100000 in
theorem kX6_sweep_120 : pt_ckV YX6_sweep 120 2 yX6_tableAt YX6_tableAt 293 295 6 = true := by decide +kernel
set_option maxRecDepth 100000 in
theorem kX6_sweep_229 : pt_ckV YX6_sweep 229 6 yX3_find YX3_find 498 499 500 = true := by decide +kernel
set_option maxRecDepth 100000 in
theorem kX6_sweep_236 : pt_ckS YX6_sweep 236 yX6_swapsOf YX6_swapsOf 519 477 = true := by decide +kernel
set_option maxRecDepth 100000 in
theorem kX6_sweep_200 : pt_ckV YX6_sweep 200 2 yX6_setOut YX6_setOut 444 446 12 = true := by decide +kernel
set_option maxRecDepth 100000 in
theorem kX6_figures_163 : pt_ckV YX6_figures 163 2 yX6_lawfulAt YX6_lawfulAt 373 375 8 = true := by decide +kernel
set_option maxRecDepth 100000 in
theorem kX6_figures_150 : pt_ckV YX6_figures 150 3 yX4_everyPoint YX4_everyPoint 333 334 335 = true := by decide +kernel
set_option maxRecDepth 100000 in
theorem kX6_figures_172 : pt_ckS YX6_figures 172 yJ6_bitCount_0f7a4 YJ6_bitCount_0f7a4 396 381 = true := by decide +kernel
set_option maxRecDepth 100000 in
theorem kX6_figures_241 : pt_ckS YX6_figures 241 yX2_isFigure YX2_isFigure 524 525 = true := by decide +kernel
set_option maxRecDepth 100000 in
theorem kX6_figures_245 : pt_ckS YX6_figures 245 yX2_insideOf YX2_insideOf 527 528 = true := by decide +kernel
set_option maxRecDepth 100000 in
theorem kX6_lines_120 : pt_ckV YX6_lines 120 2 yX6_tableAt YX6_tableAt 293 295 6 = true := by decide +kernel
set_option maxRecDepth 100000 in
theorem kX6_lines_248 : pt_ckV YX6_lines 248 3 yX4_leftOf YX4_leftOf 534 393 394 = true := by decide +kernel
set_option maxRecDepth 100000 in
theorem kX6_lines_172 : pt_ckS YX6_lines 172 yJ6_bitCount_0f7a4 YJ6_bitCount_0f7a4 396 381 = true := by decide +kernel
set_option maxRecDepth 100000 in
theorem kX6_inside_120 : pt_ckV YX6_inside 120 2 yX6_tableAt YX6_tableAt 293 295 6 = true := by decide +kernel
set_option maxRecDepth 100000 in
theorem kX6_inside_124 : pt_ckV YX6_inside 124 3 yX4_hasThree YX4_hasThree 297 298 299 = true := by decide +kernel
set_option maxRecDepth 100000 in
theorem kX6_inside_147 : pt_ckV YX6_inside 147 3 yX4_hasPoint YX4_hasPoint 332 302 303 = true := by decide +kernel
set_option maxRecDepth 100000 in
theorem kX6_inside_128 : pt_ckV YX6_inside 128 3 yX4_isLeft YX4_isLeft 305 306 307 = true := by decide +kernel
set_option maxRecDepth 100000 in
theorem kX6_kinds_252 : pt_ckS YX6_kinds 252 yX6_kindsOf YX6_kindsOf 543 544 = true := by decide +kernel
set_option maxRecDepth 100000 in
theorem kX6_kind_252 : pt_ckS YX6_kind 252 yX6_kindsOf YX6_kindsOf 543 544 = true := by decide +kernel
set_option maxRecDepth 100000 in
theorem kX6_kind_75 : pt_ckS YX6_kind 75 yX6_isSlot YX6_isSlot 216 217 = true := by decide +kernel
set_option maxRecDepth 100000 in
theorem kX6_kind_110 : pt_ckS YX6_kind 110 yX6_turnsOf YX6_turnsOf 276 277 = true := by decide +kernel
set_option maxRecDepth 100000 in
theorem kX6_kind_116 : pt_ckV YX6_kind 116 3 yX4_takeRow YX4_takeRow 283 284 285 = true := by decide +kernel
set_option maxRecDepth 100000 in
theorem kX6_kind_88 : pt_ckV YX6_kind 88 2 yX6_keepSpare YX6_keepSpare 260 262 4 = true := by decide +kernel
set_option maxRecDepth 100000 in
theorem kX6_which_163 : pt_ckV YX6_which 163 2 yX6_lawfulAt YX6_lawfulAt 373 375 8 = true := by decide +kernel
set_option maxRecDepth 100000 in
theorem kX6_which_252 : pt_ckS YX6_which 252 yX6_kindsOf YX6_kindsOf 543 544 = true := by decide +kernel
set_option maxRecDepth 100000 in
theorem kX6_which_196 : pt_ckV YX6_which 196 5 yX0_codeOf YX0_codeOf 410 411 412 = true := by decide +kernel
set_option maxRecDepth 100000 in
theorem kX6_which_110 : pt_ckS YX6_which 110 yX6_turnsOf YX6_turnsOf 276 277 = true := by decide +kernel
set_option maxRecDepth 100000 in
theorem kX6_which_256 : pt_ckS YX6_which 256 yX0_bitsOf YX0_bitsOf 564 565 = true := by decide +kernel
set_option maxRecDepth 100000 in
theorem kX6_points_75 : pt_ckS YX6_points 75 yX6_isSlot YX6_isSlot 216 217 = true := by decide +kernel
set_option maxRecDepth 100000 in
theorem kX6_tableAt_75 : pt_ckS YX6_tableAt 75 yX6_isSlot YX6_isSlot 216 217 = true := by decide +kernel
set_option maxRecDepth 100000 in
theorem kX6_lawfulAt_120 : pt_ckV YX6_lawfulAt 120 2 yX6_tableAt YX6_tableAt 293 295 6 = true := by decide +kernel
set_option maxRecDepth 100000 in
theorem kX6_lawfulAt_157 : pt_ckS YX6_lawfulAt 157 yX1_faultOf YX1_faultOf 349 350 = true := by decide +kernel
set_option maxRecDepth 100000 in
theorem kX6_keepSpare_75 : pt_ckS YX6_keepSpare 75 yX6_isSlot YX6_isSlot 216 217 = true := by decide +kernel
set_option maxRecDepth 100000 in
theorem kX6_setOut_275 : pt_ckS YX6_setOut 275 yJ9_min_7cf53 YJ9_min_7cf53 448 449 = true := by decide +kernel
end
section
/-! call sites: their words, by program -/
set_option maxRecDepth 100000 in
theorem mX7_thrown : pt_ckM yX7_thrown YX7_thrown 0 57 732 = true := by decide +kernel
set_option maxRecDepth 100000 in
theorem mX7_throwsIf : pt_ckM yX7_throwsIf YX7_throwsIf 1 57 875 = true := by decide +kernel
set_option maxRecDepth 100000 in
theorem mX7_feed : pt_ckM yX7_feed YX7_feed 5 57 736 = true := by decide +kernel
set_option maxRecDepth 100000 in
theorem mX7_four : pt_ckM yX7_four YX7_four 1 57 740 = true := by decide +kernel
set_option maxRecDepth 100000 in
theorem mX7_end : pt_ckM yX7_end YX7_end 1 57 744 = true := by decide +kernel
set_option maxRecDepth 100000 in
theorem mX7_taken : pt_ckM yX7_taken YX7_taken 0 57 763 = true := by decide +kernel
set_option maxRecDepth 100000 in
theorem mX7_three : pt_ckM yX7_three YX7_three 3 57 772 = true := by decide +kernel
set_option maxRecDepth 100000 in
theorem mX7_turnAt : pt_ckM yX7_turnAt YX7_turnAt 4 57 796 = true := by decide +kernel
set_option maxRecDepth 100000 in
theorem mX7_left : pt_ckM yX7_left YX7_left 4 57 847 = true := by decide +kernel
set_option maxRecDepth 100000 in
theorem mX7_set : pt_ckM yX7_set YX7_set 5 57 769 = true := by decide +kernel
set_option maxRecDepth 100000 in
theorem mX7_isSlot : pt_ckM yX7_isSlot YX7_isSlot 1 57 755 = true := by decide +kernel
set_option maxRecDepth 100000 in
theorem mX7_has : pt_ckM yX7_has YX7_has 1 57 752 = true := by decide +kernel
set_option maxRecDepth 100000 in
theorem mX7_copy : pt_ckM yX7_copy YX7_copy 2 57 776 = true := by decide +kernel
set_option maxRecDepth 100000 in
theorem mX7_points : pt_ckM yX7_points YX7_points 1 57 748 = true := by decide +kernel
set_option maxRecDepth 100000 in
theorem mX7_place : pt_ckM yX7_place YX7_place 1 57 759 = true := by decide +kernel
set_option maxRecDepth 100000 in
theorem mX7_line : pt_ckM yX7_line YX7_line 0 57 780 = true := by decide +kernel
set_option maxRecDepth 100000 in
theorem mX7_table : pt_ckM yX7_table YX7_table 2 57 784 = true := by decide +kernel
set_option maxRecDepth 100000 in
theorem mX7_areThree : pt_ckM yX7_areThree YX7_areThree 4 57 792 = true := by decide +kernel
set_option maxRecDepth 100000 in
theorem mX7_turn : pt_ckM yX7_turn YX7_turn 4 57 788 = true := by decide +kernel
set_option maxRecDepth 100000 in
theorem mX7_flip : pt_ckM yX7_flip YX7_flip 4 57 800 = true := by decide +kernel
set_option maxRecDepth 100000 in
theorem mX7_turnAll : pt_ckM yX7_turnAll YX7_turnAll 1 57 808 = true := by decide +kernel
set_option maxRecDepth 100000 in
theorem mX7_mirror : pt_ckM yX7_mirror YX7_mirror 2 57 804 = true := by decide +kernel
set_option maxRecDepth 100000 in
theorem mX7_pick : pt_ckM yX7_pick YX7_pick 3 57 816 = true := by decide +kernel
set_option maxRecDepth 100000 in
theorem mX7_rename : pt_ckM yX7_rename YX7_rename 2 57 812 = true := by decide +kernel
set_option maxRecDepth 100000 in
theorem mX7_without : pt_ckM yX7_without YX7_without 3 57 820 = true := by decide +kernel
set_option maxRecDepth 100000 in
theorem mX7_breaksFour : pt_ckM yX7_breaksFour YX7_breaksFour 5 57 843 = true := by decide +kernel
set_option maxRecDepth 100000 in
theorem mX7_breaksFive : pt_ckM yX7_breaksFive YX7_breaksFive 6 57 851 = true := by decide +kernel
set_option maxRecDepth 100000 in
theorem mX7_breaks : pt_ckM yX7_breaks YX7_breaks 3 57 839 = true := by decide +kernel
set_option maxRecDepth 100000 in
theorem mX7_bits : pt_ckM yX7_bits YX7_bits 1 57 835 = true := by decide +kernel
set_option maxRecDepth 100000 in
theorem mX7_whyNot : pt_ckM yX7_whyNot YX7_whyNot 2 57 832 = true := by decide +kernel
set_option maxRecDepth 100000 in
theorem mX7_isLawful : pt_ckM yX7_isLawful YX7_isLawful 1 57 828 = true := by decide +kernel
set_option maxRecDepth 100000 in
theorem mX7_lawful : pt_ckM yX7_lawful YX7_lawful 1 57 824 = true := by decide +kernel
set_option maxRecDepth 100000 in
theorem mX7_why : pt_ckM yX7_why YX7_why 1 57 855 = true := by decide +kernel
set_option maxRecDepth 100000 in
theorem mX7_nextTo : pt_ckM yX7_nextTo YX7_nextTo 3 57 867 = true := by decide +kernel
set_option maxRecDepth 100000 in
theorem mX7_rimOf : pt_ckM yX7_rimOf YX7_rimOf 2 57 863 = true := by decide +kernel
set_option maxRecDepth 100000 in
theorem mX7_rim : pt_ckM yX7_rim YX7_rim 1 57 859 = true := by decide +kernel
set_option maxRecDepth 100000 in
theorem mX7_onRim : pt_ckM yX7_onRim YX7_onRim 2 57 871 = true := by decide +kernel
set_option maxRecDepth 100000 in
theorem mX7_layer : pt_ckM yX7_layer YX7_layer 2 57 879 = true := by decide +kernel
set_option maxRecDepth 100000 in
theorem mX7_threesOf : pt_ckM yX7_threesOf YX7_threesOf 1 57 902 = true := by decide +kernel
set_option maxRecDepth 100000 in
theorem mX7_around : pt_ckM yX7_around YX7_around 3 57 895 = true := by decide +kernel
set_option maxRecDepth 100000 in
theorem mX7_rowOf : pt_ckM yX7_rowOf YX7_rowOf 3 57 899 = true := by decide +kernel
set_option maxRecDepth 100000 in
theorem mX7_compare : pt_ckM yX7_compare YX7_compare 3 57 905 = true := by decide +kernel
set_option maxRecDepth 100000 in
theorem mX7_least : pt_ckM yX7_least YX7_least 3 57 891 = true := by decide +kernel
set_option maxRecDepth 100000 in
theorem mX7_codeOf : pt_ckM yX7_codeOf YX7_codeOf 2 57 887 = true := by decide +kernel
set_option maxRecDepth 100000 in
theorem mX7_code : pt_ckM yX7_code YX7_code 1 57 883 = true := by decide +kernel
set_option maxRecDepth 100000 in
theorem mX7_octet : pt_ckM yX7_octet YX7_octet 1 57 909 = true := by decide +kernel
set_option maxRecDepth 100000 in
theorem mX7_fill : pt_ckM yX7_fill YX7_fill 3 57 917 = true := by decide +kernel
set_option maxRecDepth 100000 in
theorem mX7_named : pt_ckM yX7_named YX7_named 2 57 913 = true := by decide +kernel
set_option maxRecDepth 100000 in
theorem mX7_like : pt_ckM yX7_like YX7_like 2 57 921 = true := by decide +kernel
set_option maxRecDepth 100000 in
theorem mX7_swept : pt_ckM yX7_swept YX7_swept 2 57 925 = true := by decide +kernel
set_option maxRecDepth 100000 in
theorem mX7_swap : pt_ckM yX7_swap YX7_swap 2 57 929 = true := by decide +kernel
set_option maxRecDepth 100000 in
theorem mX7_wasSwapped : pt_ckM yX7_wasSwapped YX7_wasSwapped 2 57 945 = true := by decide +kernel
set_option maxRecDepth 100000 in
theorem mX7_isNext : pt_ckM yX7_isNext YX7_isNext 4 57 941 = true := by decide +kernel
set_option maxRecDepth 100000 in
theorem mX7_sweep : pt_ckM yX7_sweep YX7_sweep 1 57 933 = true := by decide +kernel
set_option maxRecDepth 100000 in
theorem mX7_maySwap : pt_ckM yX7_maySwap YX7_maySwap 3 57 937 = true := by decide +kernel
set_option maxRecDepth 100000 in
theorem mX7_isEmpty : pt_ckM yX7_isEmpty YX7_isEmpty 3 57 953 = true := by decide +kernel
set_option maxRecDepth 100000 in
theorem mX7_figures : pt_ckM yX7_figures YX7_figures 3 57 949 = true := by decide +kernel
set_option maxRecDepth 100000 in
theorem mX7_lines : pt_ckM yX7_lines YX7_lines 2 57 957 = true := by decide +kernel
set_option maxRecDepth 100000 in
theorem mX7_inside : pt_ckM yX7_inside YX7_inside 5 57 961 = true := by decide +kernel
set_option maxRecDepth 100000 in
theorem mX7_byBits : pt_ckM yX7_byBits YX7_byBits 2 57 973 = true := by decide +kernel
set_option maxRecDepth 100000 in
theorem mX7_find : pt_ckM yX7_find YX7_find 1 57 969 = true := by decide +kernel
set_option maxRecDepth 100000 in
theorem mX7_kinds : pt_ckM yX7_kinds YX7_kinds 1 57 965 = true := by decide +kernel
set_option maxRecDepth 100000 in
theorem mX7_kind : pt_ckM yX7_kind YX7_kind 3 57 977 = true := by decide +kernel
set_option maxRecDepth 100000 in
theorem mX7_which : pt_ckM yX7_which YX7_which 1 57 981 = true := by decide +kernel
set_option maxRecDepth 100000 in
theorem kX7_feed_70 : pt_ckV YX7_feed 70 7 yX7_four YX7_four 737 739 21 = true := by decide +kernel
set_option maxRecDepth 100000 in
theorem kX7_turnAt_77 : pt_ckS YX7_turnAt 77 yX7_three YX7_three 770 771 = true := by decide +kernel
set_option maxRecDepth 100000 in
theorem kX7_left_81 : pt_ckV YX7_left 81 7 yX7_turnAt YX7_turnAt 793 795 27 = true := by decide +kernel
set_option maxRecDepth 100000 in
theorem kX7_set_77 : pt_ckS YX7_set 77 yX7_three YX7_three 770 771 = true := by decide +kernel
set_option maxRecDepth 100000 in
theorem kX7_has_85 : pt_ckS YX7_has 85 yX7_isSlot YX7_isSlot 753 754 = true := by decide +kernel
set_option maxRecDepth 100000 in
theorem kX7_points_89 : pt_ckV YX7_points 89 7 yX7_has YX7_has 749 751 22 = true := by decide +kernel
set_option maxRecDepth 100000 in
theorem kX7_place_92 : pt_ckV YX7_place 92 7 yX7_taken YX7_taken 760 762 23 = true := by decide +kernel
set_option maxRecDepth 100000 in
theorem kX7_place_85 : pt_ckS YX7_place 85 yX7_isSlot YX7_isSlot 753 754 = true := by decide +kernel
set_option maxRecDepth 100000 in
theorem kX7_place_99 : pt_ckV YX7_place 99 7 yX7_set YX7_set 766 768 24 = true := by decide +kernel
set_option maxRecDepth 100000 in
theorem kX7_place_103 : pt_ckV YX7_place 103 7 yX7_copy YX7_copy 773 775 25 = true := by decide +kernel
set_option maxRecDepth 100000 in
theorem kX7_table_92 : pt_ckV YX7_table 92 7 yX7_taken YX7_taken 760 762 23 = true := by decide +kernel
set_option maxRecDepth 100000 in
theorem kX7_table_85 : pt_ckS YX7_table 85 yX7_isSlot YX7_isSlot 753 754 = true := by decide +kernel
set_option maxRecDepth 100000 in
theorem kX7_table_99 : pt_ckV YX7_table 99 7 yX7_set YX7_set 766 768 24 = true := by decide +kernel
set_option maxRecDepth 100000 in
theorem kX7_areThree_89 : pt_ckV YX7_areThree 89 7 yX7_has YX7_has 749 751 22 = true := by decide +kernel
set_option maxRecDepth 100000 in
theorem kX7_turn_107 : pt_ckV YX7_turn 107 7 yX7_areThree YX7_areThree 789 791 26 = true := by decide +kernel
set_option maxRecDepth 100000 in
theorem kX7_turn_81 : pt_ckV YX7_turn 81 7 yX7_turnAt YX7_turnAt 793 795 27 = true := by decide +kernel
set_option maxRecDepth 100000 in
theorem kX7_flip_107 : pt_ckV YX7_flip 107 7 yX7_areThree YX7_areThree 789 791 26 = true := by decide +kernel
set_option maxRecDepth 100000 in
theorem kX7_flip_77 : pt_ckS YX7_flip 77 yX7_three YX7_three 770 771 = true := by decide +kernel
set_option maxRecDepth 100000 in
theorem kX7_mirror_85 : pt_ckS YX7_mirror 85 yX7_isSlot YX7_isSlot 753 754 = true := by decide +kernel
set_option maxRecDepth 100000 in
theorem kX7_mirror_89 : pt_ckV YX7_mirror 89 7 yX7_has YX7_has 749 751 22 = true := by decide +kernel
set_option maxRecDepth 100000 in
theorem kX7_mirror_103 : pt_ckV YX7_mirror 103 7 yX7_copy YX7_copy 773 775 25 = true := by decide +kernel
set_option maxRecDepth 100000 in
theorem kX7_mirror_111 : pt_ckV YX7_mirror 111 7 yX7_turnAll YX7_turnAll 805 807 28 = true := by decide +kernel
set_option maxRecDepth 100000 in
theorem kX7_pick_81 : pt_ckV YX7_pick 81 7 yX7_turnAt YX7_turnAt 793 795 27 = true := by decide +kernel
set_option maxRecDepth 100000 in
theorem kX7_pick_99 : pt_ckV YX7_pick 99 7 yX7_set YX7_set 766 768 24 = true := by decide +kernel
set_option maxRecDepth 100000 in
theorem kX7_pick_103 : pt_ckV YX7_pick 103 7 yX7_copy YX7_copy 773 775 25 = true := by decide +kernel
set_option maxRecDepth 100000 in
theorem kX7_rename_92 : pt_ckV YX7_rename 92 7 yX7_taken YX7_taken 760 762 23 = true := by decide +kernel
set_option maxRecDepth 100000 in
theorem kX7_rename_85 : pt_ckS YX7_rename 85 yX7_isSlot YX7_isSlot 753 754 = true := by decide +kernel
set_option maxRecDepth 100000 in
theorem kX7_rename_89 : pt_ckV YX7_rename 89 7 yX7_has YX7_has 749 751 22 = true := by decide +kernel
set_option maxRecDepth 100000 in
theorem kX7_rename_114 : pt_ckV YX7_rename 114 7 yX7_pick YX7_pick 813 815 29 = true := by decide +kernel
set_option maxRecDepth 100000 in
theorem kX7_without_85 : pt_ckS YX7_without 85 yX7_isSlot YX7_isSlot 753 754 = true := by decide +kernel
set_option maxRecDepth 100000 in
theorem kX7_without_89 : pt_ckV YX7_without 89 7 yX7_has YX7_has 749 751 22 = true := by decide +kernel
set_option maxRecDepth 100000 in
theorem kX7_without_114 : pt_ckV YX7_without 114 7 yX7_pick YX7_pick 813 815 29 = true := by decide +kernel
set_option maxRecDepth 100000 in
theorem kX7_breaksFour_118 : pt_ckV YX7_breaksFour 118 7 yX7_left YX7_left 844 846 34 = true := by decide +kernel
set_option maxRecDepth 100000 in
theorem kX7_breaksFive_81 : pt_ckV YX7_breaksFive 81 7 yX7_turnAt YX7_turnAt 793 795 27 = true := by decide +kernel
set_option maxRecDepth 100000 in
theorem kX7_breaks_121 : pt_ckV YX7_breaks 121 7 yX7_breaksFour YX7_breaksFour 840 842 33 = true := by decide +kernel
set_option maxRecDepth 100000 in
theorem kX7_breaks_125 : pt_ckV YX7_breaks 125 7 yX7_breaksFive YX7_breaksFive 848 850 35 = true := by decide +kernel
set_option maxRecDepth 100000 in
theorem kX7_whyNot_129 : pt_ckS YX7_whyNot 129 yX7_bits YX7_bits 833 834 = true := by decide +kernel
set_option maxRecDepth 100000 in
theorem kX7_whyNot_133 : pt_ckV YX7_whyNot 133 7 yX7_breaks YX7_breaks 836 838 32 = true := by decide +kernel
set_option maxRecDepth 100000 in
theorem kX7_isLawful_89 : pt_ckV YX7_isLawful 89 7 yX7_has YX7_has 749 751 22 = true := by decide +kernel
set_option maxRecDepth 100000 in
theorem kX7_isLawful_137 : pt_ckV YX7_isLawful 137 7 yX7_whyNot YX7_whyNot 829 831 31 = true := by decide +kernel
set_option maxRecDepth 100000 in
theorem kX7_lawful_89 : pt_ckV YX7_lawful 89 7 yX7_has YX7_has 749 751 22 = true := by decide +kernel
set_option maxRecDepth 100000 in
theorem kX7_lawful_141 : pt_ckV YX7_lawful 141 7 yX7_isLawful YX7_isLawful 825 827 30 = true := by decide +kernel
set_option maxRecDepth 100000 in
theorem kX7_why_89 : pt_ckV YX7_why 89 7 yX7_has YX7_has 749 751 22 = true := by decide +kernel
set_option maxRecDepth 100000 in
theorem kX7_why_137 : pt_ckV YX7_why 137 7 yX7_whyNot YX7_whyNot 829 831 31 = true := by decide +kernel
set_option maxRecDepth 100000 in
theorem kX7_nextTo_118 : pt_ckV YX7_nextTo 118 7 yX7_left YX7_left 844 846 34 = true := by decide +kernel
set_option maxRecDepth 100000 in
theorem kX7_rimOf_129 : pt_ckS YX7_rimOf 129 yX7_bits YX7_bits 833 834 = true := by decide +kernel
set_option maxRecDepth 100000 in
theorem kX7_rimOf_144 : pt_ckV YX7_rimOf 144 7 yX7_nextTo YX7_nextTo 864 866 37 = true := by decide +kernel
set_option maxRecDepth 100000 in
theorem kX7_rim_141 : pt_ckV YX7_rim 141 7 yX7_isLawful YX7_isLawful 825 827 30 = true := by decide +kernel
set_option maxRecDepth 100000 in
theorem kX7_rim_147 : pt_ckV YX7_rim 147 7 yX7_rimOf YX7_rimOf 860 862 36 = true := by decide +kernel
set_option maxRecDepth 100000 in
theorem kX7_rim_129 : pt_ckS YX7_rim 129 yX7_bits YX7_bits 833 834 = true := by decide +kernel
set_option maxRecDepth 100000 in
theorem kX7_onRim_141 : pt_ckV YX7_onRim 141 7 yX7_isLawful YX7_isLawful 825 827 30 = true := by decide +kernel
set_option maxRecDepth 100000 in
theorem kX7_onRim_147 : pt_ckV YX7_onRim 147 7 yX7_rimOf YX7_rimOf 860 862 36 = true := by decide +kernel
set_option maxRecDepth 100000 in
theorem kX7_onRim_129 : pt_ckS YX7_onRim 129 yX7_bits YX7_bits 833 834 = true := by decide +kernel
set_option maxRecDepth 100000 in
theorem kX7_onRim_150 : pt_ckV YX7_onRim 150 7 yX7_throwsIf YX7_throwsIf 872 874 38 = true := by decide +kernel
set_option maxRecDepth 100000 in
theorem kX7_onRim_144 : pt_ckV YX7_onRim 144 7 yX7_nextTo YX7_nextTo 864 866 37 = true := by decide +kernel
set_option maxRecDepth 100000 in
theorem kX7_layer_141 : pt_ckV YX7_layer 141 7 yX7_isLawful YX7_isLawful 825 827 30 = true := by decide +kernel
set_option maxRecDepth 100000 in
theorem kX7_layer_147 : pt_ckV YX7_layer 147 7 yX7_rimOf YX7_rimOf 860 862 36 = true := by decide +kernel
set_option maxRecDepth 100000 in
theorem kX7_around_118 : pt_ckV YX7_around 118 7 yX7_left YX7_left 844 846 34 = true := by decide +kernel
set_option maxRecDepth 100000 in
theorem kX7_rowOf_81 : pt_ckV YX7_rowOf 81 7 yX7_turnAt YX7_turnAt 793 795 27 = true := by decide +kernel
set_option maxRecDepth 100000 in
theorem kX7_least_144 : pt_ckV YX7_least 144 7 yX7_nextTo YX7_nextTo 864 866 37 = true := by decide +kernel
set_option maxRecDepth 100000 in
theorem kX7_least_154 : pt_ckV YX7_least 154 7 yX7_around YX7_around 892 894 41 = true := by decide +kernel
set_option maxRecDepth 100000 in
theorem kX7_least_157 : pt_ckV YX7_least 157 7 yX7_rowOf YX7_rowOf 896 898 42 = true := by decide +kernel
set_option maxRecDepth 100000 in
theorem kX7_least_161 : pt_ckS YX7_least 161 yX7_threesOf YX7_threesOf 900 901 = true := by decide +kernel
set_option maxRecDepth 100000 in
theorem kX7_least_164 : pt_ckS YX7_least 164 yX7_compare YX7_compare 903 904 = true := by decide +kernel
set_option maxRecDepth 100000 in
theorem kX7_codeOf_168 : pt_ckV YX7_codeOf 168 7 yX7_least YX7_least 888 890 40 = true := by decide +kernel
set_option maxRecDepth 100000 in
theorem kX7_codeOf_111 : pt_ckV YX7_codeOf 111 7 yX7_turnAll YX7_turnAll 805 807 28 = true := by decide +kernel
set_option maxRecDepth 100000 in
theorem kX7_codeOf_161 : pt_ckS YX7_codeOf 161 yX7_threesOf YX7_threesOf 900 901 = true := by decide +kernel
set_option maxRecDepth 100000 in
theorem kX7_codeOf_164 : pt_ckS YX7_codeOf 164 yX7_compare YX7_compare 903 904 = true := by decide +kernel
set_option maxRecDepth 100000 in
theorem kX7_code_141 : pt_ckV YX7_code 141 7 yX7_isLawful YX7_isLawful 825 827 30 = true := by decide +kernel
set_option maxRecDepth 100000 in
theorem kX7_code_171 : pt_ckV YX7_code 171 7 yX7_codeOf YX7_codeOf 884 886 39 = true := by decide +kernel
set_option maxRecDepth 100000 in
theorem kX7_code_161 : pt_ckS YX7_code 161 yX7_threesOf YX7_threesOf 900 901 = true := by decide +kernel
set_option maxRecDepth 100000 in
theorem kX7_octet_150 : pt_ckV YX7_octet 150 7 yX7_throwsIf YX7_throwsIf 872 874 38 = true := by decide +kernel
set_option maxRecDepth 100000 in
theorem kX7_fill_99 : pt_ckV YX7_fill 99 7 yX7_set YX7_set 766 768 24 = true := by decide +kernel
set_option maxRecDepth 100000 in
theorem kX7_named_85 : pt_ckS YX7_named 85 yX7_isSlot YX7_isSlot 753 754 = true := by decide +kernel
set_option maxRecDepth 100000 in
theorem kX7_named_141 : pt_ckV YX7_named 141 7 yX7_isLawful YX7_isLawful 825 827 30 = true := by decide +kernel
set_option maxRecDepth 100000 in
theorem kX7_named_171 : pt_ckV YX7_named 171 7 yX7_codeOf YX7_codeOf 884 886 39 = true := by decide +kernel
set_option maxRecDepth 100000 in
theorem kX7_named_177 : pt_ckV YX7_named 177 7 yX7_fill YX7_fill 914 916 43 = true := by decide +kernel
set_option maxRecDepth 100000 in
theorem kX7_like_141 : pt_ckV YX7_like 141 7 yX7_isLawful YX7_isLawful 825 827 30 = true := by decide +kernel
set_option maxRecDepth 100000 in
theorem kX7_like_168 : pt_ckV YX7_like 168 7 yX7_least YX7_least 888 890 40 = true := by decide +kernel
set_option maxRecDepth 100000 in
theorem kX7_like_161 : pt_ckS YX7_like 161 yX7_threesOf YX7_threesOf 900 901 = true := by decide +kernel
set_option maxRecDepth 100000 in
theorem kX7_like_164 : pt_ckS YX7_like 164 yX7_compare YX7_compare 903 904 = true := by decide +kernel
set_option maxRecDepth 100000 in
theorem kX7_like_111 : pt_ckV YX7_like 111 7 yX7_turnAll YX7_turnAll 805 807 28 = true := by decide +kernel
set_option maxRecDepth 100000 in
theorem kX7_swept_92 : pt_ckV YX7_swept 92 7 yX7_taken YX7_taken 760 762 23 = true := by decide +kernel
set_option maxRecDepth 100000 in
theorem kX7_swept_85 : pt_ckS YX7_swept 85 yX7_isSlot YX7_isSlot 753 754 = true := by decide +kernel
set_option maxRecDepth 100000 in
theorem kX7_swept_180 : pt_ckV YX7_swept 180 7 yX7_swap YX7_swap 926 928 44 = true := by decide +kernel
set_option maxRecDepth 100000 in
theorem kX7_swept_99 : pt_ckV YX7_swept 99 7 yX7_set YX7_set 766 768 24 = true := by decide +kernel
set_option maxRecDepth 100000 in
theorem kX7_isNext_183 : pt_ckV YX7_isNext 183 7 yX7_wasSwapped YX7_wasSwapped 942 944 47 = true := by decide +kernel
set_option maxRecDepth 100000 in
theorem kX7_isNext_118 : pt_ckV YX7_isNext 118 7 yX7_left YX7_left 844 846 34 = true := by decide +kernel
set_option maxRecDepth 100000 in
theorem kX7_sweep_89 : pt_ckV YX7_sweep 89 7 yX7_has YX7_has 749 751 22 = true := by decide +kernel
set_option maxRecDepth 100000 in
theorem kX7_sweep_187 : pt_ckV YX7_sweep 187 7 yX7_maySwap YX7_maySwap 934 936 45 = true := by decide +kernel
set_option maxRecDepth 100000 in
theorem kX7_sweep_180 : pt_ckV YX7_sweep 180 7 yX7_swap YX7_swap 926 928 44 = true := by decide +kernel
set_option maxRecDepth 100000 in
theorem kX7_maySwap_190 : pt_ckV YX7_maySwap 190 7 yX7_isNext YX7_isNext 938 940 46 = true := by decide +kernel
set_option maxRecDepth 100000 in
theorem kX7_isEmpty_144 : pt_ckV YX7_isEmpty 144 7 yX7_nextTo YX7_nextTo 864 866 37 = true := by decide +kernel
set_option maxRecDepth 100000 in
theorem kX7_isEmpty_118 : pt_ckV YX7_isEmpty 118 7 yX7_left YX7_left 844 846 34 = true := by decide +kernel
set_option maxRecDepth 100000 in
theorem kX7_figures_141 : pt_ckV YX7_figures 141 7 yX7_isLawful YX7_isLawful 825 827 30 = true := by decide +kernel
set_option maxRecDepth 100000 in
theorem kX7_figures_129 : pt_ckS YX7_figures 129 yX7_bits YX7_bits 833 834 = true := by decide +kernel
set_option maxRecDepth 100000 in
theorem kX7_figures_147 : pt_ckV YX7_figures 147 7 yX7_rimOf YX7_rimOf 860 862 36 = true := by decide +kernel
set_option maxRecDepth 100000 in
theorem kX7_figures_193 : pt_ckV YX7_figures 193 7 yX7_isEmpty YX7_isEmpty 950 952 48 = true := by decide +kernel
set_option maxRecDepth 100000 in
theorem kX7_lines_89 : pt_ckV YX7_lines 89 7 yX7_has YX7_has 749 751 22 = true := by decide +kernel
set_option maxRecDepth 100000 in
theorem kX7_lines_118 : pt_ckV YX7_lines 118 7 yX7_left YX7_left 844 846 34 = true := by decide +kernel
set_option maxRecDepth 100000 in
theorem kX7_inside_107 : pt_ckV YX7_inside 107 7 yX7_areThree YX7_areThree 789 791 26 = true := by decide +kernel
set_option maxRecDepth 100000 in
theorem kX7_inside_81 : pt_ckV YX7_inside 81 7 yX7_turnAt YX7_turnAt 793 795 27 = true := by decide +kernel
set_option maxRecDepth 100000 in
theorem kX7_byBits_161 : pt_ckS YX7_byBits 161 yX7_threesOf YX7_threesOf 900 901 = true := by decide +kernel
set_option maxRecDepth 100000 in
theorem kX7_byBits_99 : pt_ckV YX7_byBits 99 7 yX7_set YX7_set 766 768 24 = true := by decide +kernel
set_option maxRecDepth 100000 in
theorem kX7_find_161 : pt_ckS YX7_find 161 yX7_threesOf YX7_threesOf 900 901 = true := by decide +kernel
set_option maxRecDepth 100000 in
theorem kX7_find_196 : pt_ckV YX7_find 196 7 yX7_byBits YX7_byBits 970 972 50 = true := by decide +kernel
set_option maxRecDepth 100000 in
theorem kX7_find_137 : pt_ckV YX7_find 137 7 yX7_whyNot YX7_whyNot 829 831 31 = true := by decide +kernel
set_option maxRecDepth 100000 in
theorem kX7_find_171 : pt_ckV YX7_find 171 7 yX7_codeOf YX7_codeOf 884 886 39 = true := by decide +kernel
set_option maxRecDepth 100000 in
theorem kX7_find_157 : pt_ckV YX7_find 157 7 yX7_rowOf YX7_rowOf 896 898 42 = true := by decide +kernel
set_option maxRecDepth 100000 in
theorem kX7_find_164 : pt_ckS YX7_find 164 yX7_compare YX7_compare 903 904 = true := by decide +kernel
set_option maxRecDepth 100000 in
theorem kX7_kinds_199 : pt_ckV YX7_kinds 199 7 yX7_find YX7_find 966 968 49 = true := by decide +kernel
set_option maxRecDepth 100000 in
theorem kX7_kind_85 : pt_ckS YX7_kind 85 yX7_isSlot YX7_isSlot 753 754 = true := by decide +kernel
set_option maxRecDepth 100000 in
theorem kX7_kind_199 : pt_ckV YX7_kind 199 7 yX7_find YX7_find 966 968 49 = true := by decide +kernel
set_option maxRecDepth 100000 in
theorem kX7_kind_196 : pt_ckV YX7_kind 196 7 yX7_byBits YX7_byBits 970 972 50 = true := by decide +kernel
set_option maxRecDepth 100000 in
theorem kX7_kind_103 : pt_ckV YX7_kind 103 7 yX7_copy YX7_copy 773 775 25 = true := by decide +kernel
set_option maxRecDepth 100000 in
theorem kX7_which_141 : pt_ckV YX7_which 141 7 yX7_isLawful YX7_isLawful 825 827 30 = true := by decide +kernel
set_option maxRecDepth 100000 in
theorem kX7_which_199 : pt_ckV YX7_which 199 7 yX7_find YX7_find 966 968 49 = true := by decide +kernel
set_option maxRecDepth 100000 in
theorem kX7_which_171 : pt_ckV YX7_which 171 7 yX7_codeOf YX7_codeOf 884 886 39 = true := by decide +kernel
set_option maxRecDepth 100000 in
theorem kX7_which_161 : pt_ckS YX7_which 161 yX7_threesOf YX7_threesOf 900 901 = true := by decide +kernel
set_option maxRecDepth 100000 in
theorem kX7_which_196 : pt_ckV YX7_which 196 7 yX7_byBits YX7_byBits 970 972 50 = true := by decide +kernel
set_option maxRecDepth 100000 in
theorem kX7_which_157 : pt_ckV YX7_which 157 7 yX7_rowOf YX7_rowOf 896 898 42 = true := by decide +kernel
set_option maxRecDepth 100000 in
theorem kX7_which_164 : pt_ckS YX7_which 164 yX7_compare YX7_compare 903 904 = true := by decide +kernel
end
section
/-! numbers, memories, loops: what the walks use -/
def pt_pk (l : List (Nat × pt_V)) (ks : List Nat) : List (Nat × pt_V) := ks.filterMap fun k => l[k]?
theorem pt_pick {Y : pt_Y} {pc : Nat} {l l' : List (Nat × pt_V)} {st : List pt_V} {M : pt_M} (ks : List Nat) (h : pt_pk l ks = l') : pt_Go Y (pc, l, st, M) (pc, l', st, M) := by
  refine pt_drop fun q hq => ?_
  rw [← h] at hq
  obtain ⟨k, -, hk⟩ := List.mem_filterMap.mp hq
  exact List.mem_of_getElem? hk
theorem pt_nt_nI {n : Nat} (h : n < 2 ^ 31) : pt_nt (nI n) = n := nI_clamp h
theorem pt_in_nI {n N : Nat} (h : n < N) (hN : N < 2 ^ 31) : pt_in (nI n) N := by
  unfold pt_in
  rw [nI_toInt (by omega)]
  omega
theorem pt_in_of {x : Int32} {n : Nat} (h0 : ¬ x < 0) (h : ¬ nI n ≤ x) (hn : n < 2 ^ 31) : pt_in x n := by
  obtain ⟨j, hj, rfl⟩ := nI_of h0
  rw [nI_leI hn hj] at h
  exact pt_in_nI (by omega) hn
theorem pt_lit (n : Nat) : (OfNat.ofNat n : Int32) = nI n := rfl
theorem pt_m1 : (-1 : Int32) = Int32.ofInt (-1) := rfl
theorem pt_sh (i : Nat) (h : i < 32) : ((nI i &&& 31).toBitVec.smod 32).toNat = i := by
  have : ∀ i, i < 32 → ((nI i &&& 31).toBitVec.smod 32).toNat = i := by decide +kernel
  exact this i h
theorem pt_shl (a i : Nat) (h : i < 32) (ha : a * 2 ^ i < 2 ^ 32) : nI a <<< (nI i &&& 31) = nI (a * 2 ^ i) := pk_shlN _ i (pt_sh i h) ha
theorem pt_shl1 (i : Nat) (h : i < 31) : (1 : Int32) <<< (nI i &&& 31) = nI (2 ^ i) := by
  have := pt_shl 1 i (by omega) (by rw [Nat.one_mul]; exact Nat.pow_lt_pow_right (by decide) (by omega))
  rw [Nat.one_mul] at this
  exact this
theorem pt_shr {n i : Nat} (hn : n < 2 ^ 31) (h : i < 32) : nI n >>> (nI i &&& 31) = nI (n / 2 ^ i) := pk_shrN hn _ i (pt_sh i h)
theorem pt_and1 {n : Nat} (hn : n < 2 ^ 32) : nI n &&& 1 = nI (n % 2) := pk_andN hn 1 (by decide)
theorem pt_bit {n i : Nat} (hn : n < 2 ^ 31) (h : i < 32) : (nI n >>> (nI i &&& 31)) &&& 1 = if n.testBit i then 1 else 0 := by
  have h2 : n / 2 ^ i < 2 ^ 31 := Nat.lt_of_le_of_lt (Nat.div_le_self _ _) hn
  rw [pt_shr hn h, pt_and1 (by omega)]
  have : (n / 2 ^ i) % 2 = if n.testBit i then 1 else 0 := by
    rw [Nat.testBit_eq_decide_div_mod_eq]
    rcases Nat.mod_two_eq_zero_or_one (n / 2 ^ i) with h | h <;> simp [h]
  rw [this]
  cases n.testBit i <;> rfl
theorem pt_bit1 {n i : Nat} (hn : n < 2 ^ 31) (h : i < 32) : (nI n >>> (nI i &&& 31)) &&& 1 = 1 ↔ n.testBit i = true := by
  rw [pt_bit hn h]
  cases n.testBit i <;> decide
theorem pt_or (a b : Nat) : nI a ||| nI b = nI (a ||| b) := by
  apply Int32.toBitVec_inj.mp
  show BitVec.ofNat 32 a ||| BitVec.ofNat 32 b = BitVec.ofNat 32 (a ||| b)
  apply BitVec.eq_of_toNat_eq
  simp [BitVec.toNat_or, BitVec.toNat_ofNat, Nat.or_mod_two_pow]
theorem pt_and (a b : Nat) : nI a &&& nI b = nI (a &&& b) := by
  apply Int32.toBitVec_inj.mp
  show BitVec.ofNat 32 a &&& BitVec.ofNat 32 b = BitVec.ofNat 32 (a &&& b)
  apply BitVec.eq_of_toNat_eq
  simp [BitVec.toNat_and, BitVec.toNat_ofNat, Nat.and_mod_two_pow]
theorem pt_xor (a b : Nat) : nI a ^^^ nI b = nI (a ^^^ b) := by
  apply Int32.toBitVec_inj.mp
  show BitVec.ofNat 32 a ^^^ BitVec.ofNat 32 b = BitVec.ofNat 32 (a ^^^ b)
  apply BitVec.eq_of_toNat_eq
  simp [BitVec.toNat_xor, BitVec.toNat_ofNat, Nat.xor_mod_two_pow]
theorem pt_eq {a b : Nat} (ha : a < 2 ^ 31) (hb : b < 2 ^ 31) : nI a = nI b ↔ a = b := nI_eq ha hb
/-- reading behind a write -/
theorem pt_F_wF (M : pt_M) (k f i : Nat) (v : Int32) (k' f' i' : Nat) : pt_F (pt_wF M k f i v) k' f' i' = if k' = k ∧ f' = f ∧ i' = i then v else pt_F M k' f' i' := rfl
theorem pt_F_wA (M : pt_M) (k i : Nat) (g : Nat → Int32) : pt_F (pt_wA M k i g) = pt_F M := rfl
theorem pt_F_wG (M : pt_M) (k : Nat) (g : Nat → Int64) : pt_F (pt_wG M k g) = pt_F M := rfl
theorem pt_F_wR (M : pt_M) (p v : Nat) : pt_F (pt_wR M p v) = pt_F M := rfl
theorem pt_A_wF (M : pt_M) (k f i : Nat) (v : Int32) : pt_A (pt_wF M k f i v) = pt_A M := rfl
theorem pt_A_wA' (M : pt_M) (k i : Nat) (g : Nat → Int32) (k' i' : Nat) : pt_A (pt_wA M k i g) k' i' = if k' = k ∧ i' = i then g else pt_A M k' i' := rfl
theorem pt_A_wG (M : pt_M) (k : Nat) (g : Nat → Int64) : pt_A (pt_wG M k g) = pt_A M := rfl
theorem pt_A_wR (M : pt_M) (p v : Nat) : pt_A (pt_wR M p v) = pt_A M := rfl
theorem pt_G_wF (M : pt_M) (k f i : Nat) (v : Int32) : pt_G (pt_wF M k f i v) = pt_G M := rfl
theorem pt_G_wA (M : pt_M) (k i : Nat) (g : Nat → Int32) : pt_G (pt_wA M k i g) = pt_G M := rfl
theorem pt_G_wG' (M : pt_M) (k : Nat) (g : Nat → Int64) (k' : Nat) : pt_G (pt_wG M k g) k' = if k' = k then g else pt_G M k' := rfl
theorem pt_G_wR (M : pt_M) (p v : Nat) : pt_G (pt_wR M p v) = pt_G M := rfl
theorem pt_R_wF (M : pt_M) (k f i : Nat) (v : Int32) : pt_R (pt_wF M k f i v) = pt_R M := rfl
theorem pt_R_wA (M : pt_M) (k i : Nat) (g : Nat → Int32) : pt_R (pt_wA M k i g) = pt_R M := rfl
theorem pt_R_wG (M : pt_M) (k : Nat) (g : Nat → Int64) : pt_R (pt_wG M k g) = pt_R M := rfl
theorem pt_R_wR (M : pt_M) (p v q : Nat) : pt_R (pt_wR M p v) q = if q = p then v else pt_R M q := rfl
/-- writing twice -/
theorem pt_wA_wA (M : pt_M) (k i : Nat) (g g' : Nat → Int32) : pt_wA (pt_wA M k i g) k i g' = pt_wA M k i g' := by
  unfold pt_wA
  congr 2
  funext k' i'
  dsimp only
  split <;> rfl
theorem pt_wA_self (M : pt_M) (k i : Nat) : pt_wA M k i (pt_A M k i) = M := by
  obtain ⟨F, A, G, R, X⟩ := M
  unfold pt_wA pt_A
  congr 2
  funext k' i'
  dsimp only
  split
  · rename_i h
    obtain ⟨rfl, rfl⟩ := h
    rfl
  · rfl
theorem pt_wF_wF (M : pt_M) (k f i : Nat) (v v' : Int32) : pt_wF (pt_wF M k f i v) k f i v' = pt_wF M k f i v' := by
  unfold pt_wF
  congr 1
  funext k' f' i'
  dsimp only
  split <;> rfl
/-- loops -/
theorem pt_for {Y : pt_Y} (S : Nat → pt_S) (n : Nat) (h : ∀ i, i < n → pt_Go Y (S i) (S (i + 1))) : ∀ d i, i + d = n → pt_Go Y (S i) (S n)
  | 0, i, e => by
    have : i = n := by omega
    subst this
    exact pt_Go.rf
  | d + 1, i, e => (h i (by omega)).tr (pt_for S n h d (i + 1) (by omega))
theorem pt_for0 {Y : pt_Y} (S : Nat → pt_S) {n : Nat} (h : ∀ i, i < n → pt_Go Y (S i) (S (i + 1))) : pt_Go Y (S 0) (S n) := pt_for S n h n 0 (by omega)
theorem pt_fori {Y : pt_Y} (S : Nat → pt_S) {i n : Nat} (hi : i ≤ n) (h : ∀ j, i ≤ j → j < n → pt_Go Y (S j) (S (j + 1))) : pt_Go Y (S i) (S n) := by
  have := pt_for (fun j => S (i + j)) (n - i) (fun j hj => h (i + j) (by omega) (by omega)) (n - i) 0 (by omega)
  have e : i + (n - i) = n := by omega
  simp only [Nat.add_zero, e] at this
  exact this
theorem pt_narI (x : Int32) : narrow .int (.int x) = .int x := rfl
theorem pt_nar0 : narrow .boolean (.int 0) = .int 0 := rfl
theorem pt_nar1 : narrow .boolean (.int 1) = .int 1 := rfl
def pt_b (b : Bool) : Int32 := if b then 1 else 0
theorem pt_narb (b : Bool) : narrow .boolean (.int (pt_b b)) = .int (pt_b b) := by cases b <;> rfl
end
section
/-! sets of points as bits; tables of turns as functions of rising threes -/
def pb_s : Nat → (Nat → Bool) → Nat
  | 0, _ => 0
  | n + 1, p => pb_s n p + if p n then 2 ^ n else 0
theorem pb_lt (p : Nat → Bool) : ∀ n, pb_s n p < 2 ^ n
  | 0 => Nat.one_pos
  | n + 1 => by
    have := pb_lt p n
    unfold pb_s
    rw [Nat.pow_succ]
    split <;> omega
theorem pb_bit (p : Nat → Bool) : ∀ n k, (pb_s n p).testBit k = (decide (k < n) && p k)
  | 0, k => by simp [pb_s]
  | n + 1, k => by
    have ih := pb_bit p n
    have hlt := pb_lt p n
    unfold pb_s
    by_cases hp : p n = true
    · rw [if_pos hp, Nat.add_comm]
      by_cases hk : k = n
      · subst hk
        rw [Nat.testBit_two_pow_add_eq, ih]
        simp [hp]
      · rcases Nat.lt_or_ge k n with h | h
        · rw [Nat.testBit_two_pow_add_gt h, ih]
          simp [h, Nat.lt_succ_of_lt h]
        · have h2 : 2 ^ n + pb_s n p < 2 ^ k := by
            have : 2 ^ (n + 1) ≤ 2 ^ k := Nat.pow_le_pow_right (by decide) (by omega)
            rw [Nat.pow_succ] at this
            omega
          rw [Nat.testBit_lt_two_pow h2]
          have : ¬ k < n + 1 := by omega
          simp [this]
    · rw [if_neg hp, Nat.add_zero, ih]
      by_cases hk : k = n
      · subst hk
        have : p k = false := by simpa using hp
        simp [this]
      · have : (k < n + 1) ↔ k < n := by omega
        simp [this]
theorem pb_ext {a b n : Nat} (ha : a < 2 ^ n) (hb : b < 2 ^ n) (h : ∀ k, k < n → a.testBit k = b.testBit k) : a = b := by
  apply Nat.eq_of_testBit_eq
  intro k
  rcases Nat.lt_or_ge k n with hk | hk
  · exact h k hk
  · have h1 : 2 ^ n ≤ 2 ^ k := Nat.pow_le_pow_right (by decide) hk
    rw [Nat.testBit_lt_two_pow (by omega), Nat.testBit_lt_two_pow (by omega)]
theorem pb_cong {p q : Nat → Bool} {n : Nat} (h : ∀ k, k < n → p k = q k) : pb_s n p = pb_s n q := by
  apply pb_ext (pb_lt p n) (pb_lt q n)
  intro k hk
  rw [pb_bit, pb_bit, h k hk]
/-- a table out of its rising threes -/
def pb_x (s : Nat → Nat → Nat → Bool) (i j k : Nat) : Bool :=
  if i < j then (if j < k then s i j k else if i < k then !s i k j else s k i j)
  else (if i < k then !s j i k else if j < k then s j k i else !s k j i)
theorem pb_x_up (s : Nat → Nat → Nat → Bool) {i j k : Nat} (h : i < j) (h2 : j < k) : pb_x s i j k = s i j k := by simp [pb_x, h, h2]
theorem pb_x_cyc (s : Nat → Nat → Nat → Bool) {i j k : Nat} (h1 : i ≠ j) (h2 : j ≠ k) (h3 : i ≠ k) : pb_x s j k i = pb_x s i j k := by
  unfold pb_x
  rcases Nat.lt_or_gt_of_ne h1 with a | a <;> rcases Nat.lt_or_gt_of_ne h2 with b | b <;> rcases Nat.lt_or_gt_of_ne h3 with c | c <;>
    simp only [a, b, c, Nat.lt_asymm a, Nat.lt_asymm b, Nat.lt_asymm c, if_true, if_false] <;> (exfalso; omega)
theorem pb_x_swap (s : Nat → Nat → Nat → Bool) {i j k : Nat} (h1 : i ≠ j) (h2 : j ≠ k) (h3 : i ≠ k) : pb_x s j i k = !pb_x s i j k := by
  unfold pb_x
  rcases Nat.lt_or_gt_of_ne h1 with a | a <;> rcases Nat.lt_or_gt_of_ne h2 with b | b <;> rcases Nat.lt_or_gt_of_ne h3 with c | c <;>
    simp only [a, b, c, Nat.lt_asymm a, Nat.lt_asymm b, Nat.lt_asymm c, if_true, if_false, Bool.not_not] <;> (exfalso; omega)
/-- three points of n -/
def pb_g (n i j k : Nat) : Bool := decide (i < n) && (decide (j < n) && (decide (k < n) && (decide (i ≠ j) && (decide (j ≠ k) && decide (i ≠ k)))))
theorem pb_g_iff {n i j k : Nat} : pb_g n i j k = true ↔ i < n ∧ j < n ∧ k < n ∧ i ≠ j ∧ j ≠ k ∧ i ≠ k := by simp [pb_g]
/-- the points to the left of the line from i to j, as bits -/
def pb_m (n : Nat) (T : Nat → Nat → Nat → Bool) (i j : Nat) : Nat := pb_s 10 fun k => pb_g n i j k && T i j k
theorem pb_m_lt (n : Nat) (T : Nat → Nat → Nat → Bool) (i j : Nat) : pb_m n T i j < 1024 := pb_lt _ 10
theorem pb_m_bit {n : Nat} {T : Nat → Nat → Nat → Bool} {i j k : Nat} (hk : k < 10) : (pb_m n T i j).testBit k = (pb_g n i j k && T i j k) := by
  unfold pb_m
  rw [pb_bit]
  simp [hk]
theorem pb_p2 {n : Nat} (h : n ≤ 10) : 2 ^ n ≤ 1024 := by
  have : 2 ^ n ≤ 2 ^ 10 := Nat.pow_le_pow_right (by decide) h
  exact this
theorem pt_in_iff {a N : Nat} (ha : a < 2 ^ 31) : pt_in (nI a) N ↔ a < N := by
  unfold pt_in
  rw [nI_toInt ha]
  omega
theorem pt_lt0 {a : Nat} (ha : a < 2 ^ 31) : nI a < 0 ↔ False := ⟨nI_pos ha, False.elim⟩
theorem pt_ge0 {a : Nat} (ha : a < 2 ^ 31) : (0 : Int32) ≤ nI a ↔ True := ⟨fun _ => trivial, fun _ => nI_pos' ha⟩
/-- the rows of bits of the class's table t -/
def ct_B (M : pt_M) (t : Nat) (B : Nat → Nat → Nat → Bool) : Prop := ∀ i j, i < 10 → j < 10 → pt_A M 11 t (10 * i + j) = nI (pb_s 10 fun k => B i j k)
/-- THE CLASS'S TABLE t: n points, the rising threes s -/
def ct_T (M : pt_M) (t n : Nat) (s : Nat → Nat → Nat → Bool) : Prop := pt_F M 3 0 t = nI n ∧ ct_B M t fun i j k => pb_g n i j k && pb_x s i j k
/-! what the small methods say -/
def sl_P (x : Int32) : Prop := ¬ x < 0 ∧ ¬ 6 ≤ x
def sz_P (x : Int32) : Prop := ¬ x < 3 ∧ ¬ 10 < x
def to_F (x : Int32) : Int32 := ((x * (x - 1)) * (x - 2)) / 6
def so_F (x : Int32) : Int32 := (x * (x - 1)) / 2
def hp_P (M : pt_M) (t : Nat) (x : Int32) : Prop := ¬ x < 0 ∧ ¬ (pt_F M 3 0 t) ≤ x
def ht_P (M : pt_M) (t : Nat) (i j k : Int32) : Prop := hp_P M t i ∧ hp_P M t j ∧ hp_P M t k ∧ ¬ i = j ∧ ¬ j = k ∧ ¬ k = i
def in_P (s p : Int32) : Prop := ((s >>> (p &&& 31)) &&& 1) = 1
def ix_F (i j : Int32) : Int32 := (i * 10) + j
def lf_P (M : pt_M) (t : Nat) (i j k : Int32) : Prop := (((pt_A M 11 t (pt_nt ((i * 10) + j))) >>> (k &&& 31)) &&& 1) = 1
def lo_F (M : pt_M) (t : Nat) (i j : Int32) : Int32 := pt_A M 11 t (pt_nt ((i * 10) + j))
def ep_F (M : pt_M) (t : Nat) : Int32 := ((1 : Int32) <<< ((pt_F M 3 0 t) &&& 31)) - 1
def fg_F (M : pt_M) (t : Nat) : pt_M := pt_wF (pt_wF M 3 2 t (-2)) 3 3 t 0
def bc_1 (x : Int32) : Int32 := x - (((x.toUInt32 >>> ((1 : Int32).toUInt32 &&& Int32.toUInt32 31)).toInt32) &&& 1431655765)
def bc_2 (x : Int32) : Int32 := (x &&& 858993459) + (((x.toUInt32 >>> ((2 : Int32).toUInt32 &&& Int32.toUInt32 31)).toInt32) &&& 858993459)
def bc_3 (x : Int32) : Int32 := (x + ((x.toUInt32 >>> ((4 : Int32).toUInt32 &&& Int32.toUInt32 31)).toInt32)) &&& 252645135
def bc_4 (x : Int32) : Int32 := x + ((x.toUInt32 >>> ((8 : Int32).toUInt32 &&& Int32.toUInt32 31)).toInt32)
def bc_5 (x : Int32) : Int32 := (x + ((x.toUInt32 >>> ((16 : Int32).toUInt32 &&& Int32.toUInt32 31)).toInt32)) &&& 63
def bc_F (x : Int32) : Int32 := bc_5 (bc_4 (bc_3 (bc_2 (bc_1 x))))
def cp_F (x y : Int32) : Int32 := if x < y then -1 else if x = y then 0 else 1
def ab_F (x : Int32) : Int32 := if 0 ≤ x then x else -x
def mi_F (x y : Int32) : Int32 := if y < x then y else x
/-- one row's bit is set or taken away -/
def po_F (M : pt_M) (t : Nat) (i j k b : Int32) : pt_M := pt_wA M 11 t (upd (pt_A M 11 t) (pt_nt ((i * 10) + j)) (if b = 0 then pt_A M 11 t (pt_nt ((i * 10) + j)) &&& (((1 : Int32) <<< (k &&& 31)) ^^^ (-1)) else pt_A M 11 t (pt_nt ((i * 10) + j)) ||| ((1 : Int32) <<< (k &&& 31))))

theorem pt_Go.toM {Y : pt_Y} {σ : pt_S} {pc : Nat} {L : List (Nat × pt_V)} {st : List pt_V} {M M' : pt_M} (h : pt_Go Y σ (pc, L, st, M)) (e : M = M') : pt_Go Y σ (pc, L, st, M') := e ▸ h
theorem pt_Go.toS {Y : pt_Y} {σ : pt_S} {pc : Nat} {L : List (Nat × pt_V)} {st st' : List pt_V} {M M' : pt_M} (h : pt_Go Y σ (pc, L, st, M)) (e : st = st') (e2 : M = M') : pt_Go Y σ (pc, L, st', M') := e ▸ e2 ▸ h
end
section
/-! THE SMALL METHODS -/
theorem rX6_isSlot_15 {vs : List pt_V} {M M' : pt_M} {x : Int32} {L : List (Nat × pt_V)} (hn : narrow .boolean (.int x) = .int x) (hvs : (vs.map pt_w).sum ≤ 1) (hX : M'.2.2.2.2 = M.2.2.2.2) (h : pt_Go YX6_isSlot (0, pt_en 0 vs, [], M) (15, L, [pt_i x], M')) : pt_Does yX6_isSlot YX6_isSlot vs M (some (pt_i x)) M' := pt_does_go tX6_isSlot_ok nX6_isSlot hvs hX ⟨_, by with_unfolding_all rfl, rfl, _, rfl, hn⟩ h
set_option maxRecDepth 100000 in
theorem gX6_isSlot_0_1 (x1 : Int32)  (M : pt_M) (h1 : ¬ x1 < 0) (h2 : ¬ 6 ≤ x1) :
    pt_Go YX6_isSlot (0, [(0, pt_i x1)], [], M)
      (15, [(0, pt_i x1)], [pt_i 1], M) :=
  pt_run_ok tX6_isSlot_ok 7 [.inl false, .inl false] (P := (¬ x1 < 0) ∧ (¬ 6 ≤ x1) ∧ True) (by with_unfolding_all rfl) ⟨h1, h2, trivial⟩
set_option maxRecDepth 100000 in
theorem gX6_isSlot_0_2 (x1 : Int32)  (M : pt_M) (h1 : ¬ x1 < 0) (h2 : 6 ≤ x1) :
    pt_Go YX6_isSlot (0, [(0, pt_i x1)], [], M)
      (15, [(0, pt_i x1)], [pt_i 0], M) :=
  pt_run_ok tX6_isSlot_ok 6 [.inl false, .inl true] (P := (¬ x1 < 0) ∧ (6 ≤ x1) ∧ True) (by with_unfolding_all rfl) ⟨h1, h2, trivial⟩
set_option maxRecDepth 100000 in
theorem gX6_isSlot_0_3 (x1 : Int32)  (M : pt_M) (h1 : x1 < 0) :
    pt_Go YX6_isSlot (0, [(0, pt_i x1)], [], M)
      (15, [(0, pt_i x1)], [pt_i 0], M) :=
  pt_run_ok tX6_isSlot_ok 3 [.inl true] (P := (x1 < 0) ∧ True) (by with_unfolding_all rfl) ⟨h1, trivial⟩
theorem rX6_isSize_16 {vs : List pt_V} {M M' : pt_M} {x : Int32} {L : List (Nat × pt_V)} (hn : narrow .boolean (.int x) = .int x) (hvs : (vs.map pt_w).sum ≤ 1) (hX : M'.2.2.2.2 = M.2.2.2.2) (h : pt_Go YX6_isSize (0, pt_en 0 vs, [], M) (16, L, [pt_i x], M')) : pt_Does yX6_isSize YX6_isSize vs M (some (pt_i x)) M' := pt_does_go tX6_isSize_ok nX6_isSize hvs hX ⟨_, by with_unfolding_all rfl, rfl, _, rfl, hn⟩ h
set_option maxRecDepth 100000 in
theorem gX6_isSize_0_1 (x1 : Int32)  (M : pt_M) (h1 : ¬ x1 < 3) (h2 : ¬ 10 < x1) :
    pt_Go YX6_isSize (0, [(0, pt_i x1)], [], M)
      (16, [(0, pt_i x1)], [pt_i 1], M) :=
  pt_run_ok tX6_isSize_ok 8 [.inl false, .inl false] (P := (¬ x1 < 3) ∧ (¬ 10 < x1) ∧ True) (by with_unfolding_all rfl) ⟨h1, h2, trivial⟩
set_option maxRecDepth 100000 in
theorem gX6_isSize_0_2 (x1 : Int32)  (M : pt_M) (h1 : ¬ x1 < 3) (h2 : 10 < x1) :
    pt_Go YX6_isSize (0, [(0, pt_i x1)], [], M)
      (16, [(0, pt_i x1)], [pt_i 0], M) :=
  pt_run_ok tX6_isSize_ok 7 [.inl false, .inl true] (P := (¬ x1 < 3) ∧ (10 < x1) ∧ True) (by with_unfolding_all rfl) ⟨h1, h2, trivial⟩
set_option maxRecDepth 100000 in
theorem gX6_isSize_0_3 (x1 : Int32)  (M : pt_M) (h1 : x1 < 3) :
    pt_Go YX6_isSize (0, [(0, pt_i x1)], [], M)
      (16, [(0, pt_i x1)], [pt_i 0], M) :=
  pt_run_ok tX6_isSize_ok 4 [.inl true] (P := (x1 < 3) ∧ True) (by with_unfolding_all rfl) ⟨h1, trivial⟩
theorem rX6_turnsOf_12 {vs : List pt_V} {M M' : pt_M} {x : Int32} {L : List (Nat × pt_V)} (hvs : (vs.map pt_w).sum ≤ 1) (hX : M'.2.2.2.2 = M.2.2.2.2) (h : pt_Go YX6_turnsOf (0, pt_en 0 vs, [], M) (12, L, [pt_i x], M')) : pt_Does yX6_turnsOf YX6_turnsOf vs M (some (pt_i x)) M' := pt_does_go tX6_turnsOf_ok nX6_turnsOf hvs hX ⟨_, by with_unfolding_all rfl, rfl, _, rfl, rfl⟩ h
set_option maxRecDepth 100000 in
theorem gX6_turnsOf_0_1 (x1 : Int32)  (M : pt_M) :
    pt_Go YX6_turnsOf (0, [(0, pt_i x1)], [], M)
      (12, [(0, pt_i x1)], [pt_i (((x1 * (x1 - 1)) * (x1 - 2)) / 6)], M) :=
  pt_run_ok tX6_turnsOf_ok 11 [] (P := (¬ (6 : Int32) = 0) ∧ True) (by with_unfolding_all rfl) ⟨(by decide), trivial⟩
theorem rX6_swapsOf_7 {vs : List pt_V} {M M' : pt_M} {x : Int32} {L : List (Nat × pt_V)} (hvs : (vs.map pt_w).sum ≤ 1) (hX : M'.2.2.2.2 = M.2.2.2.2) (h : pt_Go YX6_swapsOf (0, pt_en 0 vs, [], M) (7, L, [pt_i x], M')) : pt_Does yX6_swapsOf YX6_swapsOf vs M (some (pt_i x)) M' := pt_does_go tX6_swapsOf_ok nX6_swapsOf hvs hX ⟨_, by with_unfolding_all rfl, rfl, _, rfl, rfl⟩ h
set_option maxRecDepth 100000 in
theorem gX6_swapsOf_0_1 (x1 : Int32)  (M : pt_M) :
    pt_Go YX6_swapsOf (0, [(0, pt_i x1)], [], M)
      (7, [(0, pt_i x1)], [pt_i ((x1 * (x1 - 1)) / 2)], M) :=
  pt_run_ok tX6_swapsOf_ok 7 [] (P := (¬ (2 : Int32) = 0) ∧ True) (by with_unfolding_all rfl) ⟨(by decide), trivial⟩
theorem rX4_hasPoint_17 {vs : List pt_V} {M M' : pt_M} {x : Int32} {L : List (Nat × pt_V)} (hn : narrow .boolean (.int x) = .int x) (hvs : (vs.map pt_w).sum ≤ 2) (hX : M'.2.2.2.2 = M.2.2.2.2) (h : pt_Go YX4_hasPoint (0, pt_en 0 vs, [], M) (17, L, [pt_i x], M')) : pt_Does yX4_hasPoint YX4_hasPoint vs M (some (pt_i x)) M' := pt_does_go tX4_hasPoint_ok nX4_hasPoint hvs hX ⟨_, by with_unfolding_all rfl, rfl, _, rfl, hn⟩ h
set_option maxRecDepth 100000 in
theorem gX4_hasPoint_0_1 (t : Nat) (x1 : Int32)  (M : pt_M) (h1 : ¬ x1 < 0) (h2 : t < 7) (h3 : ¬ (pt_F M 3 0 t) ≤ x1) :
    pt_Go YX4_hasPoint (0, [(0, pt_r 3 t), (1, pt_i x1)], [], M)
      (17, [(0, pt_r 3 t), (1, pt_i x1)], [pt_i 1], M) :=
  pt_run_ok tX4_hasPoint_ok 8 [.inl false, .inl false] (P := (¬ x1 < 0) ∧ (t < 7) ∧ (¬ (pt_F M 3 0 t) ≤ x1) ∧ True) (by with_unfolding_all rfl) ⟨h1, h2, h3, trivial⟩
set_option maxRecDepth 100000 in
theorem gX4_hasPoint_0_2 (t : Nat) (x1 : Int32)  (M : pt_M) (h1 : ¬ x1 < 0) (h2 : t < 7) (h3 : (pt_F M 3 0 t) ≤ x1) :
    pt_Go YX4_hasPoint (0, [(0, pt_r 3 t), (1, pt_i x1)], [], M)
      (17, [(0, pt_r 3 t), (1, pt_i x1)], [pt_i 0], M) :=
  pt_run_ok tX4_hasPoint_ok 7 [.inl false, .inl true] (P := (¬ x1 < 0) ∧ (t < 7) ∧ ((pt_F M 3 0 t) ≤ x1) ∧ True) (by with_unfolding_all rfl) ⟨h1, h2, h3, trivial⟩
set_option maxRecDepth 100000 in
theorem gX4_hasPoint_0_3 (t : Nat) (x1 : Int32)  (M : pt_M) (h1 : x1 < 0) :
    pt_Go YX4_hasPoint (0, [(0, pt_r 3 t), (1, pt_i x1)], [], M)
      (17, [(0, pt_r 3 t), (1, pt_i x1)], [pt_i 0], M) :=
  pt_run_ok tX4_hasPoint_ok 3 [.inl true] (P := (x1 < 0) ∧ True) (by with_unfolding_all rfl) ⟨h1, trivial⟩
theorem rX2_isIn_14 {vs : List pt_V} {M M' : pt_M} {x : Int32} {L : List (Nat × pt_V)} (hn : narrow .boolean (.int x) = .int x) (hvs : (vs.map pt_w).sum ≤ 2) (hX : M'.2.2.2.2 = M.2.2.2.2) (h : pt_Go YX2_isIn (0, pt_en 0 vs, [], M) (14, L, [pt_i x], M')) : pt_Does yX2_isIn YX2_isIn vs M (some (pt_i x)) M' := pt_does_go tX2_isIn_ok nX2_isIn hvs hX ⟨_, by with_unfolding_all rfl, rfl, _, rfl, hn⟩ h
set_option maxRecDepth 100000 in
theorem gX2_isIn_0_1 (x1 : Int32) (x2 : Int32)  (M : pt_M) (h1 : ((x1 >>> (x2 &&& 31)) &&& 1) = 1) :
    pt_Go YX2_isIn (0, [(0, pt_i x1), (1, pt_i x2)], [], M)
      (14, [(0, pt_i x1), (1, pt_i x2)], [pt_i 1], M) :=
  pt_run_ok tX2_isIn_ok 9 [.inl false] (P := (((x1 >>> (x2 &&& 31)) &&& 1) = 1) ∧ True) (by with_unfolding_all rfl) ⟨h1, trivial⟩
set_option maxRecDepth 100000 in
theorem gX2_isIn_0_2 (x1 : Int32) (x2 : Int32)  (M : pt_M) (h1 : ¬ ((x1 >>> (x2 &&& 31)) &&& 1) = 1) :
    pt_Go YX2_isIn (0, [(0, pt_i x1), (1, pt_i x2)], [], M)
      (14, [(0, pt_i x1), (1, pt_i x2)], [pt_i 0], M) :=
  pt_run_ok tX2_isIn_ok 8 [.inl true] (P := (¬ ((x1 >>> (x2 &&& 31)) &&& 1) = 1) ∧ True) (by with_unfolding_all rfl) ⟨h1, trivial⟩
theorem rX4_leftOf_30 {vs : List pt_V} {M M' : pt_M} {x : Int32} {L : List (Nat × pt_V)} (hvs : (vs.map pt_w).sum ≤ 4) (hX : M'.2.2.2.2 = M.2.2.2.2) (h : pt_Go YX4_leftOf (0, pt_en 0 vs, [], M) (30, L, [pt_i x], M')) : pt_Does yX4_leftOf YX4_leftOf vs M (some (pt_i x)) M' := pt_does_go tX4_leftOf_ok nX4_leftOf hvs hX ⟨_, by with_unfolding_all rfl, rfl, _, rfl, rfl⟩ h
set_option maxRecDepth 100000 in
theorem gX4_leftOf_0_1 (t : Nat) (x1 : Int32) (x2 : Int32)  (M : pt_M) (h1 : ¬ ((x1 * 10) + x2) < 0) (h2 : t < 7) (h3 : ¬ (nI 100) ≤ ((x1 * 10) + x2)) :
    pt_Go YX4_leftOf (0, [(0, pt_r 3 t), (1, pt_i x1), (2, pt_i x2)], [], M)
      (30, [(0, pt_r 3 t), (1, pt_i x1), (2, pt_i x2), (3, pt_i ((x1 * 10) + x2))], [pt_i (pt_A M 11 t (pt_nt ((x1 * 10) + x2)))], M) :=
  pt_run_ok tX4_leftOf_ok 18 [.inl false, .inl false] (P := (¬ ((x1 * 10) + x2) < 0) ∧ (t < 7) ∧ (t < 7) ∧ (¬ (nI 100) ≤ ((x1 * 10) + x2)) ∧ (t < 7) ∧ ((pt_in ((x1 * 10) + x2) 100) ∧ (t < 7)) ∧ True) (by with_unfolding_all rfl) ⟨h1, h2, h2, h3, h2, ⟨(pt_in_of h1 h3 (by decide)), h2⟩, trivial⟩
set_option maxRecDepth 100000 in
theorem gX4_leftOf_0_2 (t : Nat) (x1 : Int32) (x2 : Int32)  (M : pt_M) (h1 : ¬ ((x1 * 10) + x2) < 0) (h2 : t < 7) (h3 : (nI 100) ≤ ((x1 * 10) + x2)) :
    pt_Go YX4_leftOf (0, [(0, pt_r 3 t), (1, pt_i x1), (2, pt_i x2)], [], M)
      (30, [(0, pt_r 3 t), (1, pt_i x1), (2, pt_i x2), (3, pt_i ((x1 * 10) + x2))], [pt_i 0], M) :=
  pt_run_ok tX4_leftOf_ok 14 [.inl false, .inl true] (P := (¬ ((x1 * 10) + x2) < 0) ∧ (t < 7) ∧ (t < 7) ∧ ((nI 100) ≤ ((x1 * 10) + x2)) ∧ True) (by with_unfolding_all rfl) ⟨h1, h2, h2, h3, trivial⟩
set_option maxRecDepth 100000 in
theorem gX4_leftOf_0_3 (t : Nat) (x1 : Int32) (x2 : Int32)  (M : pt_M) (h1 : ((x1 * 10) + x2) < 0) :
    pt_Go YX4_leftOf (0, [(0, pt_r 3 t), (1, pt_i x1), (2, pt_i x2)], [], M)
      (30, [(0, pt_r 3 t), (1, pt_i x1), (2, pt_i x2), (3, pt_i ((x1 * 10) + x2))], [pt_i 0], M) :=
  pt_run_ok tX4_leftOf_ok 9 [.inl true] (P := (((x1 * 10) + x2) < 0) ∧ True) (by with_unfolding_all rfl) ⟨h1, trivial⟩
theorem rX4_isLeft_43 {vs : List pt_V} {M M' : pt_M} {x : Int32} {L : List (Nat × pt_V)} (hn : narrow .boolean (.int x) = .int x) (hvs : (vs.map pt_w).sum ≤ 5) (hX : M'.2.2.2.2 = M.2.2.2.2) (h : pt_Go YX4_isLeft (0, pt_en 0 vs, [], M) (43, L, [pt_i x], M')) : pt_Does yX4_isLeft YX4_isLeft vs M (some (pt_i x)) M' := pt_does_go tX4_isLeft_ok nX4_isLeft hvs hX ⟨_, by with_unfolding_all rfl, rfl, _, rfl, hn⟩ h
set_option maxRecDepth 100000 in
theorem gX4_isLeft_0_1 (t : Nat) (x1 : Int32) (x2 : Int32) (x3 : Int32)  (M : pt_M) (h1 : ¬ ((x1 * 10) + x2) < 0) (h2 : t < 7) (h3 : ¬ (nI 100) ≤ ((x1 * 10) + x2)) (h4 : (((pt_A M 11 t (pt_nt ((x1 * 10) + x2))) >>> (x3 &&& 31)) &&& 1) = 1) :
    pt_Go YX4_isLeft (0, [(0, pt_r 3 t), (1, pt_i x1), (2, pt_i x2), (3, pt_i x3)], [], M)
      (43, [(0, pt_r 3 t), (1, pt_i x1), (2, pt_i x2), (3, pt_i x3), (4, pt_i ((x1 * 10) + x2))], [pt_i 1], M) :=
  pt_run_ok tX4_isLeft_ok 25 [.inl false, .inl false, .inl false] (P := (¬ ((x1 * 10) + x2) < 0) ∧ (t < 7) ∧ (t < 7) ∧ (¬ (nI 100) ≤ ((x1 * 10) + x2)) ∧ (t < 7) ∧ ((pt_in ((x1 * 10) + x2) 100) ∧ (t < 7)) ∧ ((((pt_A M 11 t (pt_nt ((x1 * 10) + x2))) >>> (x3 &&& 31)) &&& 1) = 1) ∧ True) (by with_unfolding_all rfl) ⟨h1, h2, h2, h3, h2, ⟨(pt_in_of h1 h3 (by decide)), h2⟩, h4, trivial⟩
set_option maxRecDepth 100000 in
theorem gX4_isLeft_0_2 (t : Nat) (x1 : Int32) (x2 : Int32) (x3 : Int32)  (M : pt_M) (h1 : ¬ ((x1 * 10) + x2) < 0) (h2 : t < 7) (h3 : ¬ (nI 100) ≤ ((x1 * 10) + x2)) (h4 : ¬ (((pt_A M 11 t (pt_nt ((x1 * 10) + x2))) >>> (x3 &&& 31)) &&& 1) = 1) :
    pt_Go YX4_isLeft (0, [(0, pt_r 3 t), (1, pt_i x1), (2, pt_i x2), (3, pt_i x3)], [], M)
      (43, [(0, pt_r 3 t), (1, pt_i x1), (2, pt_i x2), (3, pt_i x3), (4, pt_i ((x1 * 10) + x2))], [pt_i 0], M) :=
  pt_run_ok tX4_isLeft_ok 24 [.inl false, .inl false, .inl true] (P := (¬ ((x1 * 10) + x2) < 0) ∧ (t < 7) ∧ (t < 7) ∧ (¬ (nI 100) ≤ ((x1 * 10) + x2)) ∧ (t < 7) ∧ ((pt_in ((x1 * 10) + x2) 100) ∧ (t < 7)) ∧ (¬ (((pt_A M 11 t (pt_nt ((x1 * 10) + x2))) >>> (x3 &&& 31)) &&& 1) = 1) ∧ True) (by with_unfolding_all rfl) ⟨h1, h2, h2, h3, h2, ⟨(pt_in_of h1 h3 (by decide)), h2⟩, h4, trivial⟩
set_option maxRecDepth 100000 in
theorem gX4_isLeft_0_3 (t : Nat) (x1 : Int32) (x2 : Int32) (x3 : Int32)  (M : pt_M) (h1 : ¬ ((x1 * 10) + x2) < 0) (h2 : t < 7) (h3 : (nI 100) ≤ ((x1 * 10) + x2)) :
    pt_Go YX4_isLeft (0, [(0, pt_r 3 t), (1, pt_i x1), (2, pt_i x2), (3, pt_i x3)], [], M)
      (43, [(0, pt_r 3 t), (1, pt_i x1), (2, pt_i x2), (3, pt_i x3), (4, pt_i ((x1 * 10) + x2))], [pt_i 0], M) :=
  pt_run_ok tX4_isLeft_ok 14 [.inl false, .inl true] (P := (¬ ((x1 * 10) + x2) < 0) ∧ (t < 7) ∧ (t < 7) ∧ ((nI 100) ≤ ((x1 * 10) + x2)) ∧ True) (by with_unfolding_all rfl) ⟨h1, h2, h2, h3, trivial⟩
set_option maxRecDepth 100000 in
theorem gX4_isLeft_0_4 (t : Nat) (x1 : Int32) (x2 : Int32) (x3 : Int32)  (M : pt_M) (h1 : ((x1 * 10) + x2) < 0) :
    pt_Go YX4_isLeft (0, [(0, pt_r 3 t), (1, pt_i x1), (2, pt_i x2), (3, pt_i x3)], [], M)
      (43, [(0, pt_r 3 t), (1, pt_i x1), (2, pt_i x2), (3, pt_i x3), (4, pt_i ((x1 * 10) + x2))], [pt_i 0], M) :=
  pt_run_ok tX4_isLeft_ok 9 [.inl true] (P := (((x1 * 10) + x2) < 0) ∧ True) (by with_unfolding_all rfl) ⟨h1, trivial⟩
theorem rX4_everyPoint_8 {vs : List pt_V} {M M' : pt_M} {x : Int32} {L : List (Nat × pt_V)} (hvs : (vs.map pt_w).sum ≤ 1) (hX : M'.2.2.2.2 = M.2.2.2.2) (h : pt_Go YX4_everyPoint (0, pt_en 0 vs, [], M) (8, L, [pt_i x], M')) : pt_Does yX4_everyPoint YX4_everyPoint vs M (some (pt_i x)) M' := pt_does_go tX4_everyPoint_ok nX4_everyPoint hvs hX ⟨_, by with_unfolding_all rfl, rfl, _, rfl, rfl⟩ h
set_option maxRecDepth 100000 in
theorem gX4_everyPoint_0_1 (t : Nat)  (M : pt_M) (h1 : t < 7) :
    pt_Go YX4_everyPoint (0, [(0, pt_r 3 t)], [], M)
      (8, [(0, pt_r 3 t)], [pt_i (((1 : Int32) <<< ((pt_F M 3 0 t) &&& 31)) - 1)], M) :=
  pt_run_ok tX4_everyPoint_ok 6 [] (P := (t < 7) ∧ True) (by with_unfolding_all rfl) ⟨h1, trivial⟩
theorem rX4_forget_11 {vs : List pt_V} {M M' : pt_M} {L : List (Nat × pt_V)} (hvs : (vs.map pt_w).sum ≤ 1) (hX : M'.2.2.2.2 = M.2.2.2.2) (h : pt_Go YX4_forget (0, pt_en 0 vs, [], M) (11, L, [], M')) : pt_Does yX4_forget YX4_forget vs M none M' := pt_does_go tX4_forget_ok nX4_forget hvs hX ⟨_, by with_unfolding_all rfl, rfl, rfl⟩ h
set_option maxRecDepth 100000 in
theorem gX4_forget_0_1 (t : Nat)  (M : pt_M) (h1 : t < 7) :
    pt_Go YX4_forget (0, [(0, pt_r 3 t)], [], M)
      (11, [(0, pt_r 3 t)], [], (pt_wF (pt_wF M 3 2 t (-2)) 3 3 t 0)) :=
  pt_run_ok tX4_forget_ok 6 [] (P := (t < 7) ∧ (((0 : Int32) = 0 ∨ (0 : Int32) = 1) ∧ (t < 7)) ∧ True) (by with_unfolding_all rfl) ⟨h1, ⟨(by decide), h1⟩, trivial⟩
theorem rX4_putOne_23 {vs : List pt_V} {M M' : pt_M} {L : List (Nat × pt_V)} (hvs : (vs.map pt_w).sum ≤ 6) (hX : M'.2.2.2.2 = M.2.2.2.2) (h : pt_Go YX4_putOne (0, pt_en 0 vs, [], M) (23, L, [], M')) : pt_Does yX4_putOne YX4_putOne vs M none M' := pt_does_go tX4_putOne_ok nX4_putOne hvs hX ⟨_, by with_unfolding_all rfl, rfl, rfl⟩ h
theorem rX4_putOne_60 {vs : List pt_V} {M M' : pt_M} {L : List (Nat × pt_V)} (hvs : (vs.map pt_w).sum ≤ 6) (hX : M'.2.2.2.2 = M.2.2.2.2) (h : pt_Go YX4_putOne (0, pt_en 0 vs, [], M) (60, L, [], M')) : pt_Does yX4_putOne YX4_putOne vs M none M' := pt_does_go tX4_putOne_ok nX4_putOne hvs hX ⟨_, by with_unfolding_all rfl, rfl, rfl⟩ h
set_option maxRecDepth 100000 in
theorem gX4_putOne_0_1 (t : Nat) (x1 : Int32) (x2 : Int32) (x3 : Int32) (x4 : Int32)  (M : pt_M) (h1 : ¬ ((x1 * 10) + x2) < 0) (h2 : t < 7) (h3 : ¬ ((x1 * 10) + x2) < (nI 100)) :
    pt_Go YX4_putOne (0, [(0, pt_r 3 t), (1, pt_i x1), (2, pt_i x2), (3, pt_i x3), (4, pt_i x4)], [], M)
      (23, [(0, pt_r 3 t), (1, pt_i x1), (2, pt_i x2), (3, pt_i x3), (4, pt_i x4), (5, pt_i ((x1 * 10) + x2))], [], M) :=
  pt_run_ok tX4_putOne_ok 13 [.inl false, .inl false] (P := (¬ ((x1 * 10) + x2) < 0) ∧ (t < 7) ∧ (t < 7) ∧ (¬ ((x1 * 10) + x2) < (nI 100)) ∧ True) (by with_unfolding_all rfl) ⟨h1, h2, h2, h3, trivial⟩
set_option maxRecDepth 100000 in
theorem gX4_putOne_0_2 (t : Nat) (x1 : Int32) (x2 : Int32) (x3 : Int32) (x4 : Int32)  (M : pt_M) (h1 : ¬ ((x1 * 10) + x2) < 0) (h2 : t < 7) (h3 : ((x1 * 10) + x2) < (nI 100)) (h4 : ¬ x4 = 0) (h5 : pt_in ((x1 * 10) + x2) 100) :
    pt_Go YX4_putOne (0, [(0, pt_r 3 t), (1, pt_i x1), (2, pt_i x2), (3, pt_i x3), (4, pt_i x4)], [], M)
      (60, [(0, pt_r 3 t), (1, pt_i x1), (2, pt_i x2), (3, pt_i x3), (4, pt_i x4), (5, pt_i ((x1 * 10) + x2))], [], (pt_wA M 11 t (upd (pt_A M 11 t) (pt_nt ((x1 * 10) + x2)) ((pt_A M 11 t (pt_nt ((x1 * 10) + x2))) ||| ((1 : Int32) <<< (x3 &&& 31)))))) :=
  pt_run_ok tX4_putOne_ok 26 [.inl false, .inl true, .inl false] (P := (¬ ((x1 * 10) + x2) < 0) ∧ (t < 7) ∧ (t < 7) ∧ (((x1 * 10) + x2) < (nI 100)) ∧ (¬ x4 = 0) ∧ (t < 7) ∧ ((pt_in ((x1 * 10) + x2) 100) ∧ (t < 7)) ∧ ((pt_in ((x1 * 10) + x2) 100) ∧ (t < 7)) ∧ True) (by with_unfolding_all rfl) ⟨h1, h2, h2, h3, h4, h2, ⟨h5, h2⟩, ⟨h5, h2⟩, trivial⟩
set_option maxRecDepth 100000 in
theorem gX4_putOne_0_3 (t : Nat) (x1 : Int32) (x2 : Int32) (x3 : Int32) (x4 : Int32)  (M : pt_M) (h1 : ¬ ((x1 * 10) + x2) < 0) (h2 : t < 7) (h3 : ((x1 * 10) + x2) < (nI 100)) (h4 : x4 = 0) (h5 : pt_in ((x1 * 10) + x2) 100) :
    pt_Go YX4_putOne (0, [(0, pt_r 3 t), (1, pt_i x1), (2, pt_i x2), (3, pt_i x3), (4, pt_i x4)], [], M)
      (60, [(0, pt_r 3 t), (1, pt_i x1), (2, pt_i x2), (3, pt_i x3), (4, pt_i x4), (5, pt_i ((x1 * 10) + x2))], [], (pt_wA M 11 t (upd (pt_A M 11 t) (pt_nt ((x1 * 10) + x2)) ((pt_A M 11 t (pt_nt ((x1 * 10) + x2))) &&& (((1 : Int32) <<< (x3 &&& 31)) ^^^ (-1)))))) :=
  pt_run_ok tX4_putOne_ok 27 [.inl false, .inl true, .inl true] (P := (¬ ((x1 * 10) + x2) < 0) ∧ (t < 7) ∧ (t < 7) ∧ (((x1 * 10) + x2) < (nI 100)) ∧ (x4 = 0) ∧ (t < 7) ∧ ((pt_in ((x1 * 10) + x2) 100) ∧ (t < 7)) ∧ ((pt_in ((x1 * 10) + x2) 100) ∧ (t < 7)) ∧ True) (by with_unfolding_all rfl) ⟨h1, h2, h2, h3, h4, h2, ⟨h5, h2⟩, ⟨h5, h2⟩, trivial⟩
set_option maxRecDepth 100000 in
theorem gX4_putOne_0_4 (t : Nat) (x1 : Int32) (x2 : Int32) (x3 : Int32) (x4 : Int32)  (M : pt_M) (h1 : ((x1 * 10) + x2) < 0) :
    pt_Go YX4_putOne (0, [(0, pt_r 3 t), (1, pt_i x1), (2, pt_i x2), (3, pt_i x3), (4, pt_i x4)], [], M)
      (23, [(0, pt_r 3 t), (1, pt_i x1), (2, pt_i x2), (3, pt_i x3), (4, pt_i x4), (5, pt_i ((x1 * 10) + x2))], [], M) :=
  pt_run_ok tX4_putOne_ok 8 [.inl true] (P := (((x1 * 10) + x2) < 0) ∧ True) (by with_unfolding_all rfl) ⟨h1, trivial⟩
theorem rJ6_compare_7cf53_19 {vs : List pt_V} {M M' : pt_M} {x : Int32} {L : List (Nat × pt_V)} (hvs : (vs.map pt_w).sum ≤ 2) (hX : M'.2.2.2.2 = M.2.2.2.2) (h : pt_Go YJ6_compare_7cf53 (0, pt_en 0 vs, [], M) (19, L, [pt_i x], M')) : pt_Does yJ6_compare_7cf53 YJ6_compare_7cf53 vs M (some (pt_i x)) M' := pt_does_go tJ6_compare_7cf53_ok nJ6_compare_7cf53 hvs hX ⟨_, by with_unfolding_all rfl, rfl, _, rfl, rfl⟩ h
set_option maxRecDepth 100000 in
theorem gJ6_compare_7cf53_0_1 (x1 : Int32) (x2 : Int32)  (M : pt_M) (h1 : ¬ x2 ≤ x1) :
    pt_Go YJ6_compare_7cf53 (0, [(0, pt_i x1), (1, pt_i x2)], [], M)
      (19, [(0, pt_i x1), (1, pt_i x2)], [pt_i (-1)], M) :=
  pt_run_ok tJ6_compare_7cf53_ok 5 [.inl false] (P := (¬ x2 ≤ x1) ∧ True) (by with_unfolding_all rfl) ⟨h1, trivial⟩
set_option maxRecDepth 100000 in
theorem gJ6_compare_7cf53_0_2 (x1 : Int32) (x2 : Int32)  (M : pt_M) (h1 : x2 ≤ x1) (h2 : x1 = x2) :
    pt_Go YJ6_compare_7cf53 (0, [(0, pt_i x1), (1, pt_i x2)], [], M)
      (19, [(0, pt_i x1), (1, pt_i x2)], [pt_i 0], M) :=
  pt_run_ok tJ6_compare_7cf53_ok 8 [.inl true, .inl false] (P := (x2 ≤ x1) ∧ (x1 = x2) ∧ True) (by with_unfolding_all rfl) ⟨h1, h2, trivial⟩
set_option maxRecDepth 100000 in
theorem gJ6_compare_7cf53_0_3 (x1 : Int32) (x2 : Int32)  (M : pt_M) (h1 : x2 ≤ x1) (h2 : ¬ x1 = x2) :
    pt_Go YJ6_compare_7cf53 (0, [(0, pt_i x1), (1, pt_i x2)], [], M)
      (19, [(0, pt_i x1), (1, pt_i x2)], [pt_i 1], M) :=
  pt_run_ok tJ6_compare_7cf53_ok 7 [.inl true, .inl true] (P := (x2 ≤ x1) ∧ (¬ x1 = x2) ∧ True) (by with_unfolding_all rfl) ⟨h1, h2, trivial⟩
theorem rJ9_abs_0f7a4_10 {vs : List pt_V} {M M' : pt_M} {x : Int32} {L : List (Nat × pt_V)} (hvs : (vs.map pt_w).sum ≤ 1) (hX : M'.2.2.2.2 = M.2.2.2.2) (h : pt_Go YJ9_abs_0f7a4 (0, pt_en 0 vs, [], M) (10, L, [pt_i x], M')) : pt_Does yJ9_abs_0f7a4 YJ9_abs_0f7a4 vs M (some (pt_i x)) M' := pt_does_go tJ9_abs_0f7a4_ok nJ9_abs_0f7a4 hvs hX ⟨_, by with_unfolding_all rfl, rfl, _, rfl, rfl⟩ h
set_option maxRecDepth 100000 in
theorem gJ9_abs_0f7a4_0_1 (x1 : Int32)  (M : pt_M) (h1 : ¬ 0 ≤ x1) :
    pt_Go YJ9_abs_0f7a4 (0, [(0, pt_i x1)], [], M)
      (10, [(0, pt_i x1)], [pt_i (-x1)], M) :=
  pt_run_ok tJ9_abs_0f7a4_ok 5 [.inl false] (P := (¬ 0 ≤ x1) ∧ True) (by with_unfolding_all rfl) ⟨h1, trivial⟩
set_option maxRecDepth 100000 in
theorem gJ9_abs_0f7a4_0_2 (x1 : Int32)  (M : pt_M) (h1 : 0 ≤ x1) :
    pt_Go YJ9_abs_0f7a4 (0, [(0, pt_i x1)], [], M)
      (10, [(0, pt_i x1)], [pt_i x1], M) :=
  pt_run_ok tJ9_abs_0f7a4_ok 3 [.inl true] (P := (0 ≤ x1) ∧ True) (by with_unfolding_all rfl) ⟨h1, trivial⟩
theorem rJ9_min_7cf53_10 {vs : List pt_V} {M M' : pt_M} {x : Int32} {L : List (Nat × pt_V)} (hvs : (vs.map pt_w).sum ≤ 2) (hX : M'.2.2.2.2 = M.2.2.2.2) (h : pt_Go YJ9_min_7cf53 (0, pt_en 0 vs, [], M) (10, L, [pt_i x], M')) : pt_Does yJ9_min_7cf53 YJ9_min_7cf53 vs M (some (pt_i x)) M' := pt_does_go tJ9_min_7cf53_ok nJ9_min_7cf53 hvs hX ⟨_, by with_unfolding_all rfl, rfl, _, rfl, rfl⟩ h
set_option maxRecDepth 100000 in
theorem gJ9_min_7cf53_0_1 (x1 : Int32) (x2 : Int32)  (M : pt_M) (h1 : ¬ x2 < x1) :
    pt_Go YJ9_min_7cf53 (0, [(0, pt_i x1), (1, pt_i x2)], [], M)
      (10, [(0, pt_i x1), (1, pt_i x2)], [pt_i x1], M) :=
  pt_run_ok tJ9_min_7cf53_ok 5 [.inl false] (P := (¬ x2 < x1) ∧ True) (by with_unfolding_all rfl) ⟨h1, trivial⟩
set_option maxRecDepth 100000 in
theorem gJ9_min_7cf53_0_2 (x1 : Int32) (x2 : Int32)  (M : pt_M) (h1 : x2 < x1) :
    pt_Go YJ9_min_7cf53 (0, [(0, pt_i x1), (1, pt_i x2)], [], M)
      (10, [(0, pt_i x1), (1, pt_i x2)], [pt_i x2], M) :=
  pt_run_ok tJ9_min_7cf53_ok 4 [.inl true] (P := (x2 < x1) ∧ True) (by with_unfolding_all rfl) ⟨h1, trivial⟩
theorem rJ6_bitCount_0f7a4_52 {vs : List pt_V} {M M' : pt_M} {x : Int32} {L : List (Nat × pt_V)} (hvs : (vs.map pt_w).sum ≤ 1) (hX : M'.2.2.2.2 = M.2.2.2.2) (h : pt_Go YJ6_bitCount_0f7a4 (0, pt_en 0 vs, [], M) (52, L, [pt_i x], M')) : pt_Does yJ6_bitCount_0f7a4 YJ6_bitCount_0f7a4 vs M (some (pt_i x)) M' := pt_does_go tJ6_bitCount_0f7a4_ok nJ6_bitCount_0f7a4 hvs hX ⟨_, by with_unfolding_all rfl, rfl, _, rfl, rfl⟩ h
set_option maxRecDepth 100000 in
theorem gJ6_bitCount_0f7a4_0_1 (x1 : Int32)  (M : pt_M) :
    pt_Go YJ6_bitCount_0f7a4 (0, [(0, pt_i x1)], [], M)
      (10, [(0, pt_i (x1 - (((x1.toUInt32 >>> ((1 : Int32).toUInt32 &&& Int32.toUInt32 31)).toInt32) &&& 1431655765)))], [], M) :=
  pt_run_ok tJ6_bitCount_0f7a4_ok 8 [] (P := True) (by with_unfolding_all rfl) trivial
set_option maxRecDepth 100000 in
theorem gJ6_bitCount_0f7a4_10_1 (l0 : Int32)  (M : pt_M) :
    pt_Go YJ6_bitCount_0f7a4 (10, [(0, pt_i l0)], [], M)
      (24, [(0, pt_i ((l0 &&& 858993459) + (((l0.toUInt32 >>> ((2 : Int32).toUInt32 &&& Int32.toUInt32 31)).toInt32) &&& 858993459)))], [], M) :=
  pt_run_ok tJ6_bitCount_0f7a4_ok 10 [] (P := True) (by with_unfolding_all rfl) trivial
set_option maxRecDepth 100000 in
theorem gJ6_bitCount_0f7a4_24_1 (l0 : Int32)  (M : pt_M) :
    pt_Go YJ6_bitCount_0f7a4 (24, [(0, pt_i l0)], [], M)
      (34, [(0, pt_i ((l0 + ((l0.toUInt32 >>> ((4 : Int32).toUInt32 &&& Int32.toUInt32 31)).toInt32)) &&& 252645135))], [], M) :=
  pt_run_ok tJ6_bitCount_0f7a4_ok 8 [] (P := True) (by with_unfolding_all rfl) trivial
set_option maxRecDepth 100000 in
theorem gJ6_bitCount_0f7a4_34_1 (l0 : Int32)  (M : pt_M) :
    pt_Go YJ6_bitCount_0f7a4 (34, [(0, pt_i l0)], [], M)
      (41, [(0, pt_i (l0 + ((l0.toUInt32 >>> ((8 : Int32).toUInt32 &&& Int32.toUInt32 31)).toInt32)))], [], M) :=
  pt_run_ok tJ6_bitCount_0f7a4_ok 6 [] (P := True) (by with_unfolding_all rfl) trivial
set_option maxRecDepth 100000 in
theorem gJ6_bitCount_0f7a4_41_1 (l0 : Int32)  (M : pt_M) :
    pt_Go YJ6_bitCount_0f7a4 (41, [(0, pt_i l0)], [], M)
      (52, [(0, pt_i (l0 + ((l0.toUInt32 >>> ((16 : Int32).toUInt32 &&& Int32.toUInt32 31)).toInt32)))], [pt_i ((l0 + ((l0.toUInt32 >>> ((16 : Int32).toUInt32 &&& Int32.toUInt32 31)).toInt32)) &&& 63)], M) :=
  pt_run_ok tJ6_bitCount_0f7a4_ok 9 [] (P := True) (by with_unfolding_all rfl) trivial
theorem dX6_isSlot_1 {x : Int32} {M : pt_M} (h : sl_P x) : pt_Does yX6_isSlot YX6_isSlot [pt_i x] M (some (pt_i 1)) M :=
  rX6_isSlot_15 rfl (Nat.le_of_ble_eq_true rfl) rfl (gX6_isSlot_0_1 x M h.1 h.2)
theorem dX6_isSlot_0 {x : Int32} {M : pt_M} (h : ¬ sl_P x) : pt_Does yX6_isSlot YX6_isSlot [pt_i x] M (some (pt_i 0)) M := by
  by_cases h1 : x < 0
  · exact rX6_isSlot_15 rfl (Nat.le_of_ble_eq_true rfl) rfl (gX6_isSlot_0_3 x M h1)
  · by_cases h2 : 6 ≤ x
    · exact rX6_isSlot_15 rfl (Nat.le_of_ble_eq_true rfl) rfl (gX6_isSlot_0_2 x M h1 h2)
    · exact absurd ⟨h1, h2⟩ h
theorem dX6_isSize_1 {x : Int32} {M : pt_M} (h : sz_P x) : pt_Does yX6_isSize YX6_isSize [pt_i x] M (some (pt_i 1)) M :=
  rX6_isSize_16 rfl (Nat.le_of_ble_eq_true rfl) rfl (gX6_isSize_0_1 x M h.1 h.2)
theorem dX6_isSize_0 {x : Int32} {M : pt_M} (h : ¬ sz_P x) : pt_Does yX6_isSize YX6_isSize [pt_i x] M (some (pt_i 0)) M := by
  by_cases h1 : x < 3
  · exact rX6_isSize_16 rfl (Nat.le_of_ble_eq_true rfl) rfl (gX6_isSize_0_3 x M h1)
  · by_cases h2 : 10 < x
    · exact rX6_isSize_16 rfl (Nat.le_of_ble_eq_true rfl) rfl (gX6_isSize_0_2 x M h1 h2)
    · exact absurd ⟨h1, h2⟩ h
theorem dX6_turnsOf (x : Int32) (M : pt_M) : pt_Does yX6_turnsOf YX6_turnsOf [pt_i x] M (some (pt_i (to_F x))) M :=
  rX6_turnsOf_12 (Nat.le_of_ble_eq_true rfl) rfl (gX6_turnsOf_0_1 x M)
theorem dX6_swapsOf (x : Int32) (M : pt_M) : pt_Does yX6_swapsOf YX6_swapsOf [pt_i x] M (some (pt_i (so_F x))) M :=
  rX6_swapsOf_7 (Nat.le_of_ble_eq_true rfl) rfl (gX6_swapsOf_0_1 x M)
theorem dX4_hasPoint_1 {t : Nat} {x : Int32} {M : pt_M} (ht : t < 7) (h : hp_P M t x) : pt_Does yX4_hasPoint YX4_hasPoint [pt_r 3 t, pt_i x] M (some (pt_i 1)) M :=
  rX4_hasPoint_17 rfl (Nat.le_of_ble_eq_true rfl) rfl (gX4_hasPoint_0_1 t x M h.1 ht h.2)
theorem dX4_hasPoint_0 {t : Nat} {x : Int32} {M : pt_M} (ht : t < 7) (h : ¬ hp_P M t x) : pt_Does yX4_hasPoint YX4_hasPoint [pt_r 3 t, pt_i x] M (some (pt_i 0)) M := by
  by_cases h1 : x < 0
  · exact rX4_hasPoint_17 rfl (Nat.le_of_ble_eq_true rfl) rfl (gX4_hasPoint_0_3 t x M h1)
  · by_cases h2 : pt_F M 3 0 t ≤ x
    · exact rX4_hasPoint_17 rfl (Nat.le_of_ble_eq_true rfl) rfl (gX4_hasPoint_0_2 t x M h1 ht h2)
    · exact absurd ⟨h1, h2⟩ h
theorem rX4_hasThree_44 {vs : List pt_V} {M M' : pt_M} {x : Int32} {L : List (Nat × pt_V)} (hn : narrow .boolean (.int x) = .int x) (hvs : (vs.map pt_w).sum ≤ 4) (hX : M'.2.2.2.2 = M.2.2.2.2) (h : pt_Go YX4_hasThree (0, pt_en 0 vs, [], M) (44, L, [pt_i x], M')) : pt_Does yX4_hasThree YX4_hasThree vs M (some (pt_i x)) M' := pt_does_go tX4_hasThree_ok nX4_hasThree hvs hX ⟨_, by with_unfolding_all rfl, rfl, _, rfl, hn⟩ h
set_option maxRecDepth 100000 in
theorem gX4_hasThree_0_1 (t : Nat) (x1 : Int32) (x2 : Int32) (x3 : Int32)  (M : pt_M) (h1 : t < 7) (h2 : hp_P M t x1) (h3 : hp_P M t x2) (h4 : hp_P M t x3) (h5 : ¬ x1 = x2) (h6 : ¬ x2 = x3) (h7 : ¬ x3 = x1) :
    pt_Go YX4_hasThree (0, [(0, pt_r 3 t), (1, pt_i x1), (2, pt_i x2), (3, pt_i x3)], [], M)
      (44, [(0, pt_r 3 t), (1, pt_i x1), (2, pt_i x2), (3, pt_i x3)], [pt_i 1], M) :=
  pt_run_ok tX4_hasThree_ok 23 [.inr (2, some (pt_i 1), M), .inl false, .inr (2, some (pt_i 1), M), .inl false, .inr (2, some (pt_i 1), M), .inl false, .inl false, .inl false, .inl false] (P := pt_Cal YX4_hasThree (.invokevirtual 41) [pt_r 3 t, pt_i x1] M (some (pt_i 1)) M ∧ (¬ (1 : Int32) = (0 : Int32)) ∧ pt_Cal YX4_hasThree (.invokevirtual 41) [pt_r 3 t, pt_i x2] M (some (pt_i 1)) M ∧ (¬ (1 : Int32) = (0 : Int32)) ∧ pt_Cal YX4_hasThree (.invokevirtual 41) [pt_r 3 t, pt_i x3] M (some (pt_i 1)) M ∧ (¬ (1 : Int32) = (0 : Int32)) ∧ (¬ x1 = x2) ∧ (¬ x2 = x3) ∧ (¬ x3 = x1) ∧ True) (by with_unfolding_all rfl) ⟨(pt_callV (i := t) kX4_hasThree_41 mX4_hasPoint rfl h1 rfl (dX4_hasPoint_1 h1 h2)), (by decide), (pt_callV (i := t) kX4_hasThree_41 mX4_hasPoint rfl h1 rfl (dX4_hasPoint_1 h1 h3)), (by decide), (pt_callV (i := t) kX4_hasThree_41 mX4_hasPoint rfl h1 rfl (dX4_hasPoint_1 h1 h4)), (by decide), h5, h6, h7, trivial⟩
set_option maxRecDepth 100000 in
theorem gX4_hasThree_0_2 (t : Nat) (x1 : Int32) (x2 : Int32) (x3 : Int32)  (M : pt_M) (h1 : t < 7) (h2 : hp_P M t x1) (h3 : hp_P M t x2) (h4 : hp_P M t x3) (h5 : ¬ x1 = x2) (h6 : ¬ x2 = x3) (h7 : x3 = x1) :
    pt_Go YX4_hasThree (0, [(0, pt_r 3 t), (1, pt_i x1), (2, pt_i x2), (3, pt_i x3)], [], M)
      (44, [(0, pt_r 3 t), (1, pt_i x1), (2, pt_i x2), (3, pt_i x3)], [pt_i 0], M) :=
  pt_run_ok tX4_hasThree_ok 22 [.inr (2, some (pt_i 1), M), .inl false, .inr (2, some (pt_i 1), M), .inl false, .inr (2, some (pt_i 1), M), .inl false, .inl false, .inl false, .inl true] (P := pt_Cal YX4_hasThree (.invokevirtual 41) [pt_r 3 t, pt_i x1] M (some (pt_i 1)) M ∧ (¬ (1 : Int32) = (0 : Int32)) ∧ pt_Cal YX4_hasThree (.invokevirtual 41) [pt_r 3 t, pt_i x2] M (some (pt_i 1)) M ∧ (¬ (1 : Int32) = (0 : Int32)) ∧ pt_Cal YX4_hasThree (.invokevirtual 41) [pt_r 3 t, pt_i x3] M (some (pt_i 1)) M ∧ (¬ (1 : Int32) = (0 : Int32)) ∧ (¬ x1 = x2) ∧ (¬ x2 = x3) ∧ (x3 = x1) ∧ True) (by with_unfolding_all rfl) ⟨(pt_callV (i := t) kX4_hasThree_41 mX4_hasPoint rfl h1 rfl (dX4_hasPoint_1 h1 h2)), (by decide), (pt_callV (i := t) kX4_hasThree_41 mX4_hasPoint rfl h1 rfl (dX4_hasPoint_1 h1 h3)), (by decide), (pt_callV (i := t) kX4_hasThree_41 mX4_hasPoint rfl h1 rfl (dX4_hasPoint_1 h1 h4)), (by decide), h5, h6, h7, trivial⟩
set_option maxRecDepth 100000 in
theorem gX4_hasThree_0_3 (t : Nat) (x1 : Int32) (x2 : Int32) (x3 : Int32)  (M : pt_M) (h1 : t < 7) (h2 : hp_P M t x1) (h3 : hp_P M t x2) (h4 : hp_P M t x3) (h5 : ¬ x1 = x2) (h6 : x2 = x3) :
    pt_Go YX4_hasThree (0, [(0, pt_r 3 t), (1, pt_i x1), (2, pt_i x2), (3, pt_i x3)], [], M)
      (44, [(0, pt_r 3 t), (1, pt_i x1), (2, pt_i x2), (3, pt_i x3)], [pt_i 0], M) :=
  pt_run_ok tX4_hasThree_ok 19 [.inr (2, some (pt_i 1), M), .inl false, .inr (2, some (pt_i 1), M), .inl false, .inr (2, some (pt_i 1), M), .inl false, .inl false, .inl true] (P := pt_Cal YX4_hasThree (.invokevirtual 41) [pt_r 3 t, pt_i x1] M (some (pt_i 1)) M ∧ (¬ (1 : Int32) = (0 : Int32)) ∧ pt_Cal YX4_hasThree (.invokevirtual 41) [pt_r 3 t, pt_i x2] M (some (pt_i 1)) M ∧ (¬ (1 : Int32) = (0 : Int32)) ∧ pt_Cal YX4_hasThree (.invokevirtual 41) [pt_r 3 t, pt_i x3] M (some (pt_i 1)) M ∧ (¬ (1 : Int32) = (0 : Int32)) ∧ (¬ x1 = x2) ∧ (x2 = x3) ∧ True) (by with_unfolding_all rfl) ⟨(pt_callV (i := t) kX4_hasThree_41 mX4_hasPoint rfl h1 rfl (dX4_hasPoint_1 h1 h2)), (by decide), (pt_callV (i := t) kX4_hasThree_41 mX4_hasPoint rfl h1 rfl (dX4_hasPoint_1 h1 h3)), (by decide), (pt_callV (i := t) kX4_hasThree_41 mX4_hasPoint rfl h1 rfl (dX4_hasPoint_1 h1 h4)), (by decide), h5, h6, trivial⟩
set_option maxRecDepth 100000 in
theorem gX4_hasThree_0_4 (t : Nat) (x1 : Int32) (x2 : Int32) (x3 : Int32)  (M : pt_M) (h1 : t < 7) (h2 : hp_P M t x1) (h3 : hp_P M t x2) (h4 : hp_P M t x3) (h5 : x1 = x2) :
    pt_Go YX4_hasThree (0, [(0, pt_r 3 t), (1, pt_i x1), (2, pt_i x2), (3, pt_i x3)], [], M)
      (44, [(0, pt_r 3 t), (1, pt_i x1), (2, pt_i x2), (3, pt_i x3)], [pt_i 0], M) :=
  pt_run_ok tX4_hasThree_ok 16 [.inr (2, some (pt_i 1), M), .inl false, .inr (2, some (pt_i 1), M), .inl false, .inr (2, some (pt_i 1), M), .inl false, .inl true] (P := pt_Cal YX4_hasThree (.invokevirtual 41) [pt_r 3 t, pt_i x1] M (some (pt_i 1)) M ∧ (¬ (1 : Int32) = (0 : Int32)) ∧ pt_Cal YX4_hasThree (.invokevirtual 41) [pt_r 3 t, pt_i x2] M (some (pt_i 1)) M ∧ (¬ (1 : Int32) = (0 : Int32)) ∧ pt_Cal YX4_hasThree (.invokevirtual 41) [pt_r 3 t, pt_i x3] M (some (pt_i 1)) M ∧ (¬ (1 : Int32) = (0 : Int32)) ∧ (x1 = x2) ∧ True) (by with_unfolding_all rfl) ⟨(pt_callV (i := t) kX4_hasThree_41 mX4_hasPoint rfl h1 rfl (dX4_hasPoint_1 h1 h2)), (by decide), (pt_callV (i := t) kX4_hasThree_41 mX4_hasPoint rfl h1 rfl (dX4_hasPoint_1 h1 h3)), (by decide), (pt_callV (i := t) kX4_hasThree_41 mX4_hasPoint rfl h1 rfl (dX4_hasPoint_1 h1 h4)), (by decide), h5, trivial⟩
set_option maxRecDepth 100000 in
theorem gX4_hasThree_0_5 (t : Nat) (x1 : Int32) (x2 : Int32) (x3 : Int32)  (M : pt_M) (h1 : t < 7) (h2 : hp_P M t x1) (h3 : hp_P M t x2) (h4 : ¬ hp_P M t x3) :
    pt_Go YX4_hasThree (0, [(0, pt_r 3 t), (1, pt_i x1), (2, pt_i x2), (3, pt_i x3)], [], M)
      (44, [(0, pt_r 3 t), (1, pt_i x1), (2, pt_i x2), (3, pt_i x3)], [pt_i 0], M) :=
  pt_run_ok tX4_hasThree_ok 13 [.inr (2, some (pt_i 1), M), .inl false, .inr (2, some (pt_i 1), M), .inl false, .inr (2, some (pt_i 0), M), .inl true] (P := pt_Cal YX4_hasThree (.invokevirtual 41) [pt_r 3 t, pt_i x1] M (some (pt_i 1)) M ∧ (¬ (1 : Int32) = (0 : Int32)) ∧ pt_Cal YX4_hasThree (.invokevirtual 41) [pt_r 3 t, pt_i x2] M (some (pt_i 1)) M ∧ (¬ (1 : Int32) = (0 : Int32)) ∧ pt_Cal YX4_hasThree (.invokevirtual 41) [pt_r 3 t, pt_i x3] M (some (pt_i 0)) M ∧ ((0 : Int32) = (0 : Int32)) ∧ True) (by with_unfolding_all rfl) ⟨(pt_callV (i := t) kX4_hasThree_41 mX4_hasPoint rfl h1 rfl (dX4_hasPoint_1 h1 h2)), (by decide), (pt_callV (i := t) kX4_hasThree_41 mX4_hasPoint rfl h1 rfl (dX4_hasPoint_1 h1 h3)), (by decide), (pt_callV (i := t) kX4_hasThree_41 mX4_hasPoint rfl h1 rfl (dX4_hasPoint_0 h1 h4)), (by decide), trivial⟩
set_option maxRecDepth 100000 in
theorem gX4_hasThree_0_6 (t : Nat) (x1 : Int32) (x2 : Int32) (x3 : Int32)  (M : pt_M) (h1 : t < 7) (h2 : hp_P M t x1) (h3 : ¬ hp_P M t x2) :
    pt_Go YX4_hasThree (0, [(0, pt_r 3 t), (1, pt_i x1), (2, pt_i x2), (3, pt_i x3)], [], M)
      (44, [(0, pt_r 3 t), (1, pt_i x1), (2, pt_i x2), (3, pt_i x3)], [pt_i 0], M) :=
  pt_run_ok tX4_hasThree_ok 9 [.inr (2, some (pt_i 1), M), .inl false, .inr (2, some (pt_i 0), M), .inl true] (P := pt_Cal YX4_hasThree (.invokevirtual 41) [pt_r 3 t, pt_i x1] M (some (pt_i 1)) M ∧ (¬ (1 : Int32) = (0 : Int32)) ∧ pt_Cal YX4_hasThree (.invokevirtual 41) [pt_r 3 t, pt_i x2] M (some (pt_i 0)) M ∧ ((0 : Int32) = (0 : Int32)) ∧ True) (by with_unfolding_all rfl) ⟨(pt_callV (i := t) kX4_hasThree_41 mX4_hasPoint rfl h1 rfl (dX4_hasPoint_1 h1 h2)), (by decide), (pt_callV (i := t) kX4_hasThree_41 mX4_hasPoint rfl h1 rfl (dX4_hasPoint_0 h1 h3)), (by decide), trivial⟩
set_option maxRecDepth 100000 in
theorem gX4_hasThree_0_7 (t : Nat) (x1 : Int32) (x2 : Int32) (x3 : Int32)  (M : pt_M) (h1 : t < 7) (h2 : ¬ hp_P M t x1) :
    pt_Go YX4_hasThree (0, [(0, pt_r 3 t), (1, pt_i x1), (2, pt_i x2), (3, pt_i x3)], [], M)
      (44, [(0, pt_r 3 t), (1, pt_i x1), (2, pt_i x2), (3, pt_i x3)], [pt_i 0], M) :=
  pt_run_ok tX4_hasThree_ok 5 [.inr (2, some (pt_i 0), M), .inl true] (P := pt_Cal YX4_hasThree (.invokevirtual 41) [pt_r 3 t, pt_i x1] M (some (pt_i 0)) M ∧ ((0 : Int32) = (0 : Int32)) ∧ True) (by with_unfolding_all rfl) ⟨(pt_callV (i := t) kX4_hasThree_41 mX4_hasPoint rfl h1 rfl (dX4_hasPoint_0 h1 h2)), (by decide), trivial⟩
theorem dX4_hasThree_1 {t : Nat} {i j k : Int32} {M : pt_M} (ht : t < 7) (h : ht_P M t i j k) : pt_Does yX4_hasThree YX4_hasThree [pt_r 3 t, pt_i i, pt_i j, pt_i k] M (some (pt_i 1)) M :=
  rX4_hasThree_44 rfl (Nat.le_of_ble_eq_true rfl) rfl (gX4_hasThree_0_1 t i j k M ht h.1 h.2.1 h.2.2.1 h.2.2.2.1 h.2.2.2.2.1 h.2.2.2.2.2)
theorem dX4_hasThree_0 {t : Nat} {i j k : Int32} {M : pt_M} (ht : t < 7) (h : ¬ ht_P M t i j k) : pt_Does yX4_hasThree YX4_hasThree [pt_r 3 t, pt_i i, pt_i j, pt_i k] M (some (pt_i 0)) M := by
  refine rX4_hasThree_44 rfl (L := [(0, pt_r 3 t), (1, pt_i i), (2, pt_i j), (3, pt_i k)]) (Nat.le_of_ble_eq_true rfl) rfl ?_
  · by_cases h1 : hp_P M t i
    · by_cases h2 : hp_P M t j
      · by_cases h3 : hp_P M t k
        · by_cases h4 : i = j
          · exact gX4_hasThree_0_4 t i j k M ht h1 h2 h3 h4
          · by_cases h5 : j = k
            · exact gX4_hasThree_0_3 t i j k M ht h1 h2 h3 h4 h5
            · by_cases h6 : k = i
              · exact gX4_hasThree_0_2 t i j k M ht h1 h2 h3 h4 h5 h6
              · exact absurd ⟨h1, h2, h3, h4, h5, h6⟩ h
        · exact gX4_hasThree_0_5 t i j k M ht h1 h2 h3
      · exact gX4_hasThree_0_6 t i j k M ht h1 h2
    · exact gX4_hasThree_0_7 t i j k M ht h1
theorem dX2_isIn_1 {s p : Int32} {M : pt_M} (h : in_P s p) : pt_Does yX2_isIn YX2_isIn [pt_i s, pt_i p] M (some (pt_i 1)) M :=
  rX2_isIn_14 rfl (Nat.le_of_ble_eq_true rfl) rfl (gX2_isIn_0_1 s p M h)
theorem dX2_isIn_0 {s p : Int32} {M : pt_M} (h : ¬ in_P s p) : pt_Does yX2_isIn YX2_isIn [pt_i s, pt_i p] M (some (pt_i 0)) M :=
  rX2_isIn_14 rfl (Nat.le_of_ble_eq_true rfl) rfl (gX2_isIn_0_2 s p M h)
theorem pt_in_n {x : Int32} {n : Nat} (hn : n < 2 ^ 31) (h : pt_in x n) : ¬ x < 0 ∧ ¬ nI n ≤ x ∧ x < nI n := by
  obtain ⟨j, hj, rfl⟩ := vp_in_of (pt_in_vp h) hn
  exact ⟨nI_pos (by omega), nI_ge hj hn, nI_lt hj hn⟩
theorem dX4_leftOf {t : Nat} {i j : Int32} {M : pt_M} (ht : t < 7) (h : pt_in (ix_F i j) 100) : pt_Does yX4_leftOf YX4_leftOf [pt_r 3 t, pt_i i, pt_i j] M (some (pt_i (lo_F M t i j))) M :=
  rX4_leftOf_30 (Nat.le_of_ble_eq_true rfl) rfl (gX4_leftOf_0_1 t i j M (pt_in_n (by decide) h).1 ht (pt_in_n (by decide) h).2.1)
theorem dX4_isLeft_1 {t : Nat} {i j k : Int32} {M : pt_M} (ht : t < 7) (h : pt_in (ix_F i j) 100) (hl : lf_P M t i j k) : pt_Does yX4_isLeft YX4_isLeft [pt_r 3 t, pt_i i, pt_i j, pt_i k] M (some (pt_i 1)) M :=
  rX4_isLeft_43 rfl (Nat.le_of_ble_eq_true rfl) rfl (gX4_isLeft_0_1 t i j k M (pt_in_n (by decide) h).1 ht (pt_in_n (by decide) h).2.1 hl)
theorem dX4_isLeft_0 {t : Nat} {i j k : Int32} {M : pt_M} (ht : t < 7) (h : pt_in (ix_F i j) 100) (hl : ¬ lf_P M t i j k) : pt_Does yX4_isLeft YX4_isLeft [pt_r 3 t, pt_i i, pt_i j, pt_i k] M (some (pt_i 0)) M :=
  rX4_isLeft_43 rfl (Nat.le_of_ble_eq_true rfl) rfl (gX4_isLeft_0_2 t i j k M (pt_in_n (by decide) h).1 ht (pt_in_n (by decide) h).2.1 hl)
theorem dX4_everyPoint {t : Nat} {M : pt_M} (ht : t < 7) : pt_Does yX4_everyPoint YX4_everyPoint [pt_r 3 t] M (some (pt_i (ep_F M t))) M :=
  rX4_everyPoint_8 (Nat.le_of_ble_eq_true rfl) rfl (gX4_everyPoint_0_1 t M ht)
theorem dX4_forget {t : Nat} {M : pt_M} (ht : t < 7) : pt_Does yX4_forget YX4_forget [pt_r 3 t] M none (fg_F M t) :=
  rX4_forget_11 (Nat.le_of_ble_eq_true rfl) rfl (gX4_forget_0_1 t M ht)
theorem dX4_putOne {t : Nat} {i j k b : Int32} {M : pt_M} (ht : t < 7) (h : pt_in (ix_F i j) 100) : pt_Does yX4_putOne YX4_putOne [pt_r 3 t, pt_i i, pt_i j, pt_i k, pt_i b] M none (po_F M t i j k b) := by
  obtain ⟨h1, -, h3⟩ := pt_in_n (by decide) h
  by_cases hb : b = 0
  · refine rX4_putOne_60 (Nat.le_of_ble_eq_true rfl) rfl ((gX4_putOne_0_3 t i j k b M h1 ht h3 hb h).toM ?_)
    unfold po_F
    rw [if_pos hb]
  · refine rX4_putOne_60 (Nat.le_of_ble_eq_true rfl) rfl ((gX4_putOne_0_2 t i j k b M h1 ht h3 hb h).toM ?_)
    unfold po_F
    rw [if_neg hb]
theorem dJ6_bitCount (x : Int32) (M : pt_M) : pt_Does yJ6_bitCount_0f7a4 YJ6_bitCount_0f7a4 [pt_i x] M (some (pt_i (bc_F x))) M :=
  rJ6_bitCount_0f7a4_52 (Nat.le_of_ble_eq_true rfl) rfl ((gJ6_bitCount_0f7a4_0_1 x M).tr ((gJ6_bitCount_0f7a4_10_1 (bc_1 x) M).tr ((gJ6_bitCount_0f7a4_24_1 (bc_2 (bc_1 x)) M).tr ((gJ6_bitCount_0f7a4_34_1 (bc_3 (bc_2 (bc_1 x))) M).tr (gJ6_bitCount_0f7a4_41_1 (bc_4 (bc_3 (bc_2 (bc_1 x)))) M)))))
theorem dJ6_compare (x y : Int32) (M : pt_M) : pt_Does yJ6_compare_7cf53 YJ6_compare_7cf53 [pt_i x, pt_i y] M (some (pt_i (cp_F x y))) M := by
  unfold cp_F
  by_cases h1 : x < y
  · rw [if_pos h1]
    exact rJ6_compare_7cf53_19 (Nat.le_of_ble_eq_true rfl) rfl (gJ6_compare_7cf53_0_1 x y M (Int32.not_le.mpr h1))
  · rw [if_neg h1]
    by_cases h2 : x = y
    · rw [if_pos h2]
      exact rJ6_compare_7cf53_19 (Nat.le_of_ble_eq_true rfl) rfl (gJ6_compare_7cf53_0_2 x y M (Int32.not_lt.mp h1) h2)
    · rw [if_neg h2]
      exact rJ6_compare_7cf53_19 (Nat.le_of_ble_eq_true rfl) rfl (gJ6_compare_7cf53_0_3 x y M (Int32.not_lt.mp h1) h2)
theorem dJ9_abs (x : Int32) (M : pt_M) : pt_Does yJ9_abs_0f7a4 YJ9_abs_0f7a4 [pt_i x] M (some (pt_i (ab_F x))) M := by
  unfold ab_F
  by_cases h1 : 0 ≤ x
  · rw [if_pos h1]
    exact rJ9_abs_0f7a4_10 (Nat.le_of_ble_eq_true rfl) rfl (gJ9_abs_0f7a4_0_2 x M h1)
  · rw [if_neg h1]
    exact rJ9_abs_0f7a4_10 (Nat.le_of_ble_eq_true rfl) rfl (gJ9_abs_0f7a4_0_1 x M h1)
theorem dJ9_min (x y : Int32) (M : pt_M) : pt_Does yJ9_min_7cf53 YJ9_min_7cf53 [pt_i x, pt_i y] M (some (pt_i (mi_F x y))) M := by
  unfold mi_F
  by_cases h1 : y < x
  · rw [if_pos h1]
    exact rJ9_min_7cf53_10 (Nat.le_of_ble_eq_true rfl) rfl (gJ9_min_7cf53_0_2 x y M h1)
  · rw [if_neg h1]
    exact rJ9_min_7cf53_10 (Nat.le_of_ble_eq_true rfl) rfl (gJ9_min_7cf53_0_1 x y M h1)
end
section
/-! Arrays.fill; Table.begin, put -/
def fi_F (M : pt_M) (k t n : Nat) (x : Int32) : pt_M := pt_wA M k t fun p => if p < n then x else pt_A M k t p
theorem fi_zero (M : pt_M) (k t : Nat) (x : Int32) : fi_F M k t 0 x = M := by
  unfold fi_F
  have : (fun p => if p < 0 then x else pt_A M k t p) = pt_A M k t := by
    funext p
    rw [if_neg (Nat.not_lt_zero p)]
  rw [this, pt_wA_self]
theorem fi_step {M : pt_M} {k t i : Nat} {x : Int32} (hi : i < 2 ^ 31) : pt_wA (fi_F M k t i x) k t (upd (pt_A (fi_F M k t i x) k t) (pt_nt (nI i)) x) = fi_F M k t (i + 1) x := by
  unfold fi_F
  rw [pt_wA_wA, pt_A_wA, pt_nt_nI hi]
  congr 1
  funext p
  unfold upd
  by_cases h : p = i
  · rw [if_pos h, if_pos (by omega)]
  · rw [if_neg h]
    dsimp only
    by_cases h2 : p < i
    · rw [if_pos h2, if_pos (by omega)]
    · rw [if_neg h2, if_neg (by omega)]
theorem rJ7_fill_53178_20 {vs : List pt_V} {M M' : pt_M} {L : List (Nat × pt_V)} (hvs : (vs.map pt_w).sum ≤ 4) (hX : M'.2.2.2.2 = M.2.2.2.2) (h : pt_Go YJ7_fill_53178 (0, pt_en 0 vs, [], M) (20, L, [], M')) : pt_Does yJ7_fill_53178 YJ7_fill_53178 vs M none M' := pt_does_go tJ7_fill_53178_ok nJ7_fill_53178 hvs hX ⟨_, by with_unfolding_all rfl, rfl, rfl⟩ h
set_option maxRecDepth 100000 in
theorem gJ7_fill_5317811_0_1 (t : Nat) (x : Int32)  (M : pt_M) (h1 : t < 7) :
    pt_Go YJ7_fill_53178 (0, [(0, pt_r 11 t), (1, pt_i x)], [], M)
      (5, [(0, pt_r 11 t), (1, pt_i x), (2, pt_i 0), (3, pt_i (nI 100))], [], M) :=
  pt_run_ok tJ7_fill_53178_ok 5 [] (P := (t < 7) ∧ True) (by with_unfolding_all rfl) ⟨h1, trivial⟩
set_option maxRecDepth 100000 in
theorem gJ7_fill_5317811_5_1 (t : Nat) (l1 : Int32) (l2 : Int32) (l3 : Int32)  (M : pt_M) (h1 : ¬ l3 ≤ l2) (h2 : pt_in l2 100) (h3 : t < 7) :
    pt_Go YJ7_fill_53178 (5, [(0, pt_r 11 t), (1, pt_i l1), (2, pt_i l2), (3, pt_i l3)], [], M)
      (5, [(0, pt_r 11 t), (1, pt_i l1), (2, pt_i (l2 + 1)), (3, pt_i l3)], [], (pt_wA M 11 t (upd (pt_A M 11 t) (pt_nt l2) l1))) :=
  pt_run_ok tJ7_fill_53178_ok 9 [.inl false] (P := (¬ l3 ≤ l2) ∧ ((pt_in l2 100) ∧ (t < 7)) ∧ True) (by with_unfolding_all rfl) ⟨h1, ⟨h2, h3⟩, trivial⟩
set_option maxRecDepth 100000 in
theorem gJ7_fill_5317811_5_2 (t : Nat) (l1 : Int32) (l2 : Int32) (l3 : Int32)  (M : pt_M) (h1 : l3 ≤ l2) :
    pt_Go YJ7_fill_53178 (5, [(0, pt_r 11 t), (1, pt_i l1), (2, pt_i l2), (3, pt_i l3)], [], M)
      (20, [(0, pt_r 11 t), (1, pt_i l1), (2, pt_i l2), (3, pt_i l3)], [], M) :=
  pt_run_ok tJ7_fill_53178_ok 3 [.inl true] (P := (l3 ≤ l2) ∧ True) (by with_unfolding_all rfl) ⟨h1, trivial⟩
theorem dJ7_fill_11 {t : Nat} {x : Int32} {M : pt_M} (ht : t < 7) : pt_Does yJ7_fill_53178 YJ7_fill_53178 [pt_r 11 t, pt_i x] M none (fi_F M 11 t 100 x) := by
  have h := pt_for0 (Y := YJ7_fill_53178) (fun i => (5, [(0, pt_r 11 t), (1, pt_i x), (2, pt_i (nI i)), (3, pt_i (nI 100))], [], fi_F M 11 t i x)) (n := 100) (fun i hi => (gJ7_fill_5317811_5_1 t x (nI i) (nI 100) _ (nI_ge hi (by decide)) (pt_in_nI hi (by decide)) ht).to (by rw [nI_1, fi_step (by omega)]))
  refine rJ7_fill_53178_20 (Nat.le_of_ble_eq_true rfl) rfl (((gJ7_fill_5317811_0_1 t x M ht).toM (fi_zero M 11 t x).symm).tr (h.tr (gJ7_fill_5317811_5_2 t x (nI 100) (nI 100) _ (Int32.le_refl _))))
set_option maxRecDepth 100000 in
theorem gJ7_fill_5317812_0_1 (t : Nat) (x : Int32)  (M : pt_M) (h1 : t < 7) :
    pt_Go YJ7_fill_53178 (0, [(0, pt_r 12 t), (1, pt_i x)], [], M)
      (5, [(0, pt_r 12 t), (1, pt_i x), (2, pt_i 0), (3, pt_i (nI 120))], [], M) :=
  pt_run_ok tJ7_fill_53178_ok 5 [] (P := (t < 7) ∧ True) (by with_unfolding_all rfl) ⟨h1, trivial⟩
set_option maxRecDepth 100000 in
theorem gJ7_fill_5317812_5_1 (t : Nat) (l1 : Int32) (l2 : Int32) (l3 : Int32)  (M : pt_M) (h1 : ¬ l3 ≤ l2) (h2 : pt_in l2 120) (h3 : t < 7) :
    pt_Go YJ7_fill_53178 (5, [(0, pt_r 12 t), (1, pt_i l1), (2, pt_i l2), (3, pt_i l3)], [], M)
      (5, [(0, pt_r 12 t), (1, pt_i l1), (2, pt_i (l2 + 1)), (3, pt_i l3)], [], (pt_wA M 12 t (upd (pt_A M 12 t) (pt_nt l2) l1))) :=
  pt_run_ok tJ7_fill_53178_ok 9 [.inl false] (P := (¬ l3 ≤ l2) ∧ ((pt_in l2 120) ∧ (t < 7)) ∧ True) (by with_unfolding_all rfl) ⟨h1, ⟨h2, h3⟩, trivial⟩
set_option maxRecDepth 100000 in
theorem gJ7_fill_5317812_5_2 (t : Nat) (l1 : Int32) (l2 : Int32) (l3 : Int32)  (M : pt_M) (h1 : l3 ≤ l2) :
    pt_Go YJ7_fill_53178 (5, [(0, pt_r 12 t), (1, pt_i l1), (2, pt_i l2), (3, pt_i l3)], [], M)
      (20, [(0, pt_r 12 t), (1, pt_i l1), (2, pt_i l2), (3, pt_i l3)], [], M) :=
  pt_run_ok tJ7_fill_53178_ok 3 [.inl true] (P := (l3 ≤ l2) ∧ True) (by with_unfolding_all rfl) ⟨h1, trivial⟩
theorem dJ7_fill_12 {t : Nat} {x : Int32} {M : pt_M} (ht : t < 7) : pt_Does yJ7_fill_53178 YJ7_fill_53178 [pt_r 12 t, pt_i x] M none (fi_F M 12 t 120 x) := by
  have h := pt_for0 (Y := YJ7_fill_53178) (fun i => (5, [(0, pt_r 12 t), (1, pt_i x), (2, pt_i (nI i)), (3, pt_i (nI 120))], [], fi_F M 12 t i x)) (n := 120) (fun i hi => (gJ7_fill_5317812_5_1 t x (nI i) (nI 120) _ (nI_ge hi (by decide)) (pt_in_nI hi (by decide)) ht).to (by rw [nI_1, fi_step (by omega)]))
  refine rJ7_fill_53178_20 (Nat.le_of_ble_eq_true rfl) rfl (((gJ7_fill_5317812_0_1 t x M ht).toM (fi_zero M 12 t x).symm).tr (h.tr (gJ7_fill_5317812_5_2 t x (nI 120) (nI 120) _ (Int32.le_refl _))))
set_option maxRecDepth 100000 in
theorem gJ7_fill_5317813_0_1 (t : Nat) (x : Int32)  (M : pt_M) (h1 : t < 7) :
    pt_Go YJ7_fill_53178 (0, [(0, pt_r 13 t), (1, pt_i x)], [], M)
      (5, [(0, pt_r 13 t), (1, pt_i x), (2, pt_i 0), (3, pt_i (nI 120))], [], M) :=
  pt_run_ok tJ7_fill_53178_ok 5 [] (P := (t < 7) ∧ True) (by with_unfolding_all rfl) ⟨h1, trivial⟩
set_option maxRecDepth 100000 in
theorem gJ7_fill_5317813_5_1 (t : Nat) (l1 : Int32) (l2 : Int32) (l3 : Int32)  (M : pt_M) (h1 : ¬ l3 ≤ l2) (h2 : pt_in l2 120) (h3 : t < 7) :
    pt_Go YJ7_fill_53178 (5, [(0, pt_r 13 t), (1, pt_i l1), (2, pt_i l2), (3, pt_i l3)], [], M)
      (5, [(0, pt_r 13 t), (1, pt_i l1), (2, pt_i (l2 + 1)), (3, pt_i l3)], [], (pt_wA M 13 t (upd (pt_A M 13 t) (pt_nt l2) l1))) :=
  pt_run_ok tJ7_fill_53178_ok 9 [.inl false] (P := (¬ l3 ≤ l2) ∧ ((pt_in l2 120) ∧ (t < 7)) ∧ True) (by with_unfolding_all rfl) ⟨h1, ⟨h2, h3⟩, trivial⟩
set_option maxRecDepth 100000 in
theorem gJ7_fill_5317813_5_2 (t : Nat) (l1 : Int32) (l2 : Int32) (l3 : Int32)  (M : pt_M) (h1 : l3 ≤ l2) :
    pt_Go YJ7_fill_53178 (5, [(0, pt_r 13 t), (1, pt_i l1), (2, pt_i l2), (3, pt_i l3)], [], M)
      (20, [(0, pt_r 13 t), (1, pt_i l1), (2, pt_i l2), (3, pt_i l3)], [], M) :=
  pt_run_ok tJ7_fill_53178_ok 3 [.inl true] (P := (l3 ≤ l2) ∧ True) (by with_unfolding_all rfl) ⟨h1, trivial⟩
theorem dJ7_fill_13 {t : Nat} {x : Int32} {M : pt_M} (ht : t < 7) : pt_Does yJ7_fill_53178 YJ7_fill_53178 [pt_r 13 t, pt_i x] M none (fi_F M 13 t 120 x) := by
  have h := pt_for0 (Y := YJ7_fill_53178) (fun i => (5, [(0, pt_r 13 t), (1, pt_i x), (2, pt_i (nI i)), (3, pt_i (nI 120))], [], fi_F M 13 t i x)) (n := 120) (fun i hi => (gJ7_fill_5317813_5_1 t x (nI i) (nI 120) _ (nI_ge hi (by decide)) (pt_in_nI hi (by decide)) ht).to (by rw [nI_1, fi_step (by omega)]))
  refine rJ7_fill_53178_20 (Nat.le_of_ble_eq_true rfl) rfl (((gJ7_fill_5317813_0_1 t x M ht).toM (fi_zero M 13 t x).symm).tr (h.tr (gJ7_fill_5317813_5_2 t x (nI 120) (nI 120) _ (Int32.le_refl _))))
def bg_F (M : pt_M) (t : Nat) (n : Int32) : pt_M := fg_F (fi_F (pt_wF M 3 0 t n) 11 t 100 0) t
theorem rX4_begin_17 {vs : List pt_V} {M M' : pt_M} {L : List (Nat × pt_V)} (hvs : (vs.map pt_w).sum ≤ 2) (hX : M'.2.2.2.2 = M.2.2.2.2) (h : pt_Go YX4_begin (0, pt_en 0 vs, [], M) (17, L, [], M')) : pt_Does yX4_begin YX4_begin vs M none M' := pt_does_go tX4_begin_ok nX4_begin hvs hX ⟨_, by with_unfolding_all rfl, rfl, rfl⟩ h
set_option maxRecDepth 100000 in
theorem gX4_begin_0_1 (t : Nat) (x1 : Int32)  (M : pt_M) (h1 : t < 7) :
    pt_Go YX4_begin (0, [(0, pt_r 3 t), (1, pt_i x1)], [], M)
      (17, [(0, pt_r 3 t), (1, pt_i x1)], [], (fg_F (fi_F (pt_wF M 3 0 t x1) 11 t 100 0) t)) :=
  pt_run_ok tX4_begin_ok 9 [.inr (2, none, (fi_F (pt_wF M 3 0 t x1) 11 t 100 0)), .inr (1, none, (fg_F (fi_F (pt_wF M 3 0 t x1) 11 t 100 0) t))] (P := (t < 7) ∧ (t < 7) ∧ pt_Cal YX4_begin (.invokestatic 32) [pt_r 11 t, pt_i 0] (pt_wF M 3 0 t x1) none (fi_F (pt_wF M 3 0 t x1) 11 t 100 0) ∧ pt_Cal YX4_begin (.invokevirtual 38) [pt_r 3 t] (fi_F (pt_wF M 3 0 t x1) 11 t 100 0) none (fg_F (fi_F (pt_wF M 3 0 t x1) 11 t 100 0) t) ∧ True) (by with_unfolding_all rfl) ⟨h1, h1, (pt_callS kX4_begin_32 mJ7_fill_53178 rfl (dJ7_fill_11 h1)), (pt_callV (i := t) kX4_begin_38 mX4_forget rfl h1 rfl (dX4_forget h1)), trivial⟩
theorem dX4_begin {t : Nat} {n : Int32} {M : pt_M} (ht : t < 7) : pt_Does yX4_begin YX4_begin [pt_r 3 t, pt_i n] M none (bg_F M t n) :=
  rX4_begin_17 (Nat.le_of_ble_eq_true rfl) rfl (gX4_begin_0_1 t n M ht)
def nb_F (b : Int32) : Int32 := if b = 0 then 1 else 0
def pu_F (M : pt_M) (t : Nat) (i j k b : Int32) : pt_M := po_F (po_F (po_F (po_F (po_F (po_F M t i j k b) t j k i b) t k i j b) t j i k (nb_F b)) t k j i (nb_F b)) t i k j (nb_F b)
theorem rX4_put_78 {vs : List pt_V} {M M' : pt_M} {L : List (Nat × pt_V)} (hvs : (vs.map pt_w).sum ≤ 5) (hX : M'.2.2.2.2 = M.2.2.2.2) (h : pt_Go YX4_put (0, pt_en 0 vs, [], M) (78, L, [], M')) : pt_Does yX4_put YX4_put vs M none M' := pt_does_go tX4_put_ok nX4_put hvs hX ⟨_, by with_unfolding_all rfl, rfl, rfl⟩ h
set_option maxRecDepth 100000 in
theorem gX4_put_0_1 (t : Nat) (x1 : Int32) (x2 : Int32) (x3 : Int32) (x4 : Int32)  (M : pt_M) (h1 : t < 7) (h2 : pt_in (ix_F x1 x2) 100) (h3 : pt_in (ix_F x2 x3) 100) (h4 : pt_in (ix_F x3 x1) 100) (h5 : x4 = 0) (h6 : pt_in (ix_F x2 x1) 100) (h7 : pt_in (ix_F x3 x2) 100) (h8 : pt_in (ix_F x1 x3) 100) :
    pt_Go YX4_put (0, [(0, pt_r 3 t), (1, pt_i x1), (2, pt_i x2), (3, pt_i x3), (4, pt_i x4)], [], M)
      (78, [(0, pt_r 3 t), (1, pt_i x1), (2, pt_i x2), (3, pt_i x3), (4, pt_i x4)], [], (po_F (po_F (po_F (po_F (po_F (po_F M t x1 x2 x3 x4) t x2 x3 x1 x4) t x3 x1 x2 x4) t x2 x1 x3 1) t x3 x2 x1 1) t x1 x3 x2 1)) :=
  pt_run_ok tX4_put_ok 45 [.inr (5, none, (po_F M t x1 x2 x3 x4)), .inr (5, none, (po_F (po_F M t x1 x2 x3 x4) t x2 x3 x1 x4)), .inr (5, none, (po_F (po_F (po_F M t x1 x2 x3 x4) t x2 x3 x1 x4) t x3 x1 x2 x4)), .inl false, .inr (5, none, (po_F (po_F (po_F (po_F M t x1 x2 x3 x4) t x2 x3 x1 x4) t x3 x1 x2 x4) t x2 x1 x3 1)), .inl false, .inr (5, none, (po_F (po_F (po_F (po_F (po_F M t x1 x2 x3 x4) t x2 x3 x1 x4) t x3 x1 x2 x4) t x2 x1 x3 1) t x3 x2 x1 1)), .inl false, .inr (5, none, (po_F (po_F (po_F (po_F (po_F (po_F M t x1 x2 x3 x4) t x2 x3 x1 x4) t x3 x1 x2 x4) t x2 x1 x3 1) t x3 x2 x1 1) t x1 x3 x2 1))] (P := pt_Cal YX4_put (.invokevirtual 45) [pt_r 3 t, pt_i x1, pt_i x2, pt_i x3, pt_i x4] M none (po_F M t x1 x2 x3 x4) ∧ pt_Cal YX4_put (.invokevirtual 45) [pt_r 3 t, pt_i x2, pt_i x3, pt_i x1, pt_i x4] (po_F M t x1 x2 x3 x4) none (po_F (po_F M t x1 x2 x3 x4) t x2 x3 x1 x4) ∧ pt_Cal YX4_put (.invokevirtual 45) [pt_r 3 t, pt_i x3, pt_i x1, pt_i x2, pt_i x4] (po_F (po_F M t x1 x2 x3 x4) t x2 x3 x1 x4) none (po_F (po_F (po_F M t x1 x2 x3 x4) t x2 x3 x1 x4) t x3 x1 x2 x4) ∧ (x4 = 0) ∧ pt_Cal YX4_put (.invokevirtual 45) [pt_r 3 t, pt_i x2, pt_i x1, pt_i x3, pt_i 1] (po_F (po_F (po_F M t x1 x2 x3 x4) t x2 x3 x1 x4) t x3 x1 x2 x4) none (po_F (po_F (po_F (po_F M t x1 x2 x3 x4) t x2 x3 x1 x4) t x3 x1 x2 x4) t x2 x1 x3 1) ∧ (x4 = 0) ∧ pt_Cal YX4_put (.invokevirtual 45) [pt_r 3 t, pt_i x3, pt_i x2, pt_i x1, pt_i 1] (po_F (po_F (po_F (po_F M t x1 x2 x3 x4) t x2 x3 x1 x4) t x3 x1 x2 x4) t x2 x1 x3 1) none (po_F (po_F (po_F (po_F (po_F M t x1 x2 x3 x4) t x2 x3 x1 x4) t x3 x1 x2 x4) t x2 x1 x3 1) t x3 x2 x1 1) ∧ (x4 = 0) ∧ pt_Cal YX4_put (.invokevirtual 45) [pt_r 3 t, pt_i x1, pt_i x3, pt_i x2, pt_i 1] (po_F (po_F (po_F (po_F (po_F M t x1 x2 x3 x4) t x2 x3 x1 x4) t x3 x1 x2 x4) t x2 x1 x3 1) t x3 x2 x1 1) none (po_F (po_F (po_F (po_F (po_F (po_F M t x1 x2 x3 x4) t x2 x3 x1 x4) t x3 x1 x2 x4) t x2 x1 x3 1) t x3 x2 x1 1) t x1 x3 x2 1) ∧ True) (by with_unfolding_all rfl) ⟨(pt_callV (i := t) kX4_put_45 mX4_putOne rfl h1 rfl (dX4_putOne h1 h2)), (pt_callV (i := t) kX4_put_45 mX4_putOne rfl h1 rfl (dX4_putOne h1 h3)), (pt_callV (i := t) kX4_put_45 mX4_putOne rfl h1 rfl (dX4_putOne h1 h4)), h5, (pt_callV (i := t) kX4_put_45 mX4_putOne rfl h1 rfl (dX4_putOne h1 h6)), h5, (pt_callV (i := t) kX4_put_45 mX4_putOne rfl h1 rfl (dX4_putOne h1 h7)), h5, (pt_callV (i := t) kX4_put_45 mX4_putOne rfl h1 rfl (dX4_putOne h1 h8)), trivial⟩
set_option maxRecDepth 100000 in
theorem gX4_put_0_2 (t : Nat) (x1 : Int32) (x2 : Int32) (x3 : Int32) (x4 : Int32)  (M : pt_M) (h1 : t < 7) (h2 : pt_in (ix_F x1 x2) 100) (h3 : pt_in (ix_F x2 x3) 100) (h4 : pt_in (ix_F x3 x1) 100) (h5 : ¬ x4 = 0) (h6 : pt_in (ix_F x2 x1) 100) (h7 : pt_in (ix_F x3 x2) 100) (h8 : pt_in (ix_F x1 x3) 100) :
    pt_Go YX4_put (0, [(0, pt_r 3 t), (1, pt_i x1), (2, pt_i x2), (3, pt_i x3), (4, pt_i x4)], [], M)
      (78, [(0, pt_r 3 t), (1, pt_i x1), (2, pt_i x2), (3, pt_i x3), (4, pt_i x4)], [], (po_F (po_F (po_F (po_F (po_F (po_F M t x1 x2 x3 x4) t x2 x3 x1 x4) t x3 x1 x2 x4) t x2 x1 x3 0) t x3 x2 x1 0) t x1 x3 x2 0)) :=
  pt_run_ok tX4_put_ok 42 [.inr (5, none, (po_F M t x1 x2 x3 x4)), .inr (5, none, (po_F (po_F M t x1 x2 x3 x4) t x2 x3 x1 x4)), .inr (5, none, (po_F (po_F (po_F M t x1 x2 x3 x4) t x2 x3 x1 x4) t x3 x1 x2 x4)), .inl true, .inr (5, none, (po_F (po_F (po_F (po_F M t x1 x2 x3 x4) t x2 x3 x1 x4) t x3 x1 x2 x4) t x2 x1 x3 0)), .inl true, .inr (5, none, (po_F (po_F (po_F (po_F (po_F M t x1 x2 x3 x4) t x2 x3 x1 x4) t x3 x1 x2 x4) t x2 x1 x3 0) t x3 x2 x1 0)), .inl true, .inr (5, none, (po_F (po_F (po_F (po_F (po_F (po_F M t x1 x2 x3 x4) t x2 x3 x1 x4) t x3 x1 x2 x4) t x2 x1 x3 0) t x3 x2 x1 0) t x1 x3 x2 0))] (P := pt_Cal YX4_put (.invokevirtual 45) [pt_r 3 t, pt_i x1, pt_i x2, pt_i x3, pt_i x4] M none (po_F M t x1 x2 x3 x4) ∧ pt_Cal YX4_put (.invokevirtual 45) [pt_r 3 t, pt_i x2, pt_i x3, pt_i x1, pt_i x4] (po_F M t x1 x2 x3 x4) none (po_F (po_F M t x1 x2 x3 x4) t x2 x3 x1 x4) ∧ pt_Cal YX4_put (.invokevirtual 45) [pt_r 3 t, pt_i x3, pt_i x1, pt_i x2, pt_i x4] (po_F (po_F M t x1 x2 x3 x4) t x2 x3 x1 x4) none (po_F (po_F (po_F M t x1 x2 x3 x4) t x2 x3 x1 x4) t x3 x1 x2 x4) ∧ (¬ x4 = 0) ∧ pt_Cal YX4_put (.invokevirtual 45) [pt_r 3 t, pt_i x2, pt_i x1, pt_i x3, pt_i 0] (po_F (po_F (po_F M t x1 x2 x3 x4) t x2 x3 x1 x4) t x3 x1 x2 x4) none (po_F (po_F (po_F (po_F M t x1 x2 x3 x4) t x2 x3 x1 x4) t x3 x1 x2 x4) t x2 x1 x3 0) ∧ (¬ x4 = 0) ∧ pt_Cal YX4_put (.invokevirtual 45) [pt_r 3 t, pt_i x3, pt_i x2, pt_i x1, pt_i 0] (po_F (po_F (po_F (po_F M t x1 x2 x3 x4) t x2 x3 x1 x4) t x3 x1 x2 x4) t x2 x1 x3 0) none (po_F (po_F (po_F (po_F (po_F M t x1 x2 x3 x4) t x2 x3 x1 x4) t x3 x1 x2 x4) t x2 x1 x3 0) t x3 x2 x1 0) ∧ (¬ x4 = 0) ∧ pt_Cal YX4_put (.invokevirtual 45) [pt_r 3 t, pt_i x1, pt_i x3, pt_i x2, pt_i 0] (po_F (po_F (po_F (po_F (po_F M t x1 x2 x3 x4) t x2 x3 x1 x4) t x3 x1 x2 x4) t x2 x1 x3 0) t x3 x2 x1 0) none (po_F (po_F (po_F (po_F (po_F (po_F M t x1 x2 x3 x4) t x2 x3 x1 x4) t x3 x1 x2 x4) t x2 x1 x3 0) t x3 x2 x1 0) t x1 x3 x2 0) ∧ True) (by with_unfolding_all rfl) ⟨(pt_callV (i := t) kX4_put_45 mX4_putOne rfl h1 rfl (dX4_putOne h1 h2)), (pt_callV (i := t) kX4_put_45 mX4_putOne rfl h1 rfl (dX4_putOne h1 h3)), (pt_callV (i := t) kX4_put_45 mX4_putOne rfl h1 rfl (dX4_putOne h1 h4)), h5, (pt_callV (i := t) kX4_put_45 mX4_putOne rfl h1 rfl (dX4_putOne h1 h6)), h5, (pt_callV (i := t) kX4_put_45 mX4_putOne rfl h1 rfl (dX4_putOne h1 h7)), h5, (pt_callV (i := t) kX4_put_45 mX4_putOne rfl h1 rfl (dX4_putOne h1 h8)), trivial⟩
theorem dX4_put {t : Nat} {i j k b : Int32} {M : pt_M} (ht : t < 7) (h1 : pt_in (ix_F i j) 100) (h2 : pt_in (ix_F j k) 100) (h3 : pt_in (ix_F k i) 100) (h4 : pt_in (ix_F j i) 100) (h5 : pt_in (ix_F k j) 100) (h6 : pt_in (ix_F i k) 100) : pt_Does yX4_put YX4_put [pt_r 3 t, pt_i i, pt_i j, pt_i k, pt_i b] M none (pu_F M t i j k b) := by
  by_cases hb : b = 0
  · refine rX4_put_78 (Nat.le_of_ble_eq_true rfl) rfl ((gX4_put_0_1 t i j k b M ht h1 h2 h3 hb h4 h5 h6).toM ?_)
    unfold pu_F nb_F
    rw [if_pos hb]
  · refine rX4_put_78 (Nat.le_of_ble_eq_true rfl) rfl ((gX4_put_0_2 t i j k b M ht h1 h2 h3 hb h4 h5 h6).toM ?_)
    unfold pu_F nb_F
    rw [if_neg hb]
/-! what they do to the rows of bits -/
theorem ix_nI (i j : Nat) : ix_F (nI i) (nI j) = nI (10 * i + j) := by
  unfold ix_F
  rw [show (10 : Int32) = nI 10 from rfl, pk_mul, nI_add, Nat.mul_comm]
theorem ix_in {i j : Nat} (hi : i < 10) (hj : j < 10) : pt_in (ix_F (nI i) (nI j)) 100 := by
  rw [ix_nI]
  exact pt_in_nI (by omega) (by decide)
def tc_F (B : Nat → Nat → Nat → Bool) (f : Nat → Int32) : Nat → Int32 := fun p => if p < 100 then nI (pb_s 10 fun k => B (p / 10) (p % 10) k) else f p
/-- the table's rows are those of B -/
def tw_F (M : pt_M) (t : Nat) (B : Nat → Nat → Nat → Bool) : pt_M := pt_wA M 11 t (tc_F B (pt_A M 11 t))
theorem pb_zero : pb_s 10 (fun _ => false) = 0 := by decide
theorem tw_zero (M : pt_M) (t : Nat) : fi_F M 11 t 100 0 = tw_F M t fun _ _ _ => false := by
  unfold fi_F tw_F tc_F
  simp only [pb_zero]
  rfl
theorem pb_or1 {p : Nat → Bool} {k : Nat} (hk : k < 10) : nI (pb_s 10 p) ||| ((1 : Int32) <<< (nI k &&& 31)) = nI (pb_s 10 fun c => if c = k then true else p c) := by
  rw [pt_shl1 k (by omega), pt_or]
  congr 1
  have h1 := pb_lt p 10
  have h2 : 2 ^ k < 2 ^ 10 := Nat.pow_lt_pow_right (by decide) hk
  apply pb_ext (n := 10) (Nat.or_lt_two_pow h1 h2) (pb_lt _ _)
  intro c hc
  rw [Nat.testBit_or, pb_bit, pb_bit, Nat.testBit_two_pow]
  by_cases h : c = k
  · subst h
    simp [hc]
  · have : ¬ k = c := fun z => h z.symm
    simp [hc, h, this]
theorem pb_and1 {p : Nat → Bool} {k : Nat} (hk : k < 10) : nI (pb_s 10 p) &&& (((1 : Int32) <<< (nI k &&& 31)) ^^^ (-1)) = nI (pb_s 10 fun c => if c = k then false else p c) := by
  rw [pt_shl1 k (by omega), show (-1 : Int32) = nI (2 ^ 32 - 1) from rfl, pt_xor, pt_and]
  congr 1
  have h1 := pb_lt p 10
  apply pb_ext (n := 10) (Nat.lt_of_le_of_lt Nat.and_le_left h1) (pb_lt _ _)
  intro c hc
  have hc2 : c < 32 := by omega
  rw [Nat.testBit_and, Nat.testBit_xor, pb_bit, pb_bit, Nat.testBit_two_pow, Nat.testBit_two_pow_sub_one]
  by_cases h : c = k
  · subst h
    simp [hc2]
  · have : ¬ k = c := fun z => h z.symm
    simp [hc, h, this, hc2]
theorem po_tw {M : pt_M} {t i j k : Nat} {B : Nat → Nat → Nat → Bool} (b : Bool) (hi : i < 10) (hj : j < 10) (hk : k < 10) : po_F (tw_F M t B) t (nI i) (nI j) (nI k) (pt_b b) = tw_F M t fun a c d => if a = i ∧ c = j ∧ d = k then b else B a c d := by
  have hix : (nI i * 10) + nI j = nI (10 * i + j) := ix_nI i j
  unfold po_F tw_F
  rw [pt_wA_wA, pt_A_wA, hix, pt_nt_nI (by omega)]
  congr 1
  have hA : tc_F B (pt_A M 11 t) (10 * i + j) = nI (pb_s 10 fun d => B i j d) := by
    unfold tc_F
    rw [if_pos (by omega), show (10 * i + j) / 10 = i by omega, show (10 * i + j) % 10 = j by omega]
  have hR : tc_F (fun a c d => if a = i ∧ c = j ∧ d = k then b else B a c d) (pt_A M 11 t) (10 * i + j) = nI (pb_s 10 fun d => if d = k then b else B i j d) := by
    unfold tc_F
    rw [if_pos (by omega), show (10 * i + j) / 10 = i by omega, show (10 * i + j) % 10 = j by omega]
    congr 1
    apply pb_cong
    intro c _
    simp
  rw [hA]
  funext p
  unfold upd
  by_cases hp : p = 10 * i + j
  · subst hp
    rw [if_pos rfl, hR]
    cases b
    · rw [if_pos (show pt_b false = 0 from rfl), pb_and1 hk]
    · rw [if_neg (show ¬ pt_b true = 0 by decide), pb_or1 hk]
  · rw [if_neg hp]
    unfold tc_F
    by_cases hp1 : p < 100
    · rw [if_pos hp1, if_pos hp1]
      congr 1
      apply pb_cong
      intro c _
      have : ¬ (p / 10 = i ∧ p % 10 = j ∧ c = k) := by omega
      simp only [if_neg this]
    · rw [if_neg hp1, if_neg hp1]
def pb_pu (B : Nat → Nat → Nat → Bool) (i j k : Nat) (b : Bool) : Nat → Nat → Nat → Bool := fun a c d =>
  if a = i ∧ c = k ∧ d = j then !b else if a = k ∧ c = j ∧ d = i then !b else if a = j ∧ c = i ∧ d = k then !b else if a = k ∧ c = i ∧ d = j then b else if a = j ∧ c = k ∧ d = i then b else if a = i ∧ c = j ∧ d = k then b else B a c d
theorem nb_b (b : Bool) : nb_F (pt_b b) = pt_b (!b) := by cases b <;> rfl
theorem pu_tw {M : pt_M} {t i j k : Nat} {B : Nat → Nat → Nat → Bool} (b : Bool) (hi : i < 10) (hj : j < 10) (hk : k < 10) : pu_F (tw_F M t B) t (nI i) (nI j) (nI k) (pt_b b) = tw_F M t (pb_pu B i j k b) := by
  unfold pu_F
  rw [nb_b, po_tw b hi hj hk, po_tw b hj hk hi, po_tw b hk hi hj, po_tw (!b) hj hi hk, po_tw (!b) hk hj hi, po_tw (!b) hi hk hj]
  rfl
/-! the threes in their order -/
def pb_z (P : Nat → Nat → Nat → Bool) (a c d : Nat) : Bool := if a < c then (if c < d then P a c d else if a < d then (if d < c then P a d c else false) else if d < a then P d a c else false)
  else if c < a then (if a < d then P c a d else if c < d then (if d < a then P c d a else false) else if d < c then P d c a else false) else false
theorem pb_z_cong {P Q : Nat → Nat → Nat → Bool} (h : ∀ x y z, x < y → y < z → P x y z = Q x y z) (a c d : Nat) : pb_z P a c d = pb_z Q a c d := by
  unfold pb_z
  split
  · split
    · exact h _ _ _ (by assumption) (by assumption)
    · split
      · split
        · exact h _ _ _ (by assumption) (by assumption)
        · rfl
      · split
        · exact h _ _ _ (by assumption) (by assumption)
        · rfl
  · split
    · split
      · exact h _ _ _ (by assumption) (by assumption)
      · split
        · split
          · exact h _ _ _ (by assumption) (by assumption)
          · rfl
        · split
          · exact h _ _ _ (by assumption) (by assumption)
          · rfl
    · rfl
theorem pb_z_ne {P : Nat → Nat → Nat → Bool} {a c d : Nat} (h : ¬ (a ≠ c ∧ c ≠ d ∧ a ≠ d)) : pb_z P a c d = false := by
  unfold pb_z
  repeat' split
  all_goals first | rfl | (exfalso; omega)
def pb_q (P s : Nat → Nat → Nat → Bool) : Nat → Nat → Nat → Bool := fun a c d => pb_z P a c d && pb_x s a c d
theorem pb_q_cong {P Q : Nat → Nat → Nat → Bool} (s : Nat → Nat → Nat → Bool) (h : ∀ x y z, x < y → y < z → P x y z = Q x y z) : pb_q P s = pb_q Q s := by
  funext a c d
  unfold pb_q
  rw [pb_z_cong h]
/-- which threes are done when (i, j, k) is next -/
def pb_d (n i j k x y z : Nat) : Bool := decide (z < n) && decide (x < i ∨ (x = i ∧ (y < j ∨ (y = j ∧ z < k))))
theorem pb_d_k {n i j k : Nat} (hk : k < n) (s : Nat → Nat → Nat → Bool) (h1 : i < j) (h2 : j < k) : pb_pu (pb_q (pb_d n i j k) s) i j k (s i j k) = pb_q (pb_d n i j (k + 1)) s := by
  have e : pb_q (pb_d n i j (k + 1)) s = pb_q (fun x y z => decide (x = i ∧ y = j ∧ z = k) || pb_d n i j k x y z) s := by
    apply pb_q_cong
    intro x y z _ _
    unfold pb_d
    rw [Bool.eq_iff_iff]
    simp only [Bool.or_eq_true, Bool.and_eq_true, decide_eq_true_eq]
    omega
  rw [e]
  generalize pb_d n i j k = P
  funext a c d
  by_cases hd : a ≠ c ∧ c ≠ d ∧ a ≠ d
  case neg =>
    have e1 : ¬ (a = i ∧ c = k ∧ d = j) := by omega
    have e2 : ¬ (a = k ∧ c = j ∧ d = i) := by omega
    have e3 : ¬ (a = j ∧ c = i ∧ d = k) := by omega
    have e4 : ¬ (a = k ∧ c = i ∧ d = j) := by omega
    have e5 : ¬ (a = j ∧ c = k ∧ d = i) := by omega
    have e6 : ¬ (a = i ∧ c = j ∧ d = k) := by omega
    unfold pb_pu pb_q
    rw [if_neg e1, if_neg e2, if_neg e3, if_neg e4, if_neg e5, if_neg e6, pb_z_ne hd, pb_z_ne hd]
  obtain ⟨d1, d2, d3⟩ := hd
  unfold pb_pu pb_q pb_z pb_x
  rcases Nat.lt_or_gt_of_ne d1 with q1 | q1 <;> rcases Nat.lt_or_gt_of_ne d2 with q2 | q2 <;> rcases Nat.lt_or_gt_of_ne d3 with q3 | q3 <;> first | (exfalso; omega) | skip
  all_goals simp only [q1, q2, q3, Nat.lt_asymm q1, Nat.lt_asymm q2, Nat.lt_asymm q3, if_true, if_false]
  all_goals repeat' split
  all_goals first
    | (exfalso; omega)
    | (rename_i h; obtain ⟨rfl, rfl, rfl⟩ := h; simp; done)
    | (rw [decide_eq_false (by omega)]; simp; done)
    | (simp; done)
    | skip
theorem pb_d_j {n i j : Nat} (s : Nat → Nat → Nat → Bool) : pb_q (pb_d n i j n) s = pb_q (pb_d n i (j + 1) (j + 2)) s := by
  apply pb_q_cong
  intro x y z h1 h2
  unfold pb_d
  rw [Bool.eq_iff_iff]
  simp only [Bool.and_eq_true, decide_eq_true_eq]
  omega
theorem pb_d_i {n i j k : Nat} (h : n ≤ j) (s : Nat → Nat → Nat → Bool) : pb_q (pb_d n i j k) s = pb_q (pb_d n (i + 1) (i + 2) (i + 3)) s := by
  apply pb_q_cong
  intro x y z h1 h2
  unfold pb_d
  rw [Bool.eq_iff_iff]
  simp only [Bool.and_eq_true, decide_eq_true_eq]
  omega
theorem pb_d_0 {n : Nat} (s : Nat → Nat → Nat → Bool) : pb_q (pb_d n 0 1 2) s = fun _ _ _ => false := by
  have : pb_q (pb_d n 0 1 2) s = pb_q (fun _ _ _ => false) s := by
    apply pb_q_cong
    intro x y z h1 h2
    unfold pb_d
    rw [Bool.and_eq_false_iff]
    right
    rw [decide_eq_false_iff_not]
    omega
  rw [this]
  funext a c d
  unfold pb_q pb_z
  repeat' split
  all_goals rfl
theorem pb_z_g {n : Nat} (a c d : Nat) : pb_z (fun _ _ z => decide (z < n)) a c d = pb_g n a c d := by
  by_cases hd : a ≠ c ∧ c ≠ d ∧ a ≠ d
  case neg =>
    rw [pb_z_ne hd]
    symm
    rw [Bool.eq_false_iff]
    intro h
    rw [pb_g_iff] at h
    omega
  obtain ⟨d1, d2, d3⟩ := hd
  rw [Bool.eq_iff_iff, pb_g_iff]
  unfold pb_z
  rcases Nat.lt_or_gt_of_ne d1 with q1 | q1 <;> rcases Nat.lt_or_gt_of_ne d2 with q2 | q2 <;> rcases Nat.lt_or_gt_of_ne d3 with q3 | q3 <;> first | (exfalso; omega) | skip
  all_goals simp only [q1, q2, q3, Nat.lt_asymm q1, Nat.lt_asymm q2, Nat.lt_asymm q3, if_true, if_false, decide_eq_true_eq]
  all_goals omega
theorem pb_d_n {n j k : Nat} (s : Nat → Nat → Nat → Bool) : pb_q (pb_d n n j k) s = fun a c d => pb_g n a c d && pb_x s a c d := by
  have : pb_q (pb_d n n j k) s = pb_q (fun _ _ z => decide (z < n)) s := by
    apply pb_q_cong
    intro x y z h1 h2
    unfold pb_d
    rw [Bool.eq_iff_iff]
    simp only [Bool.and_eq_true, decide_eq_true_eq]
    omega
  rw [this]
  funext a c d
  unfold pb_q
  rw [pb_z_g]
/-- three loops, one in the other -/
theorem pt_three {Y : pt_Y} {n : Nat} (A : Nat → pt_S) (B : Nat → Nat → pt_S) (C : Nat → Nat → Nat → pt_S) (hA : ∀ i, i < n → pt_Go Y (A i) (B i (i + 1))) (hB : ∀ i j, i < j → j < n → pt_Go Y (B i j) (C i j (j + 1))) (hB' : ∀ i, i < n → pt_Go Y (B i n) (A (i + 1)))
    (hC : ∀ i j k, i < j → j < k → k < n → pt_Go Y (C i j k) (C i j (k + 1))) (hC' : ∀ i j, i < j → j < n → pt_Go Y (C i j n) (B i (j + 1))) : pt_Go Y (A 0) (A n) := by
  refine pt_for0 A fun i hi => (hA i hi).tr ((pt_fori (B i) (i := i + 1) (n := n) (by omega) fun j h1 h2 => ?_).tr (hB' i hi))
  exact (hB i j (by omega) h2).tr ((pt_fori (C i j) (i := j + 1) (n := n) (by omega) fun k h3 h4 => hC i j k (by omega) (by omega) h4).tr (hC' i j (by omega) h2))
theorem pt_all {N : Nat} {p : Nat → Bool} (h : (List.range N).all p = true) {i : Nat} (hi : i < N) : p i = true := List.all_eq_true.mp h i (List.mem_range.mpr hi)
/-- the number of threes ahead of a three -/
def rk_c (n i : Nat) : Nat → Nat
  | 0 => 0
  | b + 1 => rk_c n i b + if i < b then n - 1 - b else 0
def rk_0 (n : Nat) : Nat → Nat
  | 0 => 0
  | a + 1 => rk_0 n a + rk_c n a n
def rk_F (n i j k : Nat) : Nat := rk_0 n i + rk_c n i j + (k - j - 1)
theorem rk_k {n i j k : Nat} (h : j < k) : rk_F n i j (k + 1) = rk_F n i j k + 1 := by
  unfold rk_F
  omega
theorem rk_j {n i j : Nat} (h : i < j) (hj : j < n) : rk_F n i (j + 1) (j + 2) = rk_F n i j n := by
  unfold rk_F
  show rk_0 n i + (rk_c n i j + if i < j then n - 1 - j else 0) + _ = _
  rw [if_pos h]
  omega
theorem rk_i0 (n i : Nat) : ∀ b, b ≤ i + 1 → rk_c n i b = 0
  | 0, _ => rfl
  | b + 1, h => by
    show rk_c n i b + (if i < b then n - 1 - b else 0) = 0
    rw [rk_i0 n i b (by omega), if_neg (by omega)]
theorem rk_i {n i : Nat} (k : Nat) (hk : k ≤ n + 1) : rk_F n (i + 1) (i + 2) (i + 3) = rk_F n i n k := by
  unfold rk_F
  rw [rk_i0 n (i + 1) (i + 2) (by omega)]
  show rk_0 n i + rk_c n i n + 0 + _ = _
  omega
theorem rk_lt : ∀ n, n ≤ 10 → ∀ i, i < n → ∀ j, j < n → ∀ k, k < n → i < j → j < k → rk_F n i j k < rk_0 n n ∧ rk_0 n n ≤ 120 := by
  have h : ((List.range 11).all fun n => (List.range n).all fun i => (List.range n).all fun j => (List.range n).all fun k => !(decide (i < j) && decide (j < k)) || (decide (rk_F n i j k < rk_0 n n) && decide (rk_0 n n ≤ 120))) = true := by decide +kernel
  intro n hn i hi j hj k hk h1 h2
  have h3 := pt_all (pt_all (pt_all (pt_all h (i := n) (by omega)) hi) hj) hk
  simpa [h1, h2] using h3
end
section
/-! Table.takeRow, takeTurns -/
def hd_F (M : pt_M) (t : Nat) (n : Int32) : pt_M := fg_F (pt_wF M 3 0 t n) t
theorem bg_tw (M : pt_M) (t : Nat) (n : Int32) : bg_F M t n = tw_F (hd_F M t n) t fun _ _ _ => false := by
  unfold bg_F
  rw [tw_zero]
  rfl
theorem tw_A {M : pt_M} {t k i : Nat} {n : Int32} {B : Nat → Nat → Nat → Bool} (h : k ≠ 11) : pt_A (tw_F (hd_F M t n) t B) k i = pt_A M k i := if_neg fun z => h z.1
/-- THE TABLE t IS MADE: n points, the rising threes s -/
def mt_F (M : pt_M) (t n : Nat) (s : Nat → Nat → Nat → Bool) : pt_M := tw_F (hd_F M t (nI n)) t fun a c d => pb_g n a c d && pb_x s a c d
def pu_P (i j k : Int32) : Prop := pt_in (ix_F i j) 100 ∧ pt_in (ix_F j k) 100 ∧ pt_in (ix_F k i) 100 ∧ pt_in (ix_F j i) 100 ∧ pt_in (ix_F k j) 100 ∧ pt_in (ix_F i k) 100
theorem pu_nI {i j k : Nat} (hi : i < 10) (hj : j < 10) (hk : k < 10) : pu_P (nI i) (nI j) (nI k) := ⟨ix_in hi hj, ix_in hj hk, ix_in hk hi, ix_in hj hi, ix_in hk hj, ix_in hi hk⟩
theorem dX4_putP {t : Nat} {i j k b : Int32} {M : pt_M} (ht : t < 7) (h : pu_P i j k) : pt_Does yX4_put YX4_put [pt_r 3 t, pt_i i, pt_i j, pt_i k, pt_i b] M none (pu_F M t i j k b) := dX4_put ht h.1 h.2.1 h.2.2.1 h.2.2.2.1 h.2.2.2.2.1 h.2.2.2.2.2
theorem tw_U {M : pt_M} {t u : Nat} {n : Int32} {B : Nat → Nat → Nat → Bool} (h : u ≠ t) : pt_A (tw_F (hd_F M t n) t B) 11 u = pt_A M 11 u := if_neg fun z => h z.2
theorem lo_B {M : pt_M} {u a c : Nat} {B : Nat → Nat → Nat → Bool} (hB : ct_B M u B) (ha : a < 10) (hc : c < 10) : lo_F M u (nI a) (nI c) = nI (pb_s 10 fun k => B a c k) := by
  have hix : (nI a * 10) + nI c = nI (10 * a + c) := ix_nI a c
  unfold lo_F
  rw [hix, pt_nt_nI (by omega)]
  exact hB a c ha hc
theorem lf_B {M : pt_M} {u a c d : Nat} {B : Nat → Nat → Nat → Bool} (hB : ct_B M u B) (ha : a < 10) (hc : c < 10) (hd : d < 10) : lf_P M u (nI a) (nI c) (nI d) ↔ B a c d = true := by
  have h := lo_B hB ha hc
  unfold lo_F at h
  unfold lf_P
  rw [h, pt_bit1 (Nat.lt_trans (pb_lt _ 10) (by decide)) (by omega), pb_bit]
  simp [hd]
theorem rX4_takeRow_89 {vs : List pt_V} {M M' : pt_M} {L : List (Nat × pt_V)} (hvs : (vs.map pt_w).sum ≤ 7) (hX : M'.2.2.2.2 = M.2.2.2.2) (h : pt_Go YX4_takeRow (0, pt_en 0 vs, [], M) (89, L, [], M')) : pt_Does yX4_takeRow YX4_takeRow vs M none M' := pt_does_go tX4_takeRow_ok nX4_takeRow hvs hX ⟨_, by with_unfolding_all rfl, rfl, rfl⟩ h
set_option maxRecDepth 100000 in
theorem gX4_takeRow24_0_1 (t : Nat) (n : Int32)  (M : pt_M) (h1 : t < 7) :
    pt_Go YX4_takeRow (0, [(0, pt_r 3 t), (1, pt_i n), (2, pt_r 24 0)], [], M)
      (10, [(0, pt_r 3 t), (1, pt_i n), (2, pt_r 24 0), (3, pt_i 0), (4, pt_i 0)], [], (bg_F M t n)) :=
  pt_run_ok tX4_takeRow_ok 7 [.inr (2, none, (bg_F M t n))] (P := pt_Cal YX4_takeRow (.invokevirtual 49) [pt_r 3 t, pt_i n] M none (bg_F M t n) ∧ True) (by with_unfolding_all rfl) ⟨(pt_callV (i := t) kX4_takeRow_49 mX4_begin rfl h1 rfl (dX4_begin h1)), trivial⟩
set_option maxRecDepth 100000 in
theorem gX4_takeRow24_10_1 (t : Nat) (l1 : Int32) (l3 : Int32) (l4 : Int32)  (M : pt_M) (h1 : ¬ l1 ≤ l4) :
    pt_Go YX4_takeRow (10, [(0, pt_r 3 t), (1, pt_i l1), (2, pt_r 24 0), (3, pt_i l3), (4, pt_i l4)], [], M)
      (22, [(0, pt_r 3 t), (1, pt_i l1), (2, pt_r 24 0), (3, pt_i l3), (4, pt_i l4), (5, pt_i (l4 + 1))], [], M) :=
  pt_run_ok tX4_takeRow_ok 7 [.inl false] (P := (¬ l1 ≤ l4) ∧ True) (by with_unfolding_all rfl) ⟨h1, trivial⟩
set_option maxRecDepth 100000 in
theorem gX4_takeRow24_10_2 (t : Nat) (l1 : Int32) (l3 : Int32) (l4 : Int32)  (M : pt_M) (h1 : l1 ≤ l4) :
    pt_Go YX4_takeRow (10, [(0, pt_r 3 t), (1, pt_i l1), (2, pt_r 24 0), (3, pt_i l3), (4, pt_i l4)], [], M)
      (89, [(0, pt_r 3 t), (1, pt_i l1), (2, pt_r 24 0), (3, pt_i l3), (4, pt_i l4)], [], M) :=
  pt_run_ok tX4_takeRow_ok 3 [.inl true] (P := (l1 ≤ l4) ∧ True) (by with_unfolding_all rfl) ⟨h1, trivial⟩
set_option maxRecDepth 100000 in
theorem gX4_takeRow24_22_1 (t : Nat) (l1 : Int32) (l3 : Int32) (l4 : Int32) (l5 : Int32)  (M : pt_M) (h1 : ¬ l1 ≤ l5) :
    pt_Go YX4_takeRow (22, [(0, pt_r 3 t), (1, pt_i l1), (2, pt_r 24 0), (3, pt_i l3), (4, pt_i l4), (5, pt_i l5)], [], M)
      (34, [(0, pt_r 3 t), (1, pt_i l1), (2, pt_r 24 0), (3, pt_i l3), (4, pt_i l4), (5, pt_i l5), (6, pt_i (l5 + 1))], [], M) :=
  pt_run_ok tX4_takeRow_ok 7 [.inl false] (P := (¬ l1 ≤ l5) ∧ True) (by with_unfolding_all rfl) ⟨h1, trivial⟩
set_option maxRecDepth 100000 in
theorem gX4_takeRow24_22_2 (t : Nat) (l1 : Int32) (l3 : Int32) (l4 : Int32) (l5 : Int32)  (M : pt_M) (h1 : l1 ≤ l5) :
    pt_Go YX4_takeRow (22, [(0, pt_r 3 t), (1, pt_i l1), (2, pt_r 24 0), (3, pt_i l3), (4, pt_i l4), (5, pt_i l5)], [], M)
      (10, [(0, pt_r 3 t), (1, pt_i l1), (2, pt_r 24 0), (3, pt_i l3), (4, pt_i (l4 + 1))], [], M) :=
  (pt_run_ok tX4_takeRow_ok 5 [.inl true] (P := (l1 ≤ l5) ∧ True) (by with_unfolding_all rfl) ⟨h1, trivial⟩ : pt_Go YX4_takeRow _ (10, [(0, pt_r 3 t), (1, pt_i l1), (2, pt_r 24 0), (3, pt_i l3), (4, pt_i (l4 + 1)), (5, pt_i l5)], [], M)).tr (pt_pick [0, 1, 2, 3, 4] (by with_unfolding_all rfl))
set_option maxRecDepth 100000 in
theorem gX4_takeRow24_34_1 (t : Nat) (l1 : Int32) (l3 : Int32) (l4 : Int32) (l5 : Int32) (l6 : Int32)  (M : pt_M) (h1 : ¬ l1 ≤ l6) (h2 : ¬ (nI 120) ≤ l3) (h3 : pt_in l3 120) (h4 : (pt_A M 24 0 (pt_nt l3)) = 1) (h5 : t < 7) (h6 : pu_P l4 l5 l6) :
    pt_Go YX4_takeRow (34, [(0, pt_r 3 t), (1, pt_i l1), (2, pt_r 24 0), (3, pt_i l3), (4, pt_i l4), (5, pt_i l5), (6, pt_i l6)], [], M)
      (34, [(0, pt_r 3 t), (1, pt_i l1), (2, pt_r 24 0), (3, pt_i (l3 + 1)), (4, pt_i l4), (5, pt_i l5), (6, pt_i (l6 + 1))], [], (pu_F M t l4 l5 l6 1)) :=
  pt_run_ok tX4_takeRow_ok 22 [.inl false, .inl false, .inl false, .inr (5, none, (pu_F M t l4 l5 l6 1))] (P := (¬ l1 ≤ l6) ∧ (¬ (nI 120) ≤ l3) ∧ (pt_in l3 120) ∧ ((pt_A M 24 0 (pt_nt l3)) = 1) ∧ pt_Cal YX4_takeRow (.invokevirtual 53) [pt_r 3 t, pt_i l4, pt_i l5, pt_i l6, pt_i 1] M none (pu_F M t l4 l5 l6 1) ∧ True) (by with_unfolding_all rfl) ⟨h1, h2, h3, h4, (pt_callV (i := t) kX4_takeRow_53 mX4_put rfl h5 rfl (dX4_putP h5 h6)), trivial⟩
set_option maxRecDepth 100000 in
theorem gX4_takeRow24_34_2 (t : Nat) (l1 : Int32) (l3 : Int32) (l4 : Int32) (l5 : Int32) (l6 : Int32)  (M : pt_M) (h1 : ¬ l1 ≤ l6) (h2 : ¬ (nI 120) ≤ l3) (h3 : pt_in l3 120) (h4 : ¬ (pt_A M 24 0 (pt_nt l3)) = 1) (h5 : t < 7) (h6 : pu_P l4 l5 l6) :
    pt_Go YX4_takeRow (34, [(0, pt_r 3 t), (1, pt_i l1), (2, pt_r 24 0), (3, pt_i l3), (4, pt_i l4), (5, pt_i l5), (6, pt_i l6)], [], M)
      (34, [(0, pt_r 3 t), (1, pt_i l1), (2, pt_r 24 0), (3, pt_i (l3 + 1)), (4, pt_i l4), (5, pt_i l5), (6, pt_i (l6 + 1))], [], (pu_F M t l4 l5 l6 0)) :=
  pt_run_ok tX4_takeRow_ok 21 [.inl false, .inl false, .inl true, .inr (5, none, (pu_F M t l4 l5 l6 0))] (P := (¬ l1 ≤ l6) ∧ (¬ (nI 120) ≤ l3) ∧ (pt_in l3 120) ∧ (¬ (pt_A M 24 0 (pt_nt l3)) = 1) ∧ pt_Cal YX4_takeRow (.invokevirtual 53) [pt_r 3 t, pt_i l4, pt_i l5, pt_i l6, pt_i 0] M none (pu_F M t l4 l5 l6 0) ∧ True) (by with_unfolding_all rfl) ⟨h1, h2, h3, h4, (pt_callV (i := t) kX4_takeRow_53 mX4_put rfl h5 rfl (dX4_putP h5 h6)), trivial⟩
set_option maxRecDepth 100000 in
theorem gX4_takeRow24_34_3 (t : Nat) (l1 : Int32) (l3 : Int32) (l4 : Int32) (l5 : Int32) (l6 : Int32)  (M : pt_M) (h1 : ¬ l1 ≤ l6) (h2 : (nI 120) ≤ l3) :
    pt_Go YX4_takeRow (34, [(0, pt_r 3 t), (1, pt_i l1), (2, pt_r 24 0), (3, pt_i l3), (4, pt_i l4), (5, pt_i l5), (6, pt_i l6)], [], M)
      (22, [(0, pt_r 3 t), (1, pt_i l1), (2, pt_r 24 0), (3, pt_i l3), (4, pt_i l4), (5, pt_i (l5 + 1))], [], M) :=
  (pt_run_ok tX4_takeRow_ok 9 [.inl false, .inl true] (P := (¬ l1 ≤ l6) ∧ ((nI 120) ≤ l3) ∧ True) (by with_unfolding_all rfl) ⟨h1, h2, trivial⟩ : pt_Go YX4_takeRow _ (22, [(0, pt_r 3 t), (1, pt_i l1), (2, pt_r 24 0), (3, pt_i l3), (4, pt_i l4), (5, pt_i (l5 + 1)), (6, pt_i l6)], [], M)).tr (pt_pick [0, 1, 2, 3, 4, 5] (by with_unfolding_all rfl))
set_option maxRecDepth 100000 in
theorem gX4_takeRow24_34_4 (t : Nat) (l1 : Int32) (l3 : Int32) (l4 : Int32) (l5 : Int32) (l6 : Int32)  (M : pt_M) (h1 : l1 ≤ l6) :
    pt_Go YX4_takeRow (34, [(0, pt_r 3 t), (1, pt_i l1), (2, pt_r 24 0), (3, pt_i l3), (4, pt_i l4), (5, pt_i l5), (6, pt_i l6)], [], M)
      (22, [(0, pt_r 3 t), (1, pt_i l1), (2, pt_r 24 0), (3, pt_i l3), (4, pt_i l4), (5, pt_i (l5 + 1))], [], M) :=
  (pt_run_ok tX4_takeRow_ok 5 [.inl true] (P := (l1 ≤ l6) ∧ True) (by with_unfolding_all rfl) ⟨h1, trivial⟩ : pt_Go YX4_takeRow _ (22, [(0, pt_r 3 t), (1, pt_i l1), (2, pt_r 24 0), (3, pt_i l3), (4, pt_i l4), (5, pt_i (l5 + 1)), (6, pt_i l6)], [], M)).tr (pt_pick [0, 1, 2, 3, 4, 5] (by with_unfolding_all rfl))
theorem dX4_takeRow_24 {t n : Nat} {M : pt_M} (ht : t < 7) (hn : n ≤ 10) : pt_Does yX4_takeRow YX4_takeRow [pt_r 3 t, pt_i (nI n), pt_r 24 0] M none (mt_F M t n fun i j k => decide (pt_A M 24 0 (rk_F n i j k) = 1)) := by
  generalize hs : (fun i j k => decide (pt_A M 24 0 (rk_F n i j k) = 1)) = s
  have h := pt_three (Y := YX4_takeRow) (n := n)
    (fun i => (10, [(0, pt_r 3 t), (1, pt_i (nI n)), (2, pt_r 24 0), (3, pt_i (nI (rk_F n i (i + 1) (i + 2)))), (4, pt_i (nI i))], [], tw_F (hd_F M t (nI n)) t (pb_q (pb_d n i (i + 1) (i + 2)) s)))
    (fun i j => (22, [(0, pt_r 3 t), (1, pt_i (nI n)), (2, pt_r 24 0), (3, pt_i (nI (rk_F n i j (j + 1)))), (4, pt_i (nI i)), (5, pt_i (nI j))], [], tw_F (hd_F M t (nI n)) t (pb_q (pb_d n i j (j + 1)) s)))
    (fun i j k => (34, [(0, pt_r 3 t), (1, pt_i (nI n)), (2, pt_r 24 0), (3, pt_i (nI (rk_F n i j k))), (4, pt_i (nI i)), (5, pt_i (nI j)), (6, pt_i (nI k))], [], tw_F (hd_F M t (nI n)) t (pb_q (pb_d n i j k) s)))
    (fun i hi => (gX4_takeRow24_10_1 t (nI n) _ (nI i) _ (nI_ge hi (by omega))).to (by rw [nI_1]))
    (fun i j hij hj => (gX4_takeRow24_22_1 t (nI n) _ (nI i) (nI j) _ (nI_ge hj (by omega))).to (by rw [nI_1]))
    (fun i hi => (gX4_takeRow24_22_2 t (nI n) _ (nI i) (nI n) _ (Int32.le_refl _)).to (by rw [nI_1, pb_d_i (Nat.le_refl n), rk_i (n + 1) (Nat.le_refl _)]))
    (fun i j k hij hjk hk => by
      obtain ⟨hr1, hr2⟩ := rk_lt n hn i (by omega) j (by omega) k hk hij hjk
      have hA : pt_A (tw_F (hd_F M t (nI n)) t (pb_q (pb_d n i j k) s)) 24 0 (pt_nt (nI (rk_F n i j k))) = pt_A M 24 0 (rk_F n i j k) := by
        rw [tw_A (by decide), pt_nt_nI (by omega)]
      have hb : s i j k = decide (pt_A M 24 0 (rk_F n i j k) = 1) := by rw [← hs]
      by_cases hv : pt_A M 24 0 (rk_F n i j k) = 1
      · refine (gX4_takeRow24_34_1 t (nI n) _ (nI i) (nI j) (nI k) _ (nI_ge hk (by omega)) (nI_ge (by omega) (by decide)) (pt_in_nI (by omega) (by decide)) (hA.trans hv) ht (pu_nI (by omega) (by omega) (by omega))).to ?_
        rw [decide_eq_true hv] at hb
        rw [nI_1, nI_1, ← rk_k hjk, show (1 : Int32) = pt_b true from rfl, pu_tw true (by omega) (by omega) (by omega), ← hb, pb_d_k hk s hij hjk]
      · refine (gX4_takeRow24_34_2 t (nI n) _ (nI i) (nI j) (nI k) _ (nI_ge hk (by omega)) (nI_ge (by omega) (by decide)) (pt_in_nI (by omega) (by decide)) (fun z => hv (hA.symm.trans z)) ht (pu_nI (by omega) (by omega) (by omega))).to ?_
        rw [decide_eq_false hv] at hb
        rw [nI_1, nI_1, ← rk_k hjk, show (0 : Int32) = pt_b false from rfl, pu_tw false (by omega) (by omega) (by omega), ← hb, pb_d_k hk s hij hjk])
    (fun i j hij hj => (gX4_takeRow24_34_4 t (nI n) _ (nI i) (nI j) (nI n) _ (Int32.le_refl _)).to (by rw [nI_1, pb_d_j, rk_j hij hj]))
  refine rX4_takeRow_89 (Nat.le_of_ble_eq_true rfl) rfl (((gX4_takeRow24_0_1 t (nI n) M ht).to ?_).tr (h.tr ((gX4_takeRow24_10_2 t (nI n) _ (nI n) _ (Int32.le_refl _)).toM ?_)))
  · rw [bg_tw, ← pb_d_0 s]
    rfl
  · unfold mt_F
    rw [pb_d_n]
set_option maxRecDepth 100000 in
theorem gX4_takeRow12_0_1 (t : Nat) (n : Int32) (u : Nat)  (M : pt_M) (h1 : t < 7) :
    pt_Go YX4_takeRow (0, [(0, pt_r 3 t), (1, pt_i n), (2, pt_r 12 u)], [], M)
      (10, [(0, pt_r 3 t), (1, pt_i n), (2, pt_r 12 u), (3, pt_i 0), (4, pt_i 0)], [], (bg_F M t n)) :=
  pt_run_ok tX4_takeRow_ok 7 [.inr (2, none, (bg_F M t n))] (P := pt_Cal YX4_takeRow (.invokevirtual 49) [pt_r 3 t, pt_i n] M none (bg_F M t n) ∧ True) (by with_unfolding_all rfl) ⟨(pt_callV (i := t) kX4_takeRow_49 mX4_begin rfl h1 rfl (dX4_begin h1)), trivial⟩
set_option maxRecDepth 100000 in
theorem gX4_takeRow12_10_1 (t : Nat) (l1 : Int32) (u : Nat) (l3 : Int32) (l4 : Int32)  (M : pt_M) (h1 : ¬ l1 ≤ l4) :
    pt_Go YX4_takeRow (10, [(0, pt_r 3 t), (1, pt_i l1), (2, pt_r 12 u), (3, pt_i l3), (4, pt_i l4)], [], M)
      (22, [(0, pt_r 3 t), (1, pt_i l1), (2, pt_r 12 u), (3, pt_i l3), (4, pt_i l4), (5, pt_i (l4 + 1))], [], M) :=
  pt_run_ok tX4_takeRow_ok 7 [.inl false] (P := (¬ l1 ≤ l4) ∧ True) (by with_unfolding_all rfl) ⟨h1, trivial⟩
set_option maxRecDepth 100000 in
theorem gX4_takeRow12_10_2 (t : Nat) (l1 : Int32) (u : Nat) (l3 : Int32) (l4 : Int32)  (M : pt_M) (h1 : l1 ≤ l4) :
    pt_Go YX4_takeRow (10, [(0, pt_r 3 t), (1, pt_i l1), (2, pt_r 12 u), (3, pt_i l3), (4, pt_i l4)], [], M)
      (89, [(0, pt_r 3 t), (1, pt_i l1), (2, pt_r 12 u), (3, pt_i l3), (4, pt_i l4)], [], M) :=
  pt_run_ok tX4_takeRow_ok 3 [.inl true] (P := (l1 ≤ l4) ∧ True) (by with_unfolding_all rfl) ⟨h1, trivial⟩
set_option maxRecDepth 100000 in
theorem gX4_takeRow12_22_1 (t : Nat) (l1 : Int32) (u : Nat) (l3 : Int32) (l4 : Int32) (l5 : Int32)  (M : pt_M) (h1 : ¬ l1 ≤ l5) :
    pt_Go YX4_takeRow (22, [(0, pt_r 3 t), (1, pt_i l1), (2, pt_r 12 u), (3, pt_i l3), (4, pt_i l4), (5, pt_i l5)], [], M)
      (34, [(0, pt_r 3 t), (1, pt_i l1), (2, pt_r 12 u), (3, pt_i l3), (4, pt_i l4), (5, pt_i l5), (6, pt_i (l5 + 1))], [], M) :=
  pt_run_ok tX4_takeRow_ok 7 [.inl false] (P := (¬ l1 ≤ l5) ∧ True) (by with_unfolding_all rfl) ⟨h1, trivial⟩
set_option maxRecDepth 100000 in
theorem gX4_takeRow12_22_2 (t : Nat) (l1 : Int32) (u : Nat) (l3 : Int32) (l4 : Int32) (l5 : Int32)  (M : pt_M) (h1 : l1 ≤ l5) :
    pt_Go YX4_takeRow (22, [(0, pt_r 3 t), (1, pt_i l1), (2, pt_r 12 u), (3, pt_i l3), (4, pt_i l4), (5, pt_i l5)], [], M)
      (10, [(0, pt_r 3 t), (1, pt_i l1), (2, pt_r 12 u), (3, pt_i l3), (4, pt_i (l4 + 1))], [], M) :=
  (pt_run_ok tX4_takeRow_ok 5 [.inl true] (P := (l1 ≤ l5) ∧ True) (by with_unfolding_all rfl) ⟨h1, trivial⟩ : pt_Go YX4_takeRow _ (10, [(0, pt_r 3 t), (1, pt_i l1), (2, pt_r 12 u), (3, pt_i l3), (4, pt_i (l4 + 1)), (5, pt_i l5)], [], M)).tr (pt_pick [0, 1, 2, 3, 4] (by with_unfolding_all rfl))
set_option maxRecDepth 100000 in
theorem gX4_takeRow12_34_1 (t : Nat) (l1 : Int32) (u : Nat) (l3 : Int32) (l4 : Int32) (l5 : Int32) (l6 : Int32)  (M : pt_M) (h1 : ¬ l1 ≤ l6) (h2 : u < 7) (h3 : ¬ (nI 120) ≤ l3) (h4 : pt_in l3 120) (h5 : (pt_A M 12 u (pt_nt l3)) = 1) (h6 : t < 7) (h7 : pu_P l4 l5 l6) :
    pt_Go YX4_takeRow (34, [(0, pt_r 3 t), (1, pt_i l1), (2, pt_r 12 u), (3, pt_i l3), (4, pt_i l4), (5, pt_i l5), (6, pt_i l6)], [], M)
      (34, [(0, pt_r 3 t), (1, pt_i l1), (2, pt_r 12 u), (3, pt_i (l3 + 1)), (4, pt_i l4), (5, pt_i l5), (6, pt_i (l6 + 1))], [], (pu_F M t l4 l5 l6 1)) :=
  pt_run_ok tX4_takeRow_ok 22 [.inl false, .inl false, .inl false, .inr (5, none, (pu_F M t l4 l5 l6 1))] (P := (¬ l1 ≤ l6) ∧ (u < 7) ∧ (¬ (nI 120) ≤ l3) ∧ ((pt_in l3 120) ∧ (u < 7)) ∧ ((pt_A M 12 u (pt_nt l3)) = 1) ∧ pt_Cal YX4_takeRow (.invokevirtual 53) [pt_r 3 t, pt_i l4, pt_i l5, pt_i l6, pt_i 1] M none (pu_F M t l4 l5 l6 1) ∧ True) (by with_unfolding_all rfl) ⟨h1, h2, h3, ⟨h4, h2⟩, h5, (pt_callV (i := t) kX4_takeRow_53 mX4_put rfl h6 rfl (dX4_putP h6 h7)), trivial⟩
set_option maxRecDepth 100000 in
theorem gX4_takeRow12_34_2 (t : Nat) (l1 : Int32) (u : Nat) (l3 : Int32) (l4 : Int32) (l5 : Int32) (l6 : Int32)  (M : pt_M) (h1 : ¬ l1 ≤ l6) (h2 : u < 7) (h3 : ¬ (nI 120) ≤ l3) (h4 : pt_in l3 120) (h5 : ¬ (pt_A M 12 u (pt_nt l3)) = 1) (h6 : t < 7) (h7 : pu_P l4 l5 l6) :
    pt_Go YX4_takeRow (34, [(0, pt_r 3 t), (1, pt_i l1), (2, pt_r 12 u), (3, pt_i l3), (4, pt_i l4), (5, pt_i l5), (6, pt_i l6)], [], M)
      (34, [(0, pt_r 3 t), (1, pt_i l1), (2, pt_r 12 u), (3, pt_i (l3 + 1)), (4, pt_i l4), (5, pt_i l5), (6, pt_i (l6 + 1))], [], (pu_F M t l4 l5 l6 0)) :=
  pt_run_ok tX4_takeRow_ok 21 [.inl false, .inl false, .inl true, .inr (5, none, (pu_F M t l4 l5 l6 0))] (P := (¬ l1 ≤ l6) ∧ (u < 7) ∧ (¬ (nI 120) ≤ l3) ∧ ((pt_in l3 120) ∧ (u < 7)) ∧ (¬ (pt_A M 12 u (pt_nt l3)) = 1) ∧ pt_Cal YX4_takeRow (.invokevirtual 53) [pt_r 3 t, pt_i l4, pt_i l5, pt_i l6, pt_i 0] M none (pu_F M t l4 l5 l6 0) ∧ True) (by with_unfolding_all rfl) ⟨h1, h2, h3, ⟨h4, h2⟩, h5, (pt_callV (i := t) kX4_takeRow_53 mX4_put rfl h6 rfl (dX4_putP h6 h7)), trivial⟩
set_option maxRecDepth 100000 in
theorem gX4_takeRow12_34_3 (t : Nat) (l1 : Int32) (u : Nat) (l3 : Int32) (l4 : Int32) (l5 : Int32) (l6 : Int32)  (M : pt_M) (h1 : ¬ l1 ≤ l6) (h2 : u < 7) (h3 : (nI 120) ≤ l3) :
    pt_Go YX4_takeRow (34, [(0, pt_r 3 t), (1, pt_i l1), (2, pt_r 12 u), (3, pt_i l3), (4, pt_i l4), (5, pt_i l5), (6, pt_i l6)], [], M)
      (22, [(0, pt_r 3 t), (1, pt_i l1), (2, pt_r 12 u), (3, pt_i l3), (4, pt_i l4), (5, pt_i (l5 + 1))], [], M) :=
  (pt_run_ok tX4_takeRow_ok 9 [.inl false, .inl true] (P := (¬ l1 ≤ l6) ∧ (u < 7) ∧ ((nI 120) ≤ l3) ∧ True) (by with_unfolding_all rfl) ⟨h1, h2, h3, trivial⟩ : pt_Go YX4_takeRow _ (22, [(0, pt_r 3 t), (1, pt_i l1), (2, pt_r 12 u), (3, pt_i l3), (4, pt_i l4), (5, pt_i (l5 + 1)), (6, pt_i l6)], [], M)).tr (pt_pick [0, 1, 2, 3, 4, 5] (by with_unfolding_all rfl))
set_option maxRecDepth 100000 in
theorem gX4_takeRow12_34_4 (t : Nat) (l1 : Int32) (u : Nat) (l3 : Int32) (l4 : Int32) (l5 : Int32) (l6 : Int32)  (M : pt_M) (h1 : l1 ≤ l6) :
    pt_Go YX4_takeRow (34, [(0, pt_r 3 t), (1, pt_i l1), (2, pt_r 12 u), (3, pt_i l3), (4, pt_i l4), (5, pt_i l5), (6, pt_i l6)], [], M)
      (22, [(0, pt_r 3 t), (1, pt_i l1), (2, pt_r 12 u), (3, pt_i l3), (4, pt_i l4), (5, pt_i (l5 + 1))], [], M) :=
  (pt_run_ok tX4_takeRow_ok 5 [.inl true] (P := (l1 ≤ l6) ∧ True) (by with_unfolding_all rfl) ⟨h1, trivial⟩ : pt_Go YX4_takeRow _ (22, [(0, pt_r 3 t), (1, pt_i l1), (2, pt_r 12 u), (3, pt_i l3), (4, pt_i l4), (5, pt_i (l5 + 1)), (6, pt_i l6)], [], M)).tr (pt_pick [0, 1, 2, 3, 4, 5] (by with_unfolding_all rfl))
theorem dX4_takeRow_12 {t n : Nat} {u : Nat} {M : pt_M} (ht : t < 7) (hu : u < 7) (hn : n ≤ 10) : pt_Does yX4_takeRow YX4_takeRow [pt_r 3 t, pt_i (nI n), pt_r 12 u] M none (mt_F M t n fun i j k => decide (pt_A M 12 u (rk_F n i j k) = 1)) := by
  generalize hs : (fun i j k => decide (pt_A M 12 u (rk_F n i j k) = 1)) = s
  have h := pt_three (Y := YX4_takeRow) (n := n)
    (fun i => (10, [(0, pt_r 3 t), (1, pt_i (nI n)), (2, pt_r 12 u), (3, pt_i (nI (rk_F n i (i + 1) (i + 2)))), (4, pt_i (nI i))], [], tw_F (hd_F M t (nI n)) t (pb_q (pb_d n i (i + 1) (i + 2)) s)))
    (fun i j => (22, [(0, pt_r 3 t), (1, pt_i (nI n)), (2, pt_r 12 u), (3, pt_i (nI (rk_F n i j (j + 1)))), (4, pt_i (nI i)), (5, pt_i (nI j))], [], tw_F (hd_F M t (nI n)) t (pb_q (pb_d n i j (j + 1)) s)))
    (fun i j k => (34, [(0, pt_r 3 t), (1, pt_i (nI n)), (2, pt_r 12 u), (3, pt_i (nI (rk_F n i j k))), (4, pt_i (nI i)), (5, pt_i (nI j)), (6, pt_i (nI k))], [], tw_F (hd_F M t (nI n)) t (pb_q (pb_d n i j k) s)))
    (fun i hi => (gX4_takeRow12_10_1 t (nI n) u _ (nI i) _ (nI_ge hi (by omega))).to (by rw [nI_1]))
    (fun i j hij hj => (gX4_takeRow12_22_1 t (nI n) u _ (nI i) (nI j) _ (nI_ge hj (by omega))).to (by rw [nI_1]))
    (fun i hi => (gX4_takeRow12_22_2 t (nI n) u _ (nI i) (nI n) _ (Int32.le_refl _)).to (by rw [nI_1, pb_d_i (Nat.le_refl n), rk_i (n + 1) (Nat.le_refl _)]))
    (fun i j k hij hjk hk => by
      obtain ⟨hr1, hr2⟩ := rk_lt n hn i (by omega) j (by omega) k hk hij hjk
      have hA : pt_A (tw_F (hd_F M t (nI n)) t (pb_q (pb_d n i j k) s)) 12 u (pt_nt (nI (rk_F n i j k))) = pt_A M 12 u (rk_F n i j k) := by
        rw [tw_A (by decide), pt_nt_nI (by omega)]
      have hb : s i j k = decide (pt_A M 12 u (rk_F n i j k) = 1) := by rw [← hs]
      by_cases hv : pt_A M 12 u (rk_F n i j k) = 1
      · refine (gX4_takeRow12_34_1 t (nI n) u _ (nI i) (nI j) (nI k) _ (nI_ge hk (by omega)) hu (nI_ge (by omega) (by decide)) (pt_in_nI (by omega) (by decide)) (hA.trans hv) ht (pu_nI (by omega) (by omega) (by omega))).to ?_
        rw [decide_eq_true hv] at hb
        rw [nI_1, nI_1, ← rk_k hjk, show (1 : Int32) = pt_b true from rfl, pu_tw true (by omega) (by omega) (by omega), ← hb, pb_d_k hk s hij hjk]
      · refine (gX4_takeRow12_34_2 t (nI n) u _ (nI i) (nI j) (nI k) _ (nI_ge hk (by omega)) hu (nI_ge (by omega) (by decide)) (pt_in_nI (by omega) (by decide)) (fun z => hv (hA.symm.trans z)) ht (pu_nI (by omega) (by omega) (by omega))).to ?_
        rw [decide_eq_false hv] at hb
        rw [nI_1, nI_1, ← rk_k hjk, show (0 : Int32) = pt_b false from rfl, pu_tw false (by omega) (by omega) (by omega), ← hb, pb_d_k hk s hij hjk])
    (fun i j hij hj => (gX4_takeRow12_34_4 t (nI n) u _ (nI i) (nI j) (nI n) _ (Int32.le_refl _)).to (by rw [nI_1, pb_d_j, rk_j hij hj]))
  refine rX4_takeRow_89 (Nat.le_of_ble_eq_true rfl) rfl (((gX4_takeRow12_0_1 t (nI n) u M ht).to ?_).tr (h.tr ((gX4_takeRow12_10_2 t (nI n) u _ (nI n) _ (Int32.le_refl _)).toM ?_)))
  · rw [bg_tw, ← pb_d_0 s]
    rfl
  · unfold mt_F
    rw [pb_d_n]
set_option maxRecDepth 100000 in
theorem gX4_takeRow13_0_1 (t : Nat) (n : Int32) (u : Nat)  (M : pt_M) (h1 : t < 7) :
    pt_Go YX4_takeRow (0, [(0, pt_r 3 t), (1, pt_i n), (2, pt_r 13 u)], [], M)
      (10, [(0, pt_r 3 t), (1, pt_i n), (2, pt_r 13 u), (3, pt_i 0), (4, pt_i 0)], [], (bg_F M t n)) :=
  pt_run_ok tX4_takeRow_ok 7 [.inr (2, none, (bg_F M t n))] (P := pt_Cal YX4_takeRow (.invokevirtual 49) [pt_r 3 t, pt_i n] M none (bg_F M t n) ∧ True) (by with_unfolding_all rfl) ⟨(pt_callV (i := t) kX4_takeRow_49 mX4_begin rfl h1 rfl (dX4_begin h1)), trivial⟩
set_option maxRecDepth 100000 in
theorem gX4_takeRow13_10_1 (t : Nat) (l1 : Int32) (u : Nat) (l3 : Int32) (l4 : Int32)  (M : pt_M) (h1 : ¬ l1 ≤ l4) :
    pt_Go YX4_takeRow (10, [(0, pt_r 3 t), (1, pt_i l1), (2, pt_r 13 u), (3, pt_i l3), (4, pt_i l4)], [], M)
      (22, [(0, pt_r 3 t), (1, pt_i l1), (2, pt_r 13 u), (3, pt_i l3), (4, pt_i l4), (5, pt_i (l4 + 1))], [], M) :=
  pt_run_ok tX4_takeRow_ok 7 [.inl false] (P := (¬ l1 ≤ l4) ∧ True) (by with_unfolding_all rfl) ⟨h1, trivial⟩
set_option maxRecDepth 100000 in
theorem gX4_takeRow13_10_2 (t : Nat) (l1 : Int32) (u : Nat) (l3 : Int32) (l4 : Int32)  (M : pt_M) (h1 : l1 ≤ l4) :
    pt_Go YX4_takeRow (10, [(0, pt_r 3 t), (1, pt_i l1), (2, pt_r 13 u), (3, pt_i l3), (4, pt_i l4)], [], M)
      (89, [(0, pt_r 3 t), (1, pt_i l1), (2, pt_r 13 u), (3, pt_i l3), (4, pt_i l4)], [], M) :=
  pt_run_ok tX4_takeRow_ok 3 [.inl true] (P := (l1 ≤ l4) ∧ True) (by with_unfolding_all rfl) ⟨h1, trivial⟩
set_option maxRecDepth 100000 in
theorem gX4_takeRow13_22_1 (t : Nat) (l1 : Int32) (u : Nat) (l3 : Int32) (l4 : Int32) (l5 : Int32)  (M : pt_M) (h1 : ¬ l1 ≤ l5) :
    pt_Go YX4_takeRow (22, [(0, pt_r 3 t), (1, pt_i l1), (2, pt_r 13 u), (3, pt_i l3), (4, pt_i l4), (5, pt_i l5)], [], M)
      (34, [(0, pt_r 3 t), (1, pt_i l1), (2, pt_r 13 u), (3, pt_i l3), (4, pt_i l4), (5, pt_i l5), (6, pt_i (l5 + 1))], [], M) :=
  pt_run_ok tX4_takeRow_ok 7 [.inl false] (P := (¬ l1 ≤ l5) ∧ True) (by with_unfolding_all rfl) ⟨h1, trivial⟩
set_option maxRecDepth 100000 in
theorem gX4_takeRow13_22_2 (t : Nat) (l1 : Int32) (u : Nat) (l3 : Int32) (l4 : Int32) (l5 : Int32)  (M : pt_M) (h1 : l1 ≤ l5) :
    pt_Go YX4_takeRow (22, [(0, pt_r 3 t), (1, pt_i l1), (2, pt_r 13 u), (3, pt_i l3), (4, pt_i l4), (5, pt_i l5)], [], M)
      (10, [(0, pt_r 3 t), (1, pt_i l1), (2, pt_r 13 u), (3, pt_i l3), (4, pt_i (l4 + 1))], [], M) :=
  (pt_run_ok tX4_takeRow_ok 5 [.inl true] (P := (l1 ≤ l5) ∧ True) (by with_unfolding_all rfl) ⟨h1, trivial⟩ : pt_Go YX4_takeRow _ (10, [(0, pt_r 3 t), (1, pt_i l1), (2, pt_r 13 u), (3, pt_i l3), (4, pt_i (l4 + 1)), (5, pt_i l5)], [], M)).tr (pt_pick [0, 1, 2, 3, 4] (by with_unfolding_all rfl))
set_option maxRecDepth 100000 in
theorem gX4_takeRow13_34_1 (t : Nat) (l1 : Int32) (u : Nat) (l3 : Int32) (l4 : Int32) (l5 : Int32) (l6 : Int32)  (M : pt_M) (h1 : ¬ l1 ≤ l6) (h2 : u < 7) (h3 : ¬ (nI 120) ≤ l3) (h4 : pt_in l3 120) (h5 : (pt_A M 13 u (pt_nt l3)) = 1) (h6 : t < 7) (h7 : pu_P l4 l5 l6) :
    pt_Go YX4_takeRow (34, [(0, pt_r 3 t), (1, pt_i l1), (2, pt_r 13 u), (3, pt_i l3), (4, pt_i l4), (5, pt_i l5), (6, pt_i l6)], [], M)
      (34, [(0, pt_r 3 t), (1, pt_i l1), (2, pt_r 13 u), (3, pt_i (l3 + 1)), (4, pt_i l4), (5, pt_i l5), (6, pt_i (l6 + 1))], [], (pu_F M t l4 l5 l6 1)) :=
  pt_run_ok tX4_takeRow_ok 22 [.inl false, .inl false, .inl false, .inr (5, none, (pu_F M t l4 l5 l6 1))] (P := (¬ l1 ≤ l6) ∧ (u < 7) ∧ (¬ (nI 120) ≤ l3) ∧ ((pt_in l3 120) ∧ (u < 7)) ∧ ((pt_A M 13 u (pt_nt l3)) = 1) ∧ pt_Cal YX4_takeRow (.invokevirtual 53) [pt_r 3 t, pt_i l4, pt_i l5, pt_i l6, pt_i 1] M none (pu_F M t l4 l5 l6 1) ∧ True) (by with_unfolding_all rfl) ⟨h1, h2, h3, ⟨h4, h2⟩, h5, (pt_callV (i := t) kX4_takeRow_53 mX4_put rfl h6 rfl (dX4_putP h6 h7)), trivial⟩
set_option maxRecDepth 100000 in
theorem gX4_takeRow13_34_2 (t : Nat) (l1 : Int32) (u : Nat) (l3 : Int32) (l4 : Int32) (l5 : Int32) (l6 : Int32)  (M : pt_M) (h1 : ¬ l1 ≤ l6) (h2 : u < 7) (h3 : ¬ (nI 120) ≤ l3) (h4 : pt_in l3 120) (h5 : ¬ (pt_A M 13 u (pt_nt l3)) = 1) (h6 : t < 7) (h7 : pu_P l4 l5 l6) :
    pt_Go YX4_takeRow (34, [(0, pt_r 3 t), (1, pt_i l1), (2, pt_r 13 u), (3, pt_i l3), (4, pt_i l4), (5, pt_i l5), (6, pt_i l6)], [], M)
      (34, [(0, pt_r 3 t), (1, pt_i l1), (2, pt_r 13 u), (3, pt_i (l3 + 1)), (4, pt_i l4), (5, pt_i l5), (6, pt_i (l6 + 1))], [], (pu_F M t l4 l5 l6 0)) :=
  pt_run_ok tX4_takeRow_ok 21 [.inl false, .inl false, .inl true, .inr (5, none, (pu_F M t l4 l5 l6 0))] (P := (¬ l1 ≤ l6) ∧ (u < 7) ∧ (¬ (nI 120) ≤ l3) ∧ ((pt_in l3 120) ∧ (u < 7)) ∧ (¬ (pt_A M 13 u (pt_nt l3)) = 1) ∧ pt_Cal YX4_takeRow (.invokevirtual 53) [pt_r 3 t, pt_i l4, pt_i l5, pt_i l6, pt_i 0] M none (pu_F M t l4 l5 l6 0) ∧ True) (by with_unfolding_all rfl) ⟨h1, h2, h3, ⟨h4, h2⟩, h5, (pt_callV (i := t) kX4_takeRow_53 mX4_put rfl h6 rfl (dX4_putP h6 h7)), trivial⟩
set_option maxRecDepth 100000 in
theorem gX4_takeRow13_34_3 (t : Nat) (l1 : Int32) (u : Nat) (l3 : Int32) (l4 : Int32) (l5 : Int32) (l6 : Int32)  (M : pt_M) (h1 : ¬ l1 ≤ l6) (h2 : u < 7) (h3 : (nI 120) ≤ l3) :
    pt_Go YX4_takeRow (34, [(0, pt_r 3 t), (1, pt_i l1), (2, pt_r 13 u), (3, pt_i l3), (4, pt_i l4), (5, pt_i l5), (6, pt_i l6)], [], M)
      (22, [(0, pt_r 3 t), (1, pt_i l1), (2, pt_r 13 u), (3, pt_i l3), (4, pt_i l4), (5, pt_i (l5 + 1))], [], M) :=
  (pt_run_ok tX4_takeRow_ok 9 [.inl false, .inl true] (P := (¬ l1 ≤ l6) ∧ (u < 7) ∧ ((nI 120) ≤ l3) ∧ True) (by with_unfolding_all rfl) ⟨h1, h2, h3, trivial⟩ : pt_Go YX4_takeRow _ (22, [(0, pt_r 3 t), (1, pt_i l1), (2, pt_r 13 u), (3, pt_i l3), (4, pt_i l4), (5, pt_i (l5 + 1)), (6, pt_i l6)], [], M)).tr (pt_pick [0, 1, 2, 3, 4, 5] (by with_unfolding_all rfl))
set_option maxRecDepth 100000 in
theorem gX4_takeRow13_34_4 (t : Nat) (l1 : Int32) (u : Nat) (l3 : Int32) (l4 : Int32) (l5 : Int32) (l6 : Int32)  (M : pt_M) (h1 : l1 ≤ l6) :
    pt_Go YX4_takeRow (34, [(0, pt_r 3 t), (1, pt_i l1), (2, pt_r 13 u), (3, pt_i l3), (4, pt_i l4), (5, pt_i l5), (6, pt_i l6)], [], M)
      (22, [(0, pt_r 3 t), (1, pt_i l1), (2, pt_r 13 u), (3, pt_i l3), (4, pt_i l4), (5, pt_i (l5 + 1))], [], M) :=
  (pt_run_ok tX4_takeRow_ok 5 [.inl true] (P := (l1 ≤ l6) ∧ True) (by with_unfolding_all rfl) ⟨h1, trivial⟩ : pt_Go YX4_takeRow _ (22, [(0, pt_r 3 t), (1, pt_i l1), (2, pt_r 13 u), (3, pt_i l3), (4, pt_i l4), (5, pt_i (l5 + 1)), (6, pt_i l6)], [], M)).tr (pt_pick [0, 1, 2, 3, 4, 5] (by with_unfolding_all rfl))
theorem dX4_takeRow_13 {t n : Nat} {u : Nat} {M : pt_M} (ht : t < 7) (hu : u < 7) (hn : n ≤ 10) : pt_Does yX4_takeRow YX4_takeRow [pt_r 3 t, pt_i (nI n), pt_r 13 u] M none (mt_F M t n fun i j k => decide (pt_A M 13 u (rk_F n i j k) = 1)) := by
  generalize hs : (fun i j k => decide (pt_A M 13 u (rk_F n i j k) = 1)) = s
  have h := pt_three (Y := YX4_takeRow) (n := n)
    (fun i => (10, [(0, pt_r 3 t), (1, pt_i (nI n)), (2, pt_r 13 u), (3, pt_i (nI (rk_F n i (i + 1) (i + 2)))), (4, pt_i (nI i))], [], tw_F (hd_F M t (nI n)) t (pb_q (pb_d n i (i + 1) (i + 2)) s)))
    (fun i j => (22, [(0, pt_r 3 t), (1, pt_i (nI n)), (2, pt_r 13 u), (3, pt_i (nI (rk_F n i j (j + 1)))), (4, pt_i (nI i)), (5, pt_i (nI j))], [], tw_F (hd_F M t (nI n)) t (pb_q (pb_d n i j (j + 1)) s)))
    (fun i j k => (34, [(0, pt_r 3 t), (1, pt_i (nI n)), (2, pt_r 13 u), (3, pt_i (nI (rk_F n i j k))), (4, pt_i (nI i)), (5, pt_i (nI j)), (6, pt_i (nI k))], [], tw_F (hd_F M t (nI n)) t (pb_q (pb_d n i j k) s)))
    (fun i hi => (gX4_takeRow13_10_1 t (nI n) u _ (nI i) _ (nI_ge hi (by omega))).to (by rw [nI_1]))
    (fun i j hij hj => (gX4_takeRow13_22_1 t (nI n) u _ (nI i) (nI j) _ (nI_ge hj (by omega))).to (by rw [nI_1]))
    (fun i hi => (gX4_takeRow13_22_2 t (nI n) u _ (nI i) (nI n) _ (Int32.le_refl _)).to (by rw [nI_1, pb_d_i (Nat.le_refl n), rk_i (n + 1) (Nat.le_refl _)]))
    (fun i j k hij hjk hk => by
      obtain ⟨hr1, hr2⟩ := rk_lt n hn i (by omega) j (by omega) k hk hij hjk
      have hA : pt_A (tw_F (hd_F M t (nI n)) t (pb_q (pb_d n i j k) s)) 13 u (pt_nt (nI (rk_F n i j k))) = pt_A M 13 u (rk_F n i j k) := by
        rw [tw_A (by decide), pt_nt_nI (by omega)]
      have hb : s i j k = decide (pt_A M 13 u (rk_F n i j k) = 1) := by rw [← hs]
      by_cases hv : pt_A M 13 u (rk_F n i j k) = 1
      · refine (gX4_takeRow13_34_1 t (nI n) u _ (nI i) (nI j) (nI k) _ (nI_ge hk (by omega)) hu (nI_ge (by omega) (by decide)) (pt_in_nI (by omega) (by decide)) (hA.trans hv) ht (pu_nI (by omega) (by omega) (by omega))).to ?_
        rw [decide_eq_true hv] at hb
        rw [nI_1, nI_1, ← rk_k hjk, show (1 : Int32) = pt_b true from rfl, pu_tw true (by omega) (by omega) (by omega), ← hb, pb_d_k hk s hij hjk]
      · refine (gX4_takeRow13_34_2 t (nI n) u _ (nI i) (nI j) (nI k) _ (nI_ge hk (by omega)) hu (nI_ge (by omega) (by decide)) (pt_in_nI (by omega) (by decide)) (fun z => hv (hA.symm.trans z)) ht (pu_nI (by omega) (by omega) (by omega))).to ?_
        rw [decide_eq_false hv] at hb
        rw [nI_1, nI_1, ← rk_k hjk, show (0 : Int32) = pt_b false from rfl, pu_tw false (by omega) (by omega) (by omega), ← hb, pb_d_k hk s hij hjk])
    (fun i j hij hj => (gX4_takeRow13_34_4 t (nI n) u _ (nI i) (nI j) (nI n) _ (Int32.le_refl _)).to (by rw [nI_1, pb_d_j, rk_j hij hj]))
  refine rX4_takeRow_89 (Nat.le_of_ble_eq_true rfl) rfl (((gX4_takeRow13_0_1 t (nI n) u M ht).to ?_).tr (h.tr ((gX4_takeRow13_10_2 t (nI n) u _ (nI n) _ (Int32.le_refl _)).toM ?_)))
  · rw [bg_tw, ← pb_d_0 s]
    rfl
  · unfold mt_F
    rw [pb_d_n]
theorem rX4_takeTurns_103 {vs : List pt_V} {M M' : pt_M} {L : List (Nat × pt_V)} (hvs : (vs.map pt_w).sum ≤ 9) (hX : M'.2.2.2.2 = M.2.2.2.2) (h : pt_Go YX4_takeTurns (0, pt_en 0 vs, [], M) (103, L, [], M')) : pt_Does yX4_takeTurns YX4_takeTurns vs M none M' := pt_does_go tX4_takeTurns_ok nX4_takeTurns hvs hX ⟨_, by with_unfolding_all rfl, rfl, rfl⟩ h
set_option maxRecDepth 100000 in
theorem gX4_takeTurns_0_1 (t : Nat) (u : Nat) (n : Int32) (x : Int32)  (M : pt_M) (h1 : t < 7) :
    pt_Go YX4_takeTurns (0, [(0, pt_r 3 t), (1, pt_r 3 u), (2, pt_r 23 0), (3, pt_i n), (4, pt_i x)], [], M)
      (8, [(0, pt_r 3 t), (1, pt_r 3 u), (2, pt_r 23 0), (3, pt_i n), (4, pt_i x), (5, pt_i 0)], [], (bg_F M t n)) :=
  pt_run_ok tX4_takeTurns_ok 5 [.inr (2, none, (bg_F M t n))] (P := pt_Cal YX4_takeTurns (.invokevirtual 49) [pt_r 3 t, pt_i n] M none (bg_F M t n) ∧ True) (by with_unfolding_all rfl) ⟨(pt_callV (i := t) kX4_takeTurns_49 mX4_begin rfl h1 rfl (dX4_begin h1)), trivial⟩
set_option maxRecDepth 100000 in
theorem gX4_takeTurns_8_1 (t : Nat) (u : Nat) (l3 : Int32) (l4 : Int32) (l5 : Int32)  (M : pt_M) (h1 : ¬ l3 ≤ l5) :
    pt_Go YX4_takeTurns (8, [(0, pt_r 3 t), (1, pt_r 3 u), (2, pt_r 23 0), (3, pt_i l3), (4, pt_i l4), (5, pt_i l5)], [], M)
      (20, [(0, pt_r 3 t), (1, pt_r 3 u), (2, pt_r 23 0), (3, pt_i l3), (4, pt_i l4), (5, pt_i l5), (6, pt_i (l5 + 1))], [], M) :=
  pt_run_ok tX4_takeTurns_ok 7 [.inl false] (P := (¬ l3 ≤ l5) ∧ True) (by with_unfolding_all rfl) ⟨h1, trivial⟩
set_option maxRecDepth 100000 in
theorem gX4_takeTurns_8_2 (t : Nat) (u : Nat) (l3 : Int32) (l4 : Int32) (l5 : Int32)  (M : pt_M) (h1 : l3 ≤ l5) :
    pt_Go YX4_takeTurns (8, [(0, pt_r 3 t), (1, pt_r 3 u), (2, pt_r 23 0), (3, pt_i l3), (4, pt_i l4), (5, pt_i l5)], [], M)
      (103, [(0, pt_r 3 t), (1, pt_r 3 u), (2, pt_r 23 0), (3, pt_i l3), (4, pt_i l4), (5, pt_i l5)], [], M) :=
  pt_run_ok tX4_takeTurns_ok 3 [.inl true] (P := (l3 ≤ l5) ∧ True) (by with_unfolding_all rfl) ⟨h1, trivial⟩
set_option maxRecDepth 100000 in
theorem gX4_takeTurns_20_1 (t : Nat) (u : Nat) (l3 : Int32) (l4 : Int32) (l5 : Int32) (l6 : Int32)  (M : pt_M) (h1 : ¬ l3 ≤ l6) :
    pt_Go YX4_takeTurns (20, [(0, pt_r 3 t), (1, pt_r 3 u), (2, pt_r 23 0), (3, pt_i l3), (4, pt_i l4), (5, pt_i l5), (6, pt_i l6)], [], M)
      (32, [(0, pt_r 3 t), (1, pt_r 3 u), (2, pt_r 23 0), (3, pt_i l3), (4, pt_i l4), (5, pt_i l5), (6, pt_i l6), (7, pt_i (l6 + 1))], [], M) :=
  pt_run_ok tX4_takeTurns_ok 7 [.inl false] (P := (¬ l3 ≤ l6) ∧ True) (by with_unfolding_all rfl) ⟨h1, trivial⟩
set_option maxRecDepth 100000 in
theorem gX4_takeTurns_20_2 (t : Nat) (u : Nat) (l3 : Int32) (l4 : Int32) (l5 : Int32) (l6 : Int32)  (M : pt_M) (h1 : l3 ≤ l6) :
    pt_Go YX4_takeTurns (20, [(0, pt_r 3 t), (1, pt_r 3 u), (2, pt_r 23 0), (3, pt_i l3), (4, pt_i l4), (5, pt_i l5), (6, pt_i l6)], [], M)
      (8, [(0, pt_r 3 t), (1, pt_r 3 u), (2, pt_r 23 0), (3, pt_i l3), (4, pt_i l4), (5, pt_i (l5 + 1))], [], M) :=
  (pt_run_ok tX4_takeTurns_ok 5 [.inl true] (P := (l3 ≤ l6) ∧ True) (by with_unfolding_all rfl) ⟨h1, trivial⟩ : pt_Go YX4_takeTurns _ (8, [(0, pt_r 3 t), (1, pt_r 3 u), (2, pt_r 23 0), (3, pt_i l3), (4, pt_i l4), (5, pt_i (l5 + 1)), (6, pt_i l6)], [], M)).tr (pt_pick [0, 1, 2, 3, 4, 5] (by with_unfolding_all rfl))
set_option maxRecDepth 100000 in
theorem gX4_takeTurns_32_1 (t : Nat) (u : Nat) (l3 : Int32) (l4 : Int32) (l5 : Int32) (l6 : Int32) (l7 : Int32)  (M : pt_M) (h1 : ¬ l3 ≤ l7) (h2 : ¬ (nI 10) ≤ l7) (h3 : pt_in l5 10) (h4 : pt_in l6 10) (h5 : pt_in l7 10) (h6 : u < 7) (h7 : pt_in (ix_F (pt_A M 23 0 (pt_nt l5)) (pt_A M 23 0 (pt_nt l6))) 100) (h8 : lf_P M u (pt_A M 23 0 (pt_nt l5)) (pt_A M 23 0 (pt_nt l6)) (pt_A M 23 0 (pt_nt l7))) (h9 : ¬ 1 = l4) (h10 : t < 7) (h11 : pu_P l5 l6 l7) :
    pt_Go YX4_takeTurns (32, [(0, pt_r 3 t), (1, pt_r 3 u), (2, pt_r 23 0), (3, pt_i l3), (4, pt_i l4), (5, pt_i l5), (6, pt_i l6), (7, pt_i l7)], [], M)
      (32, [(0, pt_r 3 t), (1, pt_r 3 u), (2, pt_r 23 0), (3, pt_i l3), (4, pt_i l4), (5, pt_i l5), (6, pt_i l6), (7, pt_i (l7 + 1))], [], (pu_F M t l5 l6 l7 1)) :=
  (pt_run_ok tX4_takeTurns_ok 31 [.inl false, .inl false, .inr (4, some (pt_i 1), M), .inl false, .inr (5, none, (pu_F M t l5 l6 l7 1))] (P := (¬ l3 ≤ l7) ∧ (¬ (nI 10) ≤ l7) ∧ (pt_in l5 10) ∧ (pt_in l6 10) ∧ (pt_in l7 10) ∧ pt_Cal YX4_takeTurns (.invokevirtual 56) [pt_r 3 u, pt_i (pt_A M 23 0 (pt_nt l5)), pt_i (pt_A M 23 0 (pt_nt l6)), pt_i (pt_A M 23 0 (pt_nt l7))] M (some (pt_i 1)) M ∧ (¬ 1 = l4) ∧ pt_Cal YX4_takeTurns (.invokevirtual 53) [pt_r 3 t, pt_i l5, pt_i l6, pt_i l7, pt_i 1] M none (pu_F M t l5 l6 l7 1) ∧ True) (by with_unfolding_all rfl) ⟨h1, h2, h3, h4, h5, (pt_callV (i := u) kX4_takeTurns_56 mX4_isLeft rfl h6 rfl (dX4_isLeft_1 h6 h7 h8)), h9, (pt_callV (i := t) kX4_takeTurns_53 mX4_put rfl h10 rfl (dX4_putP h10 h11)), trivial⟩ : pt_Go YX4_takeTurns _ (32, [(0, pt_r 3 t), (1, pt_r 3 u), (2, pt_r 23 0), (3, pt_i l3), (4, pt_i l4), (5, pt_i l5), (6, pt_i l6), (7, pt_i (l7 + 1)), (8, pt_i 1)], [], (pu_F M t l5 l6 l7 1))).tr (pt_pick [0, 1, 2, 3, 4, 5, 6, 7] (by with_unfolding_all rfl))
set_option maxRecDepth 100000 in
theorem gX4_takeTurns_32_2 (t : Nat) (u : Nat) (l3 : Int32) (l4 : Int32) (l5 : Int32) (l6 : Int32) (l7 : Int32)  (M : pt_M) (h1 : ¬ l3 ≤ l7) (h2 : ¬ (nI 10) ≤ l7) (h3 : pt_in l5 10) (h4 : pt_in l6 10) (h5 : pt_in l7 10) (h6 : u < 7) (h7 : pt_in (ix_F (pt_A M 23 0 (pt_nt l5)) (pt_A M 23 0 (pt_nt l6))) 100) (h8 : lf_P M u (pt_A M 23 0 (pt_nt l5)) (pt_A M 23 0 (pt_nt l6)) (pt_A M 23 0 (pt_nt l7))) (h9 : 1 = l4) (h10 : t < 7) (h11 : pu_P l5 l6 l7) :
    pt_Go YX4_takeTurns (32, [(0, pt_r 3 t), (1, pt_r 3 u), (2, pt_r 23 0), (3, pt_i l3), (4, pt_i l4), (5, pt_i l5), (6, pt_i l6), (7, pt_i l7)], [], M)
      (32, [(0, pt_r 3 t), (1, pt_r 3 u), (2, pt_r 23 0), (3, pt_i l3), (4, pt_i l4), (5, pt_i l5), (6, pt_i l6), (7, pt_i (l7 + 1))], [], (pu_F M t l5 l6 l7 0)) :=
  (pt_run_ok tX4_takeTurns_ok 30 [.inl false, .inl false, .inr (4, some (pt_i 1), M), .inl true, .inr (5, none, (pu_F M t l5 l6 l7 0))] (P := (¬ l3 ≤ l7) ∧ (¬ (nI 10) ≤ l7) ∧ (pt_in l5 10) ∧ (pt_in l6 10) ∧ (pt_in l7 10) ∧ pt_Cal YX4_takeTurns (.invokevirtual 56) [pt_r 3 u, pt_i (pt_A M 23 0 (pt_nt l5)), pt_i (pt_A M 23 0 (pt_nt l6)), pt_i (pt_A M 23 0 (pt_nt l7))] M (some (pt_i 1)) M ∧ (1 = l4) ∧ pt_Cal YX4_takeTurns (.invokevirtual 53) [pt_r 3 t, pt_i l5, pt_i l6, pt_i l7, pt_i 0] M none (pu_F M t l5 l6 l7 0) ∧ True) (by with_unfolding_all rfl) ⟨h1, h2, h3, h4, h5, (pt_callV (i := u) kX4_takeTurns_56 mX4_isLeft rfl h6 rfl (dX4_isLeft_1 h6 h7 h8)), h9, (pt_callV (i := t) kX4_takeTurns_53 mX4_put rfl h10 rfl (dX4_putP h10 h11)), trivial⟩ : pt_Go YX4_takeTurns _ (32, [(0, pt_r 3 t), (1, pt_r 3 u), (2, pt_r 23 0), (3, pt_i l3), (4, pt_i l4), (5, pt_i l5), (6, pt_i l6), (7, pt_i (l7 + 1)), (8, pt_i 1)], [], (pu_F M t l5 l6 l7 0))).tr (pt_pick [0, 1, 2, 3, 4, 5, 6, 7] (by with_unfolding_all rfl))
set_option maxRecDepth 100000 in
theorem gX4_takeTurns_32_3 (t : Nat) (u : Nat) (l3 : Int32) (l4 : Int32) (l5 : Int32) (l6 : Int32) (l7 : Int32)  (M : pt_M) (h1 : ¬ l3 ≤ l7) (h2 : ¬ (nI 10) ≤ l7) (h3 : pt_in l5 10) (h4 : pt_in l6 10) (h5 : pt_in l7 10) (h6 : u < 7) (h7 : pt_in (ix_F (pt_A M 23 0 (pt_nt l5)) (pt_A M 23 0 (pt_nt l6))) 100) (h8 : ¬ lf_P M u (pt_A M 23 0 (pt_nt l5)) (pt_A M 23 0 (pt_nt l6)) (pt_A M 23 0 (pt_nt l7))) (h9 : ¬ 0 = l4) (h10 : t < 7) (h11 : pu_P l5 l6 l7) :
    pt_Go YX4_takeTurns (32, [(0, pt_r 3 t), (1, pt_r 3 u), (2, pt_r 23 0), (3, pt_i l3), (4, pt_i l4), (5, pt_i l5), (6, pt_i l6), (7, pt_i l7)], [], M)
      (32, [(0, pt_r 3 t), (1, pt_r 3 u), (2, pt_r 23 0), (3, pt_i l3), (4, pt_i l4), (5, pt_i l5), (6, pt_i l6), (7, pt_i (l7 + 1))], [], (pu_F M t l5 l6 l7 1)) :=
  (pt_run_ok tX4_takeTurns_ok 31 [.inl false, .inl false, .inr (4, some (pt_i 0), M), .inl false, .inr (5, none, (pu_F M t l5 l6 l7 1))] (P := (¬ l3 ≤ l7) ∧ (¬ (nI 10) ≤ l7) ∧ (pt_in l5 10) ∧ (pt_in l6 10) ∧ (pt_in l7 10) ∧ pt_Cal YX4_takeTurns (.invokevirtual 56) [pt_r 3 u, pt_i (pt_A M 23 0 (pt_nt l5)), pt_i (pt_A M 23 0 (pt_nt l6)), pt_i (pt_A M 23 0 (pt_nt l7))] M (some (pt_i 0)) M ∧ (¬ 0 = l4) ∧ pt_Cal YX4_takeTurns (.invokevirtual 53) [pt_r 3 t, pt_i l5, pt_i l6, pt_i l7, pt_i 1] M none (pu_F M t l5 l6 l7 1) ∧ True) (by with_unfolding_all rfl) ⟨h1, h2, h3, h4, h5, (pt_callV (i := u) kX4_takeTurns_56 mX4_isLeft rfl h6 rfl (dX4_isLeft_0 h6 h7 h8)), h9, (pt_callV (i := t) kX4_takeTurns_53 mX4_put rfl h10 rfl (dX4_putP h10 h11)), trivial⟩ : pt_Go YX4_takeTurns _ (32, [(0, pt_r 3 t), (1, pt_r 3 u), (2, pt_r 23 0), (3, pt_i l3), (4, pt_i l4), (5, pt_i l5), (6, pt_i l6), (7, pt_i (l7 + 1)), (8, pt_i 0)], [], (pu_F M t l5 l6 l7 1))).tr (pt_pick [0, 1, 2, 3, 4, 5, 6, 7] (by with_unfolding_all rfl))
set_option maxRecDepth 100000 in
theorem gX4_takeTurns_32_4 (t : Nat) (u : Nat) (l3 : Int32) (l4 : Int32) (l5 : Int32) (l6 : Int32) (l7 : Int32)  (M : pt_M) (h1 : ¬ l3 ≤ l7) (h2 : ¬ (nI 10) ≤ l7) (h3 : pt_in l5 10) (h4 : pt_in l6 10) (h5 : pt_in l7 10) (h6 : u < 7) (h7 : pt_in (ix_F (pt_A M 23 0 (pt_nt l5)) (pt_A M 23 0 (pt_nt l6))) 100) (h8 : ¬ lf_P M u (pt_A M 23 0 (pt_nt l5)) (pt_A M 23 0 (pt_nt l6)) (pt_A M 23 0 (pt_nt l7))) (h9 : 0 = l4) (h10 : t < 7) (h11 : pu_P l5 l6 l7) :
    pt_Go YX4_takeTurns (32, [(0, pt_r 3 t), (1, pt_r 3 u), (2, pt_r 23 0), (3, pt_i l3), (4, pt_i l4), (5, pt_i l5), (6, pt_i l6), (7, pt_i l7)], [], M)
      (32, [(0, pt_r 3 t), (1, pt_r 3 u), (2, pt_r 23 0), (3, pt_i l3), (4, pt_i l4), (5, pt_i l5), (6, pt_i l6), (7, pt_i (l7 + 1))], [], (pu_F M t l5 l6 l7 0)) :=
  (pt_run_ok tX4_takeTurns_ok 30 [.inl false, .inl false, .inr (4, some (pt_i 0), M), .inl true, .inr (5, none, (pu_F M t l5 l6 l7 0))] (P := (¬ l3 ≤ l7) ∧ (¬ (nI 10) ≤ l7) ∧ (pt_in l5 10) ∧ (pt_in l6 10) ∧ (pt_in l7 10) ∧ pt_Cal YX4_takeTurns (.invokevirtual 56) [pt_r 3 u, pt_i (pt_A M 23 0 (pt_nt l5)), pt_i (pt_A M 23 0 (pt_nt l6)), pt_i (pt_A M 23 0 (pt_nt l7))] M (some (pt_i 0)) M ∧ (0 = l4) ∧ pt_Cal YX4_takeTurns (.invokevirtual 53) [pt_r 3 t, pt_i l5, pt_i l6, pt_i l7, pt_i 0] M none (pu_F M t l5 l6 l7 0) ∧ True) (by with_unfolding_all rfl) ⟨h1, h2, h3, h4, h5, (pt_callV (i := u) kX4_takeTurns_56 mX4_isLeft rfl h6 rfl (dX4_isLeft_0 h6 h7 h8)), h9, (pt_callV (i := t) kX4_takeTurns_53 mX4_put rfl h10 rfl (dX4_putP h10 h11)), trivial⟩ : pt_Go YX4_takeTurns _ (32, [(0, pt_r 3 t), (1, pt_r 3 u), (2, pt_r 23 0), (3, pt_i l3), (4, pt_i l4), (5, pt_i l5), (6, pt_i l6), (7, pt_i (l7 + 1)), (8, pt_i 0)], [], (pu_F M t l5 l6 l7 0))).tr (pt_pick [0, 1, 2, 3, 4, 5, 6, 7] (by with_unfolding_all rfl))
set_option maxRecDepth 100000 in
theorem gX4_takeTurns_32_5 (t : Nat) (u : Nat) (l3 : Int32) (l4 : Int32) (l5 : Int32) (l6 : Int32) (l7 : Int32)  (M : pt_M) (h1 : ¬ l3 ≤ l7) (h2 : (nI 10) ≤ l7) :
    pt_Go YX4_takeTurns (32, [(0, pt_r 3 t), (1, pt_r 3 u), (2, pt_r 23 0), (3, pt_i l3), (4, pt_i l4), (5, pt_i l5), (6, pt_i l6), (7, pt_i l7)], [], M)
      (20, [(0, pt_r 3 t), (1, pt_r 3 u), (2, pt_r 23 0), (3, pt_i l3), (4, pt_i l4), (5, pt_i l5), (6, pt_i (l6 + 1))], [], M) :=
  (pt_run_ok tX4_takeTurns_ok 9 [.inl false, .inl true] (P := (¬ l3 ≤ l7) ∧ ((nI 10) ≤ l7) ∧ True) (by with_unfolding_all rfl) ⟨h1, h2, trivial⟩ : pt_Go YX4_takeTurns _ (20, [(0, pt_r 3 t), (1, pt_r 3 u), (2, pt_r 23 0), (3, pt_i l3), (4, pt_i l4), (5, pt_i l5), (6, pt_i (l6 + 1)), (7, pt_i l7)], [], M)).tr (pt_pick [0, 1, 2, 3, 4, 5, 6] (by with_unfolding_all rfl))
set_option maxRecDepth 100000 in
theorem gX4_takeTurns_32_6 (t : Nat) (u : Nat) (l3 : Int32) (l4 : Int32) (l5 : Int32) (l6 : Int32) (l7 : Int32)  (M : pt_M) (h1 : l3 ≤ l7) :
    pt_Go YX4_takeTurns (32, [(0, pt_r 3 t), (1, pt_r 3 u), (2, pt_r 23 0), (3, pt_i l3), (4, pt_i l4), (5, pt_i l5), (6, pt_i l6), (7, pt_i l7)], [], M)
      (20, [(0, pt_r 3 t), (1, pt_r 3 u), (2, pt_r 23 0), (3, pt_i l3), (4, pt_i l4), (5, pt_i l5), (6, pt_i (l6 + 1))], [], M) :=
  (pt_run_ok tX4_takeTurns_ok 5 [.inl true] (P := (l3 ≤ l7) ∧ True) (by with_unfolding_all rfl) ⟨h1, trivial⟩ : pt_Go YX4_takeTurns _ (20, [(0, pt_r 3 t), (1, pt_r 3 u), (2, pt_r 23 0), (3, pt_i l3), (4, pt_i l4), (5, pt_i l5), (6, pt_i (l6 + 1)), (7, pt_i l7)], [], M)).tr (pt_pick [0, 1, 2, 3, 4, 5, 6] (by with_unfolding_all rfl))
theorem dX4_takeTurns {t u n : Nat} {mr : Bool} {M : pt_M} {B : Nat → Nat → Nat → Bool} {og : Nat → Nat} (ht : t < 7) (hu : u < 7) (htu : u ≠ t) (hn : n ≤ 10) (hB : ct_B M u B) (ho : ∀ i, i < n → pt_A M 23 0 i = nI (og i) ∧ og i < 10) : pt_Does yX4_takeTurns YX4_takeTurns [pt_r 3 t, pt_r 3 u, pt_r 23 0, pt_i (nI n), pt_i (pt_b mr)] M none (mt_F M t n fun i j k => B (og i) (og j) (og k) != mr) := by
  generalize hs : (fun i j k => B (og i) (og j) (og k) != mr) = s
  have h := pt_three (Y := YX4_takeTurns) (n := n)
    (fun i => (8, [(0, pt_r 3 t), (1, pt_r 3 u), (2, pt_r 23 0), (3, pt_i (nI n)), (4, pt_i (pt_b mr)), (5, pt_i (nI i))], [], tw_F (hd_F M t (nI n)) t (pb_q (pb_d n i (i + 1) (i + 2)) s)))
    (fun i j => (20, [(0, pt_r 3 t), (1, pt_r 3 u), (2, pt_r 23 0), (3, pt_i (nI n)), (4, pt_i (pt_b mr)), (5, pt_i (nI i)), (6, pt_i (nI j))], [], tw_F (hd_F M t (nI n)) t (pb_q (pb_d n i j (j + 1)) s)))
    (fun i j k => (32, [(0, pt_r 3 t), (1, pt_r 3 u), (2, pt_r 23 0), (3, pt_i (nI n)), (4, pt_i (pt_b mr)), (5, pt_i (nI i)), (6, pt_i (nI j)), (7, pt_i (nI k))], [], tw_F (hd_F M t (nI n)) t (pb_q (pb_d n i j k) s)))
    (fun i hi => (gX4_takeTurns_8_1 t u (nI n) (pt_b mr) (nI i) _ (nI_ge hi (by omega))).to (by rw [nI_1]))
    (fun i j hij hj => (gX4_takeTurns_20_1 t u (nI n) (pt_b mr) (nI i) (nI j) _ (nI_ge hj (by omega))).to (by rw [nI_1]))
    (fun i hi => (gX4_takeTurns_20_2 t u (nI n) (pt_b mr) (nI i) (nI n) _ (Int32.le_refl _)).to (by rw [nI_1, pb_d_i (Nat.le_refl n)]))
    (fun i j k hij hjk hk => by
      have hA : ∀ i, i < n → pt_A (tw_F (hd_F M t (nI n)) t (pb_q (pb_d n i j k) s)) 23 0 (pt_nt (nI i)) = nI (og i) := fun i hi => by
        rw [tw_A (by decide), pt_nt_nI (by omega)]
        exact (ho i hi).1
      have hA : ∀ B', ∀ i, i < n → pt_A (tw_F (hd_F M t (nI n)) t B') 23 0 (pt_nt (nI i)) = nI (og i) := fun B' i hi => by
        rw [tw_A (by decide), pt_nt_nI (by omega)]
        exact (ho i hi).1
      have h1 := hA (pb_q (pb_d n i j k) s) i (by omega)
      have h2 := hA (pb_q (pb_d n i j k) s) j (by omega)
      have h3 := hA (pb_q (pb_d n i j k) s) k (by omega)
      have hb : s i j k = (B (og i) (og j) (og k) != mr) := by rw [← hs]
      have hB' : ct_B (tw_F (hd_F M t (nI n)) t (pb_q (pb_d n i j k) s)) u B := fun a c ha hc => by
        rw [tw_U htu]
        exact hB a c ha hc
      have hl := lf_B hB' (ho i (by omega)).2 (ho j (by omega)).2 (ho k hk).2
      have hx := ix_in (ho i (by omega)).2 (ho j (by omega)).2
      have e5 := pt_in_nI (show i < 10 by omega) (by decide)
      have e6 := pt_in_nI (show j < 10 by omega) (by decide)
      have e7 := pt_in_nI (show k < 10 by omega) (by decide)
      have e8 : pu_P (nI i) (nI j) (nI k) := pu_nI (by omega) (by omega) (by omega)
      cases hv : B (og i) (og j) (og k) <;> rw [hv] at hb hl <;> cases mr
      · refine (gX4_takeTurns_32_4 t u (nI n) _ (nI i) (nI j) (nI k) _ (nI_ge hk (by omega)) (nI_ge (by omega) (by decide)) e5 e6 e7 hu (by rw [h1, h2]; exact hx) (by rw [h1, h2, h3]; exact fun z => by cases hl.mp z) rfl ht e8).to ?_
        rw [nI_1, show pu_F (tw_F (hd_F M t (nI n)) t (pb_q (pb_d n i j k) s)) t (nI i) (nI j) (nI k) 0 = pu_F (tw_F (hd_F M t (nI n)) t (pb_q (pb_d n i j k) s)) t (nI i) (nI j) (nI k) (pt_b (s i j k)) by rw [hb]; rfl, pu_tw _ (by omega) (by omega) (by omega), pb_d_k hk s hij hjk] <;> rfl
      · refine (gX4_takeTurns_32_3 t u (nI n) _ (nI i) (nI j) (nI k) _ (nI_ge hk (by omega)) (nI_ge (by omega) (by decide)) e5 e6 e7 hu (by rw [h1, h2]; exact hx) (by rw [h1, h2, h3]; exact fun z => by cases hl.mp z) (by decide) ht e8).to ?_
        rw [nI_1, show pu_F (tw_F (hd_F M t (nI n)) t (pb_q (pb_d n i j k) s)) t (nI i) (nI j) (nI k) 1 = pu_F (tw_F (hd_F M t (nI n)) t (pb_q (pb_d n i j k) s)) t (nI i) (nI j) (nI k) (pt_b (s i j k)) by rw [hb]; rfl, pu_tw _ (by omega) (by omega) (by omega), pb_d_k hk s hij hjk] <;> rfl
      · refine (gX4_takeTurns_32_1 t u (nI n) _ (nI i) (nI j) (nI k) _ (nI_ge hk (by omega)) (nI_ge (by omega) (by decide)) e5 e6 e7 hu (by rw [h1, h2]; exact hx) (by rw [h1, h2, h3]; exact hl.mpr rfl) (by decide) ht e8).to ?_
        rw [nI_1, show pu_F (tw_F (hd_F M t (nI n)) t (pb_q (pb_d n i j k) s)) t (nI i) (nI j) (nI k) 1 = pu_F (tw_F (hd_F M t (nI n)) t (pb_q (pb_d n i j k) s)) t (nI i) (nI j) (nI k) (pt_b (s i j k)) by rw [hb]; rfl, pu_tw _ (by omega) (by omega) (by omega), pb_d_k hk s hij hjk] <;> rfl
      · refine (gX4_takeTurns_32_2 t u (nI n) _ (nI i) (nI j) (nI k) _ (nI_ge hk (by omega)) (nI_ge (by omega) (by decide)) e5 e6 e7 hu (by rw [h1, h2]; exact hx) (by rw [h1, h2, h3]; exact hl.mpr rfl) rfl ht e8).to ?_
        rw [nI_1, show pu_F (tw_F (hd_F M t (nI n)) t (pb_q (pb_d n i j k) s)) t (nI i) (nI j) (nI k) 0 = pu_F (tw_F (hd_F M t (nI n)) t (pb_q (pb_d n i j k) s)) t (nI i) (nI j) (nI k) (pt_b (s i j k)) by rw [hb]; rfl, pu_tw _ (by omega) (by omega) (by omega), pb_d_k hk s hij hjk] <;> rfl)
    (fun i j hij hj => (gX4_takeTurns_32_6 t u (nI n) (pt_b mr) (nI i) (nI j) (nI n) _ (Int32.le_refl _)).to (by rw [nI_1, pb_d_j]))
  refine rX4_takeTurns_103 (Nat.le_of_ble_eq_true rfl) rfl (((gX4_takeTurns_0_1 t u (nI n) (pt_b mr) M ht).to ?_).tr (h.tr ((gX4_takeTurns_8_2 t u (nI n) (pt_b mr) (nI n) _ (Int32.le_refl _)).toM ?_)))
  · rw [bg_tw, ← pb_d_0 s]
    rfl
  · unfold mt_F
    rw [pb_d_n]
end
section
/-! Laws: FOUR and FIVE -/
def lb_F (M : pt_M) (t : Nat) (i j k : Int32) : Int32 := if (((pt_A M 11 t (pt_nt ((i * 10) + j))) >>> (k &&& 31)) &&& 1) = 1 then 1 else 0
theorem p10_ix {x y : Int32} (hx : pt_in x 10) (hy : pt_in y 10) : pt_in (ix_F x y) 100 := by
  obtain ⟨i, hi, rfl⟩ := vp_in_of (pt_in_vp hx) (by decide)
  obtain ⟨j, hj, rfl⟩ := vp_in_of (pt_in_vp hy) (by decide)
  exact ix_in hi hj
theorem dX4_isLeft_v {t : Nat} {i j k : Int32} {M : pt_M} (ht : t < 7) (hi : pt_in i 10) (hj : pt_in j 10) : pt_Does yX4_isLeft YX4_isLeft [pt_r 3 t, pt_i i, pt_i j, pt_i k] M (some (pt_i (lb_F M t i j k))) M := by
  unfold lb_F
  by_cases h : (((pt_A M 11 t (pt_nt ((i * 10) + j))) >>> (k &&& 31)) &&& 1) = 1
  · rw [if_pos h]
    exact dX4_isLeft_1 ht (p10_ix hi hj) h
  · rw [if_neg h]
    exact dX4_isLeft_0 ht (p10_ix hi hj) h
theorem dX4_leftOf_v {t : Nat} {i j : Int32} {M : pt_M} (ht : t < 7) (hi : pt_in i 10) (hj : pt_in j 10) : pt_Does yX4_leftOf YX4_leftOf [pt_r 3 t, pt_i i, pt_i j] M (some (pt_i (lo_F M t i j))) M := dX4_leftOf ht (p10_ix hi hj)
theorem lb_B {M : pt_M} {u a c d : Nat} {B : Nat → Nat → Nat → Bool} (hB : ct_B M u B) (ha : a < 10) (hc : c < 10) (hd : d < 10) : lb_F M u (nI a) (nI c) (nI d) = pt_b (B a c d) := by
  have h := lf_B hB ha hc hd
  unfold lf_P at h
  unfold lb_F
  cases hb : B a c d
  · rw [if_neg (fun z => by rw [hb] at h; cases h.mp z)]
    rfl
  · rw [if_pos (h.mpr hb)]
    rfl
theorem pt_b_eq (a b : Bool) : pt_b a = pt_b b ↔ a = b := by cases a <;> cases b <;> decide
def bf_P (M : pt_M) (t : Nat) (a b c d : Int32) : Prop := ¬ (lb_F M t a b d) = (lb_F M t a b c) ∧ (lb_F M t a c d) = (lb_F M t a b c) ∧ ¬ (lb_F M t b c d) = (lb_F M t a b c)
def os_P (M : pt_M) (t : Nat) (a b c d e : Int32) : Prop := ((lb_F M t a b c) = (lb_F M t a d e) ↔ ¬ (lb_F M t a b d) = (lb_F M t a c e)) ∧ ((lb_F M t a b c) = (lb_F M t a d e) ↔ (lb_F M t a b e) = (lb_F M t a c d))
def bv_P (M : pt_M) (t : Nat) (a b c d e : Int32) : Prop := os_P M t a b c d e ∨ os_P M t b a c d e ∨ os_P M t c a b d e ∨ os_P M t d a b c e ∨ os_P M t e a b c d
theorem rX1_breaksFour_53 {vs : List pt_V} {M M' : pt_M} {x : Int32} {L : List (Nat × pt_V)} (hn : narrow .boolean (.int x) = .int x) (hvs : (vs.map pt_w).sum ≤ 6) (hX : M'.2.2.2.2 = M.2.2.2.2) (h : pt_Go YX1_breaksFour (0, pt_en 0 vs, [], M) (53, L, [pt_i x], M')) : pt_Does yX1_breaksFour YX1_breaksFour vs M (some (pt_i x)) M' := pt_does_go tX1_breaksFour_ok nX1_breaksFour hvs hX ⟨_, by with_unfolding_all rfl, rfl, _, rfl, hn⟩ h
set_option maxRecDepth 100000 in
theorem gX1_breaksFour_0_1 (t : Nat) (x2 : Int32) (x3 : Int32) (x4 : Int32) (x5 : Int32)  (M : pt_M) (h1 : t < 7) (h2 : pt_in x2 10) (h3 : pt_in x3 10) (h4 : ¬ (lb_F M t x2 x3 x5) = (lb_F M t x2 x3 x4)) (h5 : pt_in x4 10) (h6 : (lb_F M t x2 x4 x5) = (lb_F M t x2 x3 x4)) (h7 : ¬ (lb_F M t x3 x4 x5) = (lb_F M t x2 x3 x4)) :
    pt_Go YX1_breaksFour (0, [(0, pt_r 3 t), (1, pt_i x2), (2, pt_i x3), (3, pt_i x4), (4, pt_i x5)], [], M)
      (53, [(0, pt_r 3 t), (1, pt_i x2), (2, pt_i x3), (3, pt_i x4), (4, pt_i x5), (5, pt_i (lb_F M t x2 x3 x4))], [pt_i 1], M) :=
  pt_run_ok tX1_breaksFour_ok 29 [.inr (4, some (pt_i (lb_F M t x2 x3 x4)), M), .inr (4, some (pt_i (lb_F M t x2 x3 x5)), M), .inl false, .inr (4, some (pt_i (lb_F M t x2 x4 x5)), M), .inl false, .inr (4, some (pt_i (lb_F M t x3 x4 x5)), M), .inl false] (P := pt_Cal YX1_breaksFour (.invokevirtual 29) [pt_r 3 t, pt_i x2, pt_i x3, pt_i x4] M (some (pt_i (lb_F M t x2 x3 x4))) M ∧ pt_Cal YX1_breaksFour (.invokevirtual 29) [pt_r 3 t, pt_i x2, pt_i x3, pt_i x5] M (some (pt_i (lb_F M t x2 x3 x5))) M ∧ (¬ (lb_F M t x2 x3 x5) = (lb_F M t x2 x3 x4)) ∧ pt_Cal YX1_breaksFour (.invokevirtual 29) [pt_r 3 t, pt_i x2, pt_i x4, pt_i x5] M (some (pt_i (lb_F M t x2 x4 x5))) M ∧ ((lb_F M t x2 x4 x5) = (lb_F M t x2 x3 x4)) ∧ pt_Cal YX1_breaksFour (.invokevirtual 29) [pt_r 3 t, pt_i x3, pt_i x4, pt_i x5] M (some (pt_i (lb_F M t x3 x4 x5))) M ∧ (¬ (lb_F M t x3 x4 x5) = (lb_F M t x2 x3 x4)) ∧ True) (by with_unfolding_all rfl) ⟨(pt_callV (i := t) kX1_breaksFour_29 mX4_isLeft rfl h1 rfl (dX4_isLeft_v h1 h2 h3)), (pt_callV (i := t) kX1_breaksFour_29 mX4_isLeft rfl h1 rfl (dX4_isLeft_v h1 h2 h3)), h4, (pt_callV (i := t) kX1_breaksFour_29 mX4_isLeft rfl h1 rfl (dX4_isLeft_v h1 h2 h5)), h6, (pt_callV (i := t) kX1_breaksFour_29 mX4_isLeft rfl h1 rfl (dX4_isLeft_v h1 h3 h5)), h7, trivial⟩
set_option maxRecDepth 100000 in
theorem gX1_breaksFour_0_2 (t : Nat) (x2 : Int32) (x3 : Int32) (x4 : Int32) (x5 : Int32)  (M : pt_M) (h1 : t < 7) (h2 : pt_in x2 10) (h3 : pt_in x3 10) (h4 : ¬ (lb_F M t x2 x3 x5) = (lb_F M t x2 x3 x4)) (h5 : pt_in x4 10) (h6 : (lb_F M t x2 x4 x5) = (lb_F M t x2 x3 x4)) (h7 : (lb_F M t x3 x4 x5) = (lb_F M t x2 x3 x4)) :
    pt_Go YX1_breaksFour (0, [(0, pt_r 3 t), (1, pt_i x2), (2, pt_i x3), (3, pt_i x4), (4, pt_i x5)], [], M)
      (53, [(0, pt_r 3 t), (1, pt_i x2), (2, pt_i x3), (3, pt_i x4), (4, pt_i x5), (5, pt_i (lb_F M t x2 x3 x4))], [pt_i 0], M) :=
  pt_run_ok tX1_breaksFour_ok 28 [.inr (4, some (pt_i (lb_F M t x2 x3 x4)), M), .inr (4, some (pt_i (lb_F M t x2 x3 x5)), M), .inl false, .inr (4, some (pt_i (lb_F M t x2 x4 x5)), M), .inl false, .inr (4, some (pt_i (lb_F M t x3 x4 x5)), M), .inl true] (P := pt_Cal YX1_breaksFour (.invokevirtual 29) [pt_r 3 t, pt_i x2, pt_i x3, pt_i x4] M (some (pt_i (lb_F M t x2 x3 x4))) M ∧ pt_Cal YX1_breaksFour (.invokevirtual 29) [pt_r 3 t, pt_i x2, pt_i x3, pt_i x5] M (some (pt_i (lb_F M t x2 x3 x5))) M ∧ (¬ (lb_F M t x2 x3 x5) = (lb_F M t x2 x3 x4)) ∧ pt_Cal YX1_breaksFour (.invokevirtual 29) [pt_r 3 t, pt_i x2, pt_i x4, pt_i x5] M (some (pt_i (lb_F M t x2 x4 x5))) M ∧ ((lb_F M t x2 x4 x5) = (lb_F M t x2 x3 x4)) ∧ pt_Cal YX1_breaksFour (.invokevirtual 29) [pt_r 3 t, pt_i x3, pt_i x4, pt_i x5] M (some (pt_i (lb_F M t x3 x4 x5))) M ∧ ((lb_F M t x3 x4 x5) = (lb_F M t x2 x3 x4)) ∧ True) (by with_unfolding_all rfl) ⟨(pt_callV (i := t) kX1_breaksFour_29 mX4_isLeft rfl h1 rfl (dX4_isLeft_v h1 h2 h3)), (pt_callV (i := t) kX1_breaksFour_29 mX4_isLeft rfl h1 rfl (dX4_isLeft_v h1 h2 h3)), h4, (pt_callV (i := t) kX1_breaksFour_29 mX4_isLeft rfl h1 rfl (dX4_isLeft_v h1 h2 h5)), h6, (pt_callV (i := t) kX1_breaksFour_29 mX4_isLeft rfl h1 rfl (dX4_isLeft_v h1 h3 h5)), h7, trivial⟩
set_option maxRecDepth 100000 in
theorem gX1_breaksFour_0_3 (t : Nat) (x2 : Int32) (x3 : Int32) (x4 : Int32) (x5 : Int32)  (M : pt_M) (h1 : t < 7) (h2 : pt_in x2 10) (h3 : pt_in x3 10) (h4 : ¬ (lb_F M t x2 x3 x5) = (lb_F M t x2 x3 x4)) (h5 : pt_in x4 10) (h6 : ¬ (lb_F M t x2 x4 x5) = (lb_F M t x2 x3 x4)) :
    pt_Go YX1_breaksFour (0, [(0, pt_r 3 t), (1, pt_i x2), (2, pt_i x3), (3, pt_i x4), (4, pt_i x5)], [], M)
      (53, [(0, pt_r 3 t), (1, pt_i x2), (2, pt_i x3), (3, pt_i x4), (4, pt_i x5), (5, pt_i (lb_F M t x2 x3 x4))], [pt_i 0], M) :=
  pt_run_ok tX1_breaksFour_ok 21 [.inr (4, some (pt_i (lb_F M t x2 x3 x4)), M), .inr (4, some (pt_i (lb_F M t x2 x3 x5)), M), .inl false, .inr (4, some (pt_i (lb_F M t x2 x4 x5)), M), .inl true] (P := pt_Cal YX1_breaksFour (.invokevirtual 29) [pt_r 3 t, pt_i x2, pt_i x3, pt_i x4] M (some (pt_i (lb_F M t x2 x3 x4))) M ∧ pt_Cal YX1_breaksFour (.invokevirtual 29) [pt_r 3 t, pt_i x2, pt_i x3, pt_i x5] M (some (pt_i (lb_F M t x2 x3 x5))) M ∧ (¬ (lb_F M t x2 x3 x5) = (lb_F M t x2 x3 x4)) ∧ pt_Cal YX1_breaksFour (.invokevirtual 29) [pt_r 3 t, pt_i x2, pt_i x4, pt_i x5] M (some (pt_i (lb_F M t x2 x4 x5))) M ∧ (¬ (lb_F M t x2 x4 x5) = (lb_F M t x2 x3 x4)) ∧ True) (by with_unfolding_all rfl) ⟨(pt_callV (i := t) kX1_breaksFour_29 mX4_isLeft rfl h1 rfl (dX4_isLeft_v h1 h2 h3)), (pt_callV (i := t) kX1_breaksFour_29 mX4_isLeft rfl h1 rfl (dX4_isLeft_v h1 h2 h3)), h4, (pt_callV (i := t) kX1_breaksFour_29 mX4_isLeft rfl h1 rfl (dX4_isLeft_v h1 h2 h5)), h6, trivial⟩
set_option maxRecDepth 100000 in
theorem gX1_breaksFour_0_4 (t : Nat) (x2 : Int32) (x3 : Int32) (x4 : Int32) (x5 : Int32)  (M : pt_M) (h1 : t < 7) (h2 : pt_in x2 10) (h3 : pt_in x3 10) (h4 : (lb_F M t x2 x3 x5) = (lb_F M t x2 x3 x4)) :
    pt_Go YX1_breaksFour (0, [(0, pt_r 3 t), (1, pt_i x2), (2, pt_i x3), (3, pt_i x4), (4, pt_i x5)], [], M)
      (53, [(0, pt_r 3 t), (1, pt_i x2), (2, pt_i x3), (3, pt_i x4), (4, pt_i x5), (5, pt_i (lb_F M t x2 x3 x4))], [pt_i 0], M) :=
  pt_run_ok tX1_breaksFour_ok 14 [.inr (4, some (pt_i (lb_F M t x2 x3 x4)), M), .inr (4, some (pt_i (lb_F M t x2 x3 x5)), M), .inl true] (P := pt_Cal YX1_breaksFour (.invokevirtual 29) [pt_r 3 t, pt_i x2, pt_i x3, pt_i x4] M (some (pt_i (lb_F M t x2 x3 x4))) M ∧ pt_Cal YX1_breaksFour (.invokevirtual 29) [pt_r 3 t, pt_i x2, pt_i x3, pt_i x5] M (some (pt_i (lb_F M t x2 x3 x5))) M ∧ ((lb_F M t x2 x3 x5) = (lb_F M t x2 x3 x4)) ∧ True) (by with_unfolding_all rfl) ⟨(pt_callV (i := t) kX1_breaksFour_29 mX4_isLeft rfl h1 rfl (dX4_isLeft_v h1 h2 h3)), (pt_callV (i := t) kX1_breaksFour_29 mX4_isLeft rfl h1 rfl (dX4_isLeft_v h1 h2 h3)), h4, trivial⟩
theorem dX1_breaksFour_1 {t : Nat} {a b c d : Int32} {M : pt_M} (ht : t < 7) (h1 : pt_in a 10) (h2 : pt_in b 10) (h3 : pt_in c 10) (h : bf_P M t a b c d) : pt_Does yX1_breaksFour YX1_breaksFour [pt_r 3 t, pt_i a, pt_i b, pt_i c, pt_i d] M (some (pt_i 1)) M :=
  rX1_breaksFour_53 rfl (Nat.le_of_ble_eq_true rfl) rfl (gX1_breaksFour_0_1 t a b c d M ht h1 h2 h.1 h3 h.2.1 h.2.2)
theorem dX1_breaksFour_0 {t : Nat} {a b c d : Int32} {M : pt_M} (ht : t < 7) (h1 : pt_in a 10) (h2 : pt_in b 10) (h3 : pt_in c 10) (h : ¬ bf_P M t a b c d) : pt_Does yX1_breaksFour YX1_breaksFour [pt_r 3 t, pt_i a, pt_i b, pt_i c, pt_i d] M (some (pt_i 0)) M := by
  by_cases k1 : (lb_F M t a b d) = (lb_F M t a b c)
  · exact rX1_breaksFour_53 rfl (Nat.le_of_ble_eq_true rfl) rfl (gX1_breaksFour_0_4 t a b c d M ht h1 h2 k1)
  · by_cases k2 : (lb_F M t a c d) = (lb_F M t a b c)
    · by_cases k3 : (lb_F M t b c d) = (lb_F M t a b c)
      · exact rX1_breaksFour_53 rfl (Nat.le_of_ble_eq_true rfl) rfl (gX1_breaksFour_0_2 t a b c d M ht h1 h2 k1 h3 k2 k3)
      · exact absurd ⟨k1, k2, k3⟩ h
    · exact rX1_breaksFour_53 rfl (Nat.le_of_ble_eq_true rfl) rfl (gX1_breaksFour_0_3 t a b c d M ht h1 h2 k1 h3 k2)
theorem rX1_isOneSided_93 {vs : List pt_V} {M M' : pt_M} {x : Int32} {L : List (Nat × pt_V)} (hn : narrow .boolean (.int x) = .int x) (hvs : (vs.map pt_w).sum ≤ 8) (hX : M'.2.2.2.2 = M.2.2.2.2) (h : pt_Go YX1_isOneSided (0, pt_en 0 vs, [], M) (93, L, [pt_i x], M')) : pt_Does yX1_isOneSided YX1_isOneSided vs M (some (pt_i x)) M' := pt_does_go tX1_isOneSided_ok nX1_isOneSided hvs hX ⟨_, by with_unfolding_all rfl, rfl, _, rfl, hn⟩ h
set_option maxRecDepth 100000 in
theorem gX1_isOneSided_0_1 (t : Nat) (x2 : Int32) (x3 : Int32) (x4 : Int32) (x5 : Int32) (x6 : Int32)  (M : pt_M) (h1 : t < 7) (h2 : pt_in x2 10) (h3 : pt_in x3 10) (h4 : pt_in x5 10) (h5 : (lb_F M t x2 x3 x4) = (lb_F M t x2 x5 x6)) (h6 : pt_in x4 10) (h7 : ¬ (lb_F M t x2 x3 x5) = (lb_F M t x2 x4 x6)) (h8 : (lb_F M t x2 x3 x6) = (lb_F M t x2 x4 x5)) :
    pt_Go YX1_isOneSided (0, [(0, pt_r 3 t), (1, pt_i x2), (2, pt_i x3), (3, pt_i x4), (4, pt_i x5), (5, pt_i x6)], [], M)
      (93, [(0, pt_r 3 t), (1, pt_i x2), (2, pt_i x3), (3, pt_i x4), (4, pt_i x5), (5, pt_i x6), (6, pt_i 1), (7, pt_i 1)], [pt_i 1], M) :=
  pt_run_ok tX1_isOneSided_ok 48 [.inr (4, some (pt_i (lb_F M t x2 x3 x4)), M), .inr (4, some (pt_i (lb_F M t x2 x5 x6)), M), .inl false, .inr (4, some (pt_i (lb_F M t x2 x3 x5)), M), .inr (4, some (pt_i (lb_F M t x2 x4 x6)), M), .inl false, .inl false, .inr (4, some (pt_i (lb_F M t x2 x3 x6)), M), .inr (4, some (pt_i (lb_F M t x2 x4 x5)), M), .inl false, .inl false] (P := pt_Cal YX1_isOneSided (.invokevirtual 29) [pt_r 3 t, pt_i x2, pt_i x3, pt_i x4] M (some (pt_i (lb_F M t x2 x3 x4))) M ∧ pt_Cal YX1_isOneSided (.invokevirtual 29) [pt_r 3 t, pt_i x2, pt_i x5, pt_i x6] M (some (pt_i (lb_F M t x2 x5 x6))) M ∧ ((lb_F M t x2 x3 x4) = (lb_F M t x2 x5 x6)) ∧ pt_Cal YX1_isOneSided (.invokevirtual 29) [pt_r 3 t, pt_i x2, pt_i x3, pt_i x5] M (some (pt_i (lb_F M t x2 x3 x5))) M ∧ pt_Cal YX1_isOneSided (.invokevirtual 29) [pt_r 3 t, pt_i x2, pt_i x4, pt_i x6] M (some (pt_i (lb_F M t x2 x4 x6))) M ∧ (¬ (lb_F M t x2 x3 x5) = (lb_F M t x2 x4 x6)) ∧ ((1 : Int32) = (1 : Int32)) ∧ pt_Cal YX1_isOneSided (.invokevirtual 29) [pt_r 3 t, pt_i x2, pt_i x3, pt_i x6] M (some (pt_i (lb_F M t x2 x3 x6))) M ∧ pt_Cal YX1_isOneSided (.invokevirtual 29) [pt_r 3 t, pt_i x2, pt_i x4, pt_i x5] M (some (pt_i (lb_F M t x2 x4 x5))) M ∧ ((lb_F M t x2 x3 x6) = (lb_F M t x2 x4 x5)) ∧ ((1 : Int32) = (1 : Int32)) ∧ True) (by with_unfolding_all rfl) ⟨(pt_callV (i := t) kX1_isOneSided_29 mX4_isLeft rfl h1 rfl (dX4_isLeft_v h1 h2 h3)), (pt_callV (i := t) kX1_isOneSided_29 mX4_isLeft rfl h1 rfl (dX4_isLeft_v h1 h2 h4)), h5, (pt_callV (i := t) kX1_isOneSided_29 mX4_isLeft rfl h1 rfl (dX4_isLeft_v h1 h2 h3)), (pt_callV (i := t) kX1_isOneSided_29 mX4_isLeft rfl h1 rfl (dX4_isLeft_v h1 h2 h6)), h7, (by decide), (pt_callV (i := t) kX1_isOneSided_29 mX4_isLeft rfl h1 rfl (dX4_isLeft_v h1 h2 h3)), (pt_callV (i := t) kX1_isOneSided_29 mX4_isLeft rfl h1 rfl (dX4_isLeft_v h1 h2 h6)), h8, (by decide), trivial⟩
set_option maxRecDepth 100000 in
theorem gX1_isOneSided_0_2 (t : Nat) (x2 : Int32) (x3 : Int32) (x4 : Int32) (x5 : Int32) (x6 : Int32)  (M : pt_M) (h1 : t < 7) (h2 : pt_in x2 10) (h3 : pt_in x3 10) (h4 : pt_in x5 10) (h5 : (lb_F M t x2 x3 x4) = (lb_F M t x2 x5 x6)) (h6 : pt_in x4 10) (h7 : ¬ (lb_F M t x2 x3 x5) = (lb_F M t x2 x4 x6)) (h8 : ¬ (lb_F M t x2 x3 x6) = (lb_F M t x2 x4 x5)) :
    pt_Go YX1_isOneSided (0, [(0, pt_r 3 t), (1, pt_i x2), (2, pt_i x3), (3, pt_i x4), (4, pt_i x5), (5, pt_i x6)], [], M)
      (93, [(0, pt_r 3 t), (1, pt_i x2), (2, pt_i x3), (3, pt_i x4), (4, pt_i x5), (5, pt_i x6), (6, pt_i 1), (7, pt_i 1)], [pt_i 0], M) :=
  pt_run_ok tX1_isOneSided_ok 46 [.inr (4, some (pt_i (lb_F M t x2 x3 x4)), M), .inr (4, some (pt_i (lb_F M t x2 x5 x6)), M), .inl false, .inr (4, some (pt_i (lb_F M t x2 x3 x5)), M), .inr (4, some (pt_i (lb_F M t x2 x4 x6)), M), .inl false, .inl false, .inr (4, some (pt_i (lb_F M t x2 x3 x6)), M), .inr (4, some (pt_i (lb_F M t x2 x4 x5)), M), .inl true, .inl true] (P := pt_Cal YX1_isOneSided (.invokevirtual 29) [pt_r 3 t, pt_i x2, pt_i x3, pt_i x4] M (some (pt_i (lb_F M t x2 x3 x4))) M ∧ pt_Cal YX1_isOneSided (.invokevirtual 29) [pt_r 3 t, pt_i x2, pt_i x5, pt_i x6] M (some (pt_i (lb_F M t x2 x5 x6))) M ∧ ((lb_F M t x2 x3 x4) = (lb_F M t x2 x5 x6)) ∧ pt_Cal YX1_isOneSided (.invokevirtual 29) [pt_r 3 t, pt_i x2, pt_i x3, pt_i x5] M (some (pt_i (lb_F M t x2 x3 x5))) M ∧ pt_Cal YX1_isOneSided (.invokevirtual 29) [pt_r 3 t, pt_i x2, pt_i x4, pt_i x6] M (some (pt_i (lb_F M t x2 x4 x6))) M ∧ (¬ (lb_F M t x2 x3 x5) = (lb_F M t x2 x4 x6)) ∧ ((1 : Int32) = (1 : Int32)) ∧ pt_Cal YX1_isOneSided (.invokevirtual 29) [pt_r 3 t, pt_i x2, pt_i x3, pt_i x6] M (some (pt_i (lb_F M t x2 x3 x6))) M ∧ pt_Cal YX1_isOneSided (.invokevirtual 29) [pt_r 3 t, pt_i x2, pt_i x4, pt_i x5] M (some (pt_i (lb_F M t x2 x4 x5))) M ∧ (¬ (lb_F M t x2 x3 x6) = (lb_F M t x2 x4 x5)) ∧ (¬ (1 : Int32) = (0 : Int32)) ∧ True) (by with_unfolding_all rfl) ⟨(pt_callV (i := t) kX1_isOneSided_29 mX4_isLeft rfl h1 rfl (dX4_isLeft_v h1 h2 h3)), (pt_callV (i := t) kX1_isOneSided_29 mX4_isLeft rfl h1 rfl (dX4_isLeft_v h1 h2 h4)), h5, (pt_callV (i := t) kX1_isOneSided_29 mX4_isLeft rfl h1 rfl (dX4_isLeft_v h1 h2 h3)), (pt_callV (i := t) kX1_isOneSided_29 mX4_isLeft rfl h1 rfl (dX4_isLeft_v h1 h2 h6)), h7, (by decide), (pt_callV (i := t) kX1_isOneSided_29 mX4_isLeft rfl h1 rfl (dX4_isLeft_v h1 h2 h3)), (pt_callV (i := t) kX1_isOneSided_29 mX4_isLeft rfl h1 rfl (dX4_isLeft_v h1 h2 h6)), h8, (by decide), trivial⟩
set_option maxRecDepth 100000 in
theorem gX1_isOneSided_0_3 (t : Nat) (x2 : Int32) (x3 : Int32) (x4 : Int32) (x5 : Int32) (x6 : Int32)  (M : pt_M) (h1 : t < 7) (h2 : pt_in x2 10) (h3 : pt_in x3 10) (h4 : pt_in x5 10) (h5 : (lb_F M t x2 x3 x4) = (lb_F M t x2 x5 x6)) (h6 : pt_in x4 10) (h7 : (lb_F M t x2 x3 x5) = (lb_F M t x2 x4 x6)) :
    pt_Go YX1_isOneSided (0, [(0, pt_r 3 t), (1, pt_i x2), (2, pt_i x3), (3, pt_i x4), (4, pt_i x5), (5, pt_i x6)], [], M)
      (93, [(0, pt_r 3 t), (1, pt_i x2), (2, pt_i x3), (3, pt_i x4), (4, pt_i x5), (5, pt_i x6), (6, pt_i 1), (7, pt_i 0)], [pt_i 0], M) :=
  pt_run_ok tX1_isOneSided_ok 31 [.inr (4, some (pt_i (lb_F M t x2 x3 x4)), M), .inr (4, some (pt_i (lb_F M t x2 x5 x6)), M), .inl false, .inr (4, some (pt_i (lb_F M t x2 x3 x5)), M), .inr (4, some (pt_i (lb_F M t x2 x4 x6)), M), .inl true, .inl true] (P := pt_Cal YX1_isOneSided (.invokevirtual 29) [pt_r 3 t, pt_i x2, pt_i x3, pt_i x4] M (some (pt_i (lb_F M t x2 x3 x4))) M ∧ pt_Cal YX1_isOneSided (.invokevirtual 29) [pt_r 3 t, pt_i x2, pt_i x5, pt_i x6] M (some (pt_i (lb_F M t x2 x5 x6))) M ∧ ((lb_F M t x2 x3 x4) = (lb_F M t x2 x5 x6)) ∧ pt_Cal YX1_isOneSided (.invokevirtual 29) [pt_r 3 t, pt_i x2, pt_i x3, pt_i x5] M (some (pt_i (lb_F M t x2 x3 x5))) M ∧ pt_Cal YX1_isOneSided (.invokevirtual 29) [pt_r 3 t, pt_i x2, pt_i x4, pt_i x6] M (some (pt_i (lb_F M t x2 x4 x6))) M ∧ ((lb_F M t x2 x3 x5) = (lb_F M t x2 x4 x6)) ∧ (¬ (1 : Int32) = (0 : Int32)) ∧ True) (by with_unfolding_all rfl) ⟨(pt_callV (i := t) kX1_isOneSided_29 mX4_isLeft rfl h1 rfl (dX4_isLeft_v h1 h2 h3)), (pt_callV (i := t) kX1_isOneSided_29 mX4_isLeft rfl h1 rfl (dX4_isLeft_v h1 h2 h4)), h5, (pt_callV (i := t) kX1_isOneSided_29 mX4_isLeft rfl h1 rfl (dX4_isLeft_v h1 h2 h3)), (pt_callV (i := t) kX1_isOneSided_29 mX4_isLeft rfl h1 rfl (dX4_isLeft_v h1 h2 h6)), h7, (by decide), trivial⟩
set_option maxRecDepth 100000 in
theorem gX1_isOneSided_0_4 (t : Nat) (x2 : Int32) (x3 : Int32) (x4 : Int32) (x5 : Int32) (x6 : Int32)  (M : pt_M) (h1 : t < 7) (h2 : pt_in x2 10) (h3 : pt_in x3 10) (h4 : pt_in x5 10) (h5 : ¬ (lb_F M t x2 x3 x4) = (lb_F M t x2 x5 x6)) (h6 : pt_in x4 10) (h7 : ¬ (lb_F M t x2 x3 x5) = (lb_F M t x2 x4 x6)) :
    pt_Go YX1_isOneSided (0, [(0, pt_r 3 t), (1, pt_i x2), (2, pt_i x3), (3, pt_i x4), (4, pt_i x5), (5, pt_i x6)], [], M)
      (93, [(0, pt_r 3 t), (1, pt_i x2), (2, pt_i x3), (3, pt_i x4), (4, pt_i x5), (5, pt_i x6), (6, pt_i 0), (7, pt_i 1)], [pt_i 0], M) :=
  pt_run_ok tX1_isOneSided_ok 31 [.inr (4, some (pt_i (lb_F M t x2 x3 x4)), M), .inr (4, some (pt_i (lb_F M t x2 x5 x6)), M), .inl true, .inr (4, some (pt_i (lb_F M t x2 x3 x5)), M), .inr (4, some (pt_i (lb_F M t x2 x4 x6)), M), .inl false, .inl true] (P := pt_Cal YX1_isOneSided (.invokevirtual 29) [pt_r 3 t, pt_i x2, pt_i x3, pt_i x4] M (some (pt_i (lb_F M t x2 x3 x4))) M ∧ pt_Cal YX1_isOneSided (.invokevirtual 29) [pt_r 3 t, pt_i x2, pt_i x5, pt_i x6] M (some (pt_i (lb_F M t x2 x5 x6))) M ∧ (¬ (lb_F M t x2 x3 x4) = (lb_F M t x2 x5 x6)) ∧ pt_Cal YX1_isOneSided (.invokevirtual 29) [pt_r 3 t, pt_i x2, pt_i x3, pt_i x5] M (some (pt_i (lb_F M t x2 x3 x5))) M ∧ pt_Cal YX1_isOneSided (.invokevirtual 29) [pt_r 3 t, pt_i x2, pt_i x4, pt_i x6] M (some (pt_i (lb_F M t x2 x4 x6))) M ∧ (¬ (lb_F M t x2 x3 x5) = (lb_F M t x2 x4 x6)) ∧ (¬ (0 : Int32) = (1 : Int32)) ∧ True) (by with_unfolding_all rfl) ⟨(pt_callV (i := t) kX1_isOneSided_29 mX4_isLeft rfl h1 rfl (dX4_isLeft_v h1 h2 h3)), (pt_callV (i := t) kX1_isOneSided_29 mX4_isLeft rfl h1 rfl (dX4_isLeft_v h1 h2 h4)), h5, (pt_callV (i := t) kX1_isOneSided_29 mX4_isLeft rfl h1 rfl (dX4_isLeft_v h1 h2 h3)), (pt_callV (i := t) kX1_isOneSided_29 mX4_isLeft rfl h1 rfl (dX4_isLeft_v h1 h2 h6)), h7, (by decide), trivial⟩
set_option maxRecDepth 100000 in
theorem gX1_isOneSided_0_5 (t : Nat) (x2 : Int32) (x3 : Int32) (x4 : Int32) (x5 : Int32) (x6 : Int32)  (M : pt_M) (h1 : t < 7) (h2 : pt_in x2 10) (h3 : pt_in x3 10) (h4 : pt_in x5 10) (h5 : ¬ (lb_F M t x2 x3 x4) = (lb_F M t x2 x5 x6)) (h6 : pt_in x4 10) (h7 : (lb_F M t x2 x3 x5) = (lb_F M t x2 x4 x6)) (h8 : (lb_F M t x2 x3 x6) = (lb_F M t x2 x4 x5)) :
    pt_Go YX1_isOneSided (0, [(0, pt_r 3 t), (1, pt_i x2), (2, pt_i x3), (3, pt_i x4), (4, pt_i x5), (5, pt_i x6)], [], M)
      (93, [(0, pt_r 3 t), (1, pt_i x2), (2, pt_i x3), (3, pt_i x4), (4, pt_i x5), (5, pt_i x6), (6, pt_i 0), (7, pt_i 0)], [pt_i 0], M) :=
  pt_run_ok tX1_isOneSided_ok 45 [.inr (4, some (pt_i (lb_F M t x2 x3 x4)), M), .inr (4, some (pt_i (lb_F M t x2 x5 x6)), M), .inl true, .inr (4, some (pt_i (lb_F M t x2 x3 x5)), M), .inr (4, some (pt_i (lb_F M t x2 x4 x6)), M), .inl true, .inl false, .inr (4, some (pt_i (lb_F M t x2 x3 x6)), M), .inr (4, some (pt_i (lb_F M t x2 x4 x5)), M), .inl false, .inl true] (P := pt_Cal YX1_isOneSided (.invokevirtual 29) [pt_r 3 t, pt_i x2, pt_i x3, pt_i x4] M (some (pt_i (lb_F M t x2 x3 x4))) M ∧ pt_Cal YX1_isOneSided (.invokevirtual 29) [pt_r 3 t, pt_i x2, pt_i x5, pt_i x6] M (some (pt_i (lb_F M t x2 x5 x6))) M ∧ (¬ (lb_F M t x2 x3 x4) = (lb_F M t x2 x5 x6)) ∧ pt_Cal YX1_isOneSided (.invokevirtual 29) [pt_r 3 t, pt_i x2, pt_i x3, pt_i x5] M (some (pt_i (lb_F M t x2 x3 x5))) M ∧ pt_Cal YX1_isOneSided (.invokevirtual 29) [pt_r 3 t, pt_i x2, pt_i x4, pt_i x6] M (some (pt_i (lb_F M t x2 x4 x6))) M ∧ ((lb_F M t x2 x3 x5) = (lb_F M t x2 x4 x6)) ∧ ((0 : Int32) = (0 : Int32)) ∧ pt_Cal YX1_isOneSided (.invokevirtual 29) [pt_r 3 t, pt_i x2, pt_i x3, pt_i x6] M (some (pt_i (lb_F M t x2 x3 x6))) M ∧ pt_Cal YX1_isOneSided (.invokevirtual 29) [pt_r 3 t, pt_i x2, pt_i x4, pt_i x5] M (some (pt_i (lb_F M t x2 x4 x5))) M ∧ ((lb_F M t x2 x3 x6) = (lb_F M t x2 x4 x5)) ∧ (¬ (0 : Int32) = (1 : Int32)) ∧ True) (by with_unfolding_all rfl) ⟨(pt_callV (i := t) kX1_isOneSided_29 mX4_isLeft rfl h1 rfl (dX4_isLeft_v h1 h2 h3)), (pt_callV (i := t) kX1_isOneSided_29 mX4_isLeft rfl h1 rfl (dX4_isLeft_v h1 h2 h4)), h5, (pt_callV (i := t) kX1_isOneSided_29 mX4_isLeft rfl h1 rfl (dX4_isLeft_v h1 h2 h3)), (pt_callV (i := t) kX1_isOneSided_29 mX4_isLeft rfl h1 rfl (dX4_isLeft_v h1 h2 h6)), h7, (by decide), (pt_callV (i := t) kX1_isOneSided_29 mX4_isLeft rfl h1 rfl (dX4_isLeft_v h1 h2 h3)), (pt_callV (i := t) kX1_isOneSided_29 mX4_isLeft rfl h1 rfl (dX4_isLeft_v h1 h2 h6)), h8, (by decide), trivial⟩
set_option maxRecDepth 100000 in
theorem gX1_isOneSided_0_6 (t : Nat) (x2 : Int32) (x3 : Int32) (x4 : Int32) (x5 : Int32) (x6 : Int32)  (M : pt_M) (h1 : t < 7) (h2 : pt_in x2 10) (h3 : pt_in x3 10) (h4 : pt_in x5 10) (h5 : ¬ (lb_F M t x2 x3 x4) = (lb_F M t x2 x5 x6)) (h6 : pt_in x4 10) (h7 : (lb_F M t x2 x3 x5) = (lb_F M t x2 x4 x6)) (h8 : ¬ (lb_F M t x2 x3 x6) = (lb_F M t x2 x4 x5)) :
    pt_Go YX1_isOneSided (0, [(0, pt_r 3 t), (1, pt_i x2), (2, pt_i x3), (3, pt_i x4), (4, pt_i x5), (5, pt_i x6)], [], M)
      (93, [(0, pt_r 3 t), (1, pt_i x2), (2, pt_i x3), (3, pt_i x4), (4, pt_i x5), (5, pt_i x6), (6, pt_i 0), (7, pt_i 0)], [pt_i 1], M) :=
  pt_run_ok tX1_isOneSided_ok 45 [.inr (4, some (pt_i (lb_F M t x2 x3 x4)), M), .inr (4, some (pt_i (lb_F M t x2 x5 x6)), M), .inl true, .inr (4, some (pt_i (lb_F M t x2 x3 x5)), M), .inr (4, some (pt_i (lb_F M t x2 x4 x6)), M), .inl true, .inl false, .inr (4, some (pt_i (lb_F M t x2 x3 x6)), M), .inr (4, some (pt_i (lb_F M t x2 x4 x5)), M), .inl true, .inl false] (P := pt_Cal YX1_isOneSided (.invokevirtual 29) [pt_r 3 t, pt_i x2, pt_i x3, pt_i x4] M (some (pt_i (lb_F M t x2 x3 x4))) M ∧ pt_Cal YX1_isOneSided (.invokevirtual 29) [pt_r 3 t, pt_i x2, pt_i x5, pt_i x6] M (some (pt_i (lb_F M t x2 x5 x6))) M ∧ (¬ (lb_F M t x2 x3 x4) = (lb_F M t x2 x5 x6)) ∧ pt_Cal YX1_isOneSided (.invokevirtual 29) [pt_r 3 t, pt_i x2, pt_i x3, pt_i x5] M (some (pt_i (lb_F M t x2 x3 x5))) M ∧ pt_Cal YX1_isOneSided (.invokevirtual 29) [pt_r 3 t, pt_i x2, pt_i x4, pt_i x6] M (some (pt_i (lb_F M t x2 x4 x6))) M ∧ ((lb_F M t x2 x3 x5) = (lb_F M t x2 x4 x6)) ∧ ((0 : Int32) = (0 : Int32)) ∧ pt_Cal YX1_isOneSided (.invokevirtual 29) [pt_r 3 t, pt_i x2, pt_i x3, pt_i x6] M (some (pt_i (lb_F M t x2 x3 x6))) M ∧ pt_Cal YX1_isOneSided (.invokevirtual 29) [pt_r 3 t, pt_i x2, pt_i x4, pt_i x5] M (some (pt_i (lb_F M t x2 x4 x5))) M ∧ (¬ (lb_F M t x2 x3 x6) = (lb_F M t x2 x4 x5)) ∧ ((0 : Int32) = (0 : Int32)) ∧ True) (by with_unfolding_all rfl) ⟨(pt_callV (i := t) kX1_isOneSided_29 mX4_isLeft rfl h1 rfl (dX4_isLeft_v h1 h2 h3)), (pt_callV (i := t) kX1_isOneSided_29 mX4_isLeft rfl h1 rfl (dX4_isLeft_v h1 h2 h4)), h5, (pt_callV (i := t) kX1_isOneSided_29 mX4_isLeft rfl h1 rfl (dX4_isLeft_v h1 h2 h3)), (pt_callV (i := t) kX1_isOneSided_29 mX4_isLeft rfl h1 rfl (dX4_isLeft_v h1 h2 h6)), h7, (by decide), (pt_callV (i := t) kX1_isOneSided_29 mX4_isLeft rfl h1 rfl (dX4_isLeft_v h1 h2 h3)), (pt_callV (i := t) kX1_isOneSided_29 mX4_isLeft rfl h1 rfl (dX4_isLeft_v h1 h2 h6)), h8, (by decide), trivial⟩
theorem dX1_isOneSided_1 {t : Nat} {a b c d e : Int32} {M : pt_M} (ht : t < 7) (h1 : pt_in a 10) (h2 : pt_in b 10) (h3 : pt_in c 10) (h4 : pt_in d 10) (h : os_P M t a b c d e) : pt_Does yX1_isOneSided YX1_isOneSided [pt_r 3 t, pt_i a, pt_i b, pt_i c, pt_i d, pt_i e] M (some (pt_i 1)) M := by
  obtain ⟨k1, k2⟩ := h
  by_cases hu : (lb_F M t a b c) = (lb_F M t a d e)
  · exact rX1_isOneSided_93 rfl (Nat.le_of_ble_eq_true rfl) rfl (gX1_isOneSided_0_1 t a b c d e M ht h1 h2 h4 hu h3 (k1.mp hu) (k2.mp hu))
  · exact rX1_isOneSided_93 rfl (Nat.le_of_ble_eq_true rfl) rfl (gX1_isOneSided_0_6 t a b c d e M ht h1 h2 h4 hu h3 (Decidable.byContradiction fun z => hu (k1.mpr z)) (fun z => hu (k2.mpr z)))
theorem dX1_isOneSided_0 {t : Nat} {a b c d e : Int32} {M : pt_M} (ht : t < 7) (h1 : pt_in a 10) (h2 : pt_in b 10) (h3 : pt_in c 10) (h4 : pt_in d 10) (h : ¬ os_P M t a b c d e) : pt_Does yX1_isOneSided YX1_isOneSided [pt_r 3 t, pt_i a, pt_i b, pt_i c, pt_i d, pt_i e] M (some (pt_i 0)) M := by
  by_cases hu : (lb_F M t a b c) = (lb_F M t a d e) <;> by_cases hv : (lb_F M t a b d) = (lb_F M t a c e) <;> by_cases hw : (lb_F M t a b e) = (lb_F M t a c d)
  · exact rX1_isOneSided_93 rfl (Nat.le_of_ble_eq_true rfl) rfl (gX1_isOneSided_0_3 t a b c d e M ht h1 h2 h4 hu h3 hv)
  · exact rX1_isOneSided_93 rfl (Nat.le_of_ble_eq_true rfl) rfl (gX1_isOneSided_0_3 t a b c d e M ht h1 h2 h4 hu h3 hv)
  · exact absurd ⟨⟨fun _ => hv, fun _ => hu⟩, ⟨fun _ => hw, fun _ => hu⟩⟩ h
  · exact rX1_isOneSided_93 rfl (Nat.le_of_ble_eq_true rfl) rfl (gX1_isOneSided_0_2 t a b c d e M ht h1 h2 h4 hu h3 hv hw)
  · exact rX1_isOneSided_93 rfl (Nat.le_of_ble_eq_true rfl) rfl (gX1_isOneSided_0_5 t a b c d e M ht h1 h2 h4 hu h3 hv hw)
  · exact absurd ⟨⟨fun z => absurd z hu, fun z => absurd hv z⟩, ⟨fun z => absurd z hu, fun z => absurd z hw⟩⟩ h
  · exact rX1_isOneSided_93 rfl (Nat.le_of_ble_eq_true rfl) rfl (gX1_isOneSided_0_4 t a b c d e M ht h1 h2 h4 hu h3 hv)
  · exact rX1_isOneSided_93 rfl (Nat.le_of_ble_eq_true rfl) rfl (gX1_isOneSided_0_4 t a b c d e M ht h1 h2 h4 hu h3 hv)
theorem rX1_breaksFive_75 {vs : List pt_V} {M M' : pt_M} {x : Int32} {L : List (Nat × pt_V)} (hn : narrow .boolean (.int x) = .int x) (hvs : (vs.map pt_w).sum ≤ 6) (hX : M'.2.2.2.2 = M.2.2.2.2) (h : pt_Go YX1_breaksFive (0, pt_en 0 vs, [], M) (75, L, [pt_i x], M')) : pt_Does yX1_breaksFive YX1_breaksFive vs M (some (pt_i x)) M' := pt_does_go tX1_breaksFive_ok nX1_breaksFive hvs hX ⟨_, by with_unfolding_all rfl, rfl, _, rfl, hn⟩ h
set_option maxRecDepth 100000 in
theorem gX1_breaksFive_0_1 (t : Nat) (x2 : Int32) (x3 : Int32) (x4 : Int32) (x5 : Int32) (x6 : Int32)  (M : pt_M) (h1 : t < 7) (h2 : pt_in x2 10) (h3 : pt_in x3 10) (h4 : pt_in x4 10) (h5 : pt_in x5 10) (h6 : os_P M t x2 x3 x4 x5 x6) :
    pt_Go YX1_breaksFive (0, [(0, pt_r 3 t), (1, pt_i x2), (2, pt_i x3), (3, pt_i x4), (4, pt_i x5), (5, pt_i x6)], [], M)
      (75, [(0, pt_r 3 t), (1, pt_i x2), (2, pt_i x3), (3, pt_i x4), (4, pt_i x5), (5, pt_i x6)], [pt_i 1], M) :=
  pt_run_ok tX1_breaksFive_ok 10 [.inr (6, some (pt_i 1), M), .inl true] (P := pt_Cal YX1_breaksFive (.invokestatic 37) [pt_r 3 t, pt_i x2, pt_i x3, pt_i x4, pt_i x5, pt_i x6] M (some (pt_i 1)) M ∧ (¬ (1 : Int32) = (0 : Int32)) ∧ True) (by with_unfolding_all rfl) ⟨(pt_callS kX1_breaksFive_37 mX1_isOneSided rfl (dX1_isOneSided_1 h1 h2 h3 h4 h5 h6)), (by decide), trivial⟩
set_option maxRecDepth 100000 in
theorem gX1_breaksFive_0_2 (t : Nat) (x2 : Int32) (x3 : Int32) (x4 : Int32) (x5 : Int32) (x6 : Int32)  (M : pt_M) (h1 : t < 7) (h2 : pt_in x2 10) (h3 : pt_in x3 10) (h4 : pt_in x4 10) (h5 : pt_in x5 10) (h6 : ¬ os_P M t x2 x3 x4 x5 x6) (h7 : os_P M t x3 x2 x4 x5 x6) :
    pt_Go YX1_breaksFive (0, [(0, pt_r 3 t), (1, pt_i x2), (2, pt_i x3), (3, pt_i x4), (4, pt_i x5), (5, pt_i x6)], [], M)
      (75, [(0, pt_r 3 t), (1, pt_i x2), (2, pt_i x3), (3, pt_i x4), (4, pt_i x5), (5, pt_i x6)], [pt_i 1], M) :=
  pt_run_ok tX1_breaksFive_ok 18 [.inr (6, some (pt_i 0), M), .inl false, .inr (6, some (pt_i 1), M), .inl true] (P := pt_Cal YX1_breaksFive (.invokestatic 37) [pt_r 3 t, pt_i x2, pt_i x3, pt_i x4, pt_i x5, pt_i x6] M (some (pt_i 0)) M ∧ ((0 : Int32) = (0 : Int32)) ∧ pt_Cal YX1_breaksFive (.invokestatic 37) [pt_r 3 t, pt_i x3, pt_i x2, pt_i x4, pt_i x5, pt_i x6] M (some (pt_i 1)) M ∧ (¬ (1 : Int32) = (0 : Int32)) ∧ True) (by with_unfolding_all rfl) ⟨(pt_callS kX1_breaksFive_37 mX1_isOneSided rfl (dX1_isOneSided_0 h1 h2 h3 h4 h5 h6)), (by decide), (pt_callS kX1_breaksFive_37 mX1_isOneSided rfl (dX1_isOneSided_1 h1 h3 h2 h4 h5 h7)), (by decide), trivial⟩
set_option maxRecDepth 100000 in
theorem gX1_breaksFive_0_3 (t : Nat) (x2 : Int32) (x3 : Int32) (x4 : Int32) (x5 : Int32) (x6 : Int32)  (M : pt_M) (h1 : t < 7) (h2 : pt_in x2 10) (h3 : pt_in x3 10) (h4 : pt_in x4 10) (h5 : pt_in x5 10) (h6 : ¬ os_P M t x2 x3 x4 x5 x6) (h7 : ¬ os_P M t x3 x2 x4 x5 x6) (h8 : os_P M t x4 x2 x3 x5 x6) :
    pt_Go YX1_breaksFive (0, [(0, pt_r 3 t), (1, pt_i x2), (2, pt_i x3), (3, pt_i x4), (4, pt_i x5), (5, pt_i x6)], [], M)
      (75, [(0, pt_r 3 t), (1, pt_i x2), (2, pt_i x3), (3, pt_i x4), (4, pt_i x5), (5, pt_i x6)], [pt_i 1], M) :=
  pt_run_ok tX1_breaksFive_ok 26 [.inr (6, some (pt_i 0), M), .inl false, .inr (6, some (pt_i 0), M), .inl false, .inr (6, some (pt_i 1), M), .inl true] (P := pt_Cal YX1_breaksFive (.invokestatic 37) [pt_r 3 t, pt_i x2, pt_i x3, pt_i x4, pt_i x5, pt_i x6] M (some (pt_i 0)) M ∧ ((0 : Int32) = (0 : Int32)) ∧ pt_Cal YX1_breaksFive (.invokestatic 37) [pt_r 3 t, pt_i x3, pt_i x2, pt_i x4, pt_i x5, pt_i x6] M (some (pt_i 0)) M ∧ ((0 : Int32) = (0 : Int32)) ∧ pt_Cal YX1_breaksFive (.invokestatic 37) [pt_r 3 t, pt_i x4, pt_i x2, pt_i x3, pt_i x5, pt_i x6] M (some (pt_i 1)) M ∧ (¬ (1 : Int32) = (0 : Int32)) ∧ True) (by with_unfolding_all rfl) ⟨(pt_callS kX1_breaksFive_37 mX1_isOneSided rfl (dX1_isOneSided_0 h1 h2 h3 h4 h5 h6)), (by decide), (pt_callS kX1_breaksFive_37 mX1_isOneSided rfl (dX1_isOneSided_0 h1 h3 h2 h4 h5 h7)), (by decide), (pt_callS kX1_breaksFive_37 mX1_isOneSided rfl (dX1_isOneSided_1 h1 h4 h2 h3 h5 h8)), (by decide), trivial⟩
set_option maxRecDepth 100000 in
theorem gX1_breaksFive_0_4 (t : Nat) (x2 : Int32) (x3 : Int32) (x4 : Int32) (x5 : Int32) (x6 : Int32)  (M : pt_M) (h1 : t < 7) (h2 : pt_in x2 10) (h3 : pt_in x3 10) (h4 : pt_in x4 10) (h5 : pt_in x5 10) (h6 : ¬ os_P M t x2 x3 x4 x5 x6) (h7 : ¬ os_P M t x3 x2 x4 x5 x6) (h8 : ¬ os_P M t x4 x2 x3 x5 x6) (h9 : os_P M t x5 x2 x3 x4 x6) :
    pt_Go YX1_breaksFive (0, [(0, pt_r 3 t), (1, pt_i x2), (2, pt_i x3), (3, pt_i x4), (4, pt_i x5), (5, pt_i x6)], [], M)
      (75, [(0, pt_r 3 t), (1, pt_i x2), (2, pt_i x3), (3, pt_i x4), (4, pt_i x5), (5, pt_i x6)], [pt_i 1], M) :=
  pt_run_ok tX1_breaksFive_ok 34 [.inr (6, some (pt_i 0), M), .inl false, .inr (6, some (pt_i 0), M), .inl false, .inr (6, some (pt_i 0), M), .inl false, .inr (6, some (pt_i 1), M), .inl true] (P := pt_Cal YX1_breaksFive (.invokestatic 37) [pt_r 3 t, pt_i x2, pt_i x3, pt_i x4, pt_i x5, pt_i x6] M (some (pt_i 0)) M ∧ ((0 : Int32) = (0 : Int32)) ∧ pt_Cal YX1_breaksFive (.invokestatic 37) [pt_r 3 t, pt_i x3, pt_i x2, pt_i x4, pt_i x5, pt_i x6] M (some (pt_i 0)) M ∧ ((0 : Int32) = (0 : Int32)) ∧ pt_Cal YX1_breaksFive (.invokestatic 37) [pt_r 3 t, pt_i x4, pt_i x2, pt_i x3, pt_i x5, pt_i x6] M (some (pt_i 0)) M ∧ ((0 : Int32) = (0 : Int32)) ∧ pt_Cal YX1_breaksFive (.invokestatic 37) [pt_r 3 t, pt_i x5, pt_i x2, pt_i x3, pt_i x4, pt_i x6] M (some (pt_i 1)) M ∧ (¬ (1 : Int32) = (0 : Int32)) ∧ True) (by with_unfolding_all rfl) ⟨(pt_callS kX1_breaksFive_37 mX1_isOneSided rfl (dX1_isOneSided_0 h1 h2 h3 h4 h5 h6)), (by decide), (pt_callS kX1_breaksFive_37 mX1_isOneSided rfl (dX1_isOneSided_0 h1 h3 h2 h4 h5 h7)), (by decide), (pt_callS kX1_breaksFive_37 mX1_isOneSided rfl (dX1_isOneSided_0 h1 h4 h2 h3 h5 h8)), (by decide), (pt_callS kX1_breaksFive_37 mX1_isOneSided rfl (dX1_isOneSided_1 h1 h5 h2 h3 h4 h9)), (by decide), trivial⟩
set_option maxRecDepth 100000 in
theorem gX1_breaksFive_0_5 (t : Nat) (x2 : Int32) (x3 : Int32) (x4 : Int32) (x5 : Int32) (x6 : Int32)  (M : pt_M) (h1 : t < 7) (h2 : pt_in x2 10) (h3 : pt_in x3 10) (h4 : pt_in x4 10) (h5 : pt_in x5 10) (h6 : ¬ os_P M t x2 x3 x4 x5 x6) (h7 : ¬ os_P M t x3 x2 x4 x5 x6) (h8 : ¬ os_P M t x4 x2 x3 x5 x6) (h9 : ¬ os_P M t x5 x2 x3 x4 x6) (h10 : pt_in x6 10) (h11 : os_P M t x6 x2 x3 x4 x5) :
    pt_Go YX1_breaksFive (0, [(0, pt_r 3 t), (1, pt_i x2), (2, pt_i x3), (3, pt_i x4), (4, pt_i x5), (5, pt_i x6)], [], M)
      (75, [(0, pt_r 3 t), (1, pt_i x2), (2, pt_i x3), (3, pt_i x4), (4, pt_i x5), (5, pt_i x6)], [pt_i 1], M) :=
  pt_run_ok tX1_breaksFive_ok 42 [.inr (6, some (pt_i 0), M), .inl false, .inr (6, some (pt_i 0), M), .inl false, .inr (6, some (pt_i 0), M), .inl false, .inr (6, some (pt_i 0), M), .inl false, .inr (6, some (pt_i 1), M), .inl false] (P := pt_Cal YX1_breaksFive (.invokestatic 37) [pt_r 3 t, pt_i x2, pt_i x3, pt_i x4, pt_i x5, pt_i x6] M (some (pt_i 0)) M ∧ ((0 : Int32) = (0 : Int32)) ∧ pt_Cal YX1_breaksFive (.invokestatic 37) [pt_r 3 t, pt_i x3, pt_i x2, pt_i x4, pt_i x5, pt_i x6] M (some (pt_i 0)) M ∧ ((0 : Int32) = (0 : Int32)) ∧ pt_Cal YX1_breaksFive (.invokestatic 37) [pt_r 3 t, pt_i x4, pt_i x2, pt_i x3, pt_i x5, pt_i x6] M (some (pt_i 0)) M ∧ ((0 : Int32) = (0 : Int32)) ∧ pt_Cal YX1_breaksFive (.invokestatic 37) [pt_r 3 t, pt_i x5, pt_i x2, pt_i x3, pt_i x4, pt_i x6] M (some (pt_i 0)) M ∧ ((0 : Int32) = (0 : Int32)) ∧ pt_Cal YX1_breaksFive (.invokestatic 37) [pt_r 3 t, pt_i x6, pt_i x2, pt_i x3, pt_i x4, pt_i x5] M (some (pt_i 1)) M ∧ (¬ (1 : Int32) = (0 : Int32)) ∧ True) (by with_unfolding_all rfl) ⟨(pt_callS kX1_breaksFive_37 mX1_isOneSided rfl (dX1_isOneSided_0 h1 h2 h3 h4 h5 h6)), (by decide), (pt_callS kX1_breaksFive_37 mX1_isOneSided rfl (dX1_isOneSided_0 h1 h3 h2 h4 h5 h7)), (by decide), (pt_callS kX1_breaksFive_37 mX1_isOneSided rfl (dX1_isOneSided_0 h1 h4 h2 h3 h5 h8)), (by decide), (pt_callS kX1_breaksFive_37 mX1_isOneSided rfl (dX1_isOneSided_0 h1 h5 h2 h3 h4 h9)), (by decide), (pt_callS kX1_breaksFive_37 mX1_isOneSided rfl (dX1_isOneSided_1 h1 h10 h2 h3 h4 h11)), (by decide), trivial⟩
set_option maxRecDepth 100000 in
theorem gX1_breaksFive_0_6 (t : Nat) (x2 : Int32) (x3 : Int32) (x4 : Int32) (x5 : Int32) (x6 : Int32)  (M : pt_M) (h1 : t < 7) (h2 : pt_in x2 10) (h3 : pt_in x3 10) (h4 : pt_in x4 10) (h5 : pt_in x5 10) (h6 : ¬ os_P M t x2 x3 x4 x5 x6) (h7 : ¬ os_P M t x3 x2 x4 x5 x6) (h8 : ¬ os_P M t x4 x2 x3 x5 x6) (h9 : ¬ os_P M t x5 x2 x3 x4 x6) (h10 : pt_in x6 10) (h11 : ¬ os_P M t x6 x2 x3 x4 x5) :
    pt_Go YX1_breaksFive (0, [(0, pt_r 3 t), (1, pt_i x2), (2, pt_i x3), (3, pt_i x4), (4, pt_i x5), (5, pt_i x6)], [], M)
      (75, [(0, pt_r 3 t), (1, pt_i x2), (2, pt_i x3), (3, pt_i x4), (4, pt_i x5), (5, pt_i x6)], [pt_i 0], M) :=
  pt_run_ok tX1_breaksFive_ok 41 [.inr (6, some (pt_i 0), M), .inl false, .inr (6, some (pt_i 0), M), .inl false, .inr (6, some (pt_i 0), M), .inl false, .inr (6, some (pt_i 0), M), .inl false, .inr (6, some (pt_i 0), M), .inl true] (P := pt_Cal YX1_breaksFive (.invokestatic 37) [pt_r 3 t, pt_i x2, pt_i x3, pt_i x4, pt_i x5, pt_i x6] M (some (pt_i 0)) M ∧ ((0 : Int32) = (0 : Int32)) ∧ pt_Cal YX1_breaksFive (.invokestatic 37) [pt_r 3 t, pt_i x3, pt_i x2, pt_i x4, pt_i x5, pt_i x6] M (some (pt_i 0)) M ∧ ((0 : Int32) = (0 : Int32)) ∧ pt_Cal YX1_breaksFive (.invokestatic 37) [pt_r 3 t, pt_i x4, pt_i x2, pt_i x3, pt_i x5, pt_i x6] M (some (pt_i 0)) M ∧ ((0 : Int32) = (0 : Int32)) ∧ pt_Cal YX1_breaksFive (.invokestatic 37) [pt_r 3 t, pt_i x5, pt_i x2, pt_i x3, pt_i x4, pt_i x6] M (some (pt_i 0)) M ∧ ((0 : Int32) = (0 : Int32)) ∧ pt_Cal YX1_breaksFive (.invokestatic 37) [pt_r 3 t, pt_i x6, pt_i x2, pt_i x3, pt_i x4, pt_i x5] M (some (pt_i 0)) M ∧ ((0 : Int32) = (0 : Int32)) ∧ True) (by with_unfolding_all rfl) ⟨(pt_callS kX1_breaksFive_37 mX1_isOneSided rfl (dX1_isOneSided_0 h1 h2 h3 h4 h5 h6)), (by decide), (pt_callS kX1_breaksFive_37 mX1_isOneSided rfl (dX1_isOneSided_0 h1 h3 h2 h4 h5 h7)), (by decide), (pt_callS kX1_breaksFive_37 mX1_isOneSided rfl (dX1_isOneSided_0 h1 h4 h2 h3 h5 h8)), (by decide), (pt_callS kX1_breaksFive_37 mX1_isOneSided rfl (dX1_isOneSided_0 h1 h5 h2 h3 h4 h9)), (by decide), (pt_callS kX1_breaksFive_37 mX1_isOneSided rfl (dX1_isOneSided_0 h1 h10 h2 h3 h4 h11)), (by decide), trivial⟩
theorem dX1_breaksFive_1 {t : Nat} {a b c d e : Int32} {M : pt_M} (ht : t < 7) (h1 : pt_in a 10) (h2 : pt_in b 10) (h3 : pt_in c 10) (h4 : pt_in d 10) (h5 : pt_in e 10) (h : bv_P M t a b c d e) : pt_Does yX1_breaksFive YX1_breaksFive [pt_r 3 t, pt_i a, pt_i b, pt_i c, pt_i d, pt_i e] M (some (pt_i 1)) M := by
  refine rX1_breaksFive_75 rfl (L := [(0, pt_r 3 t), (1, pt_i a), (2, pt_i b), (3, pt_i c), (4, pt_i d), (5, pt_i e)]) (Nat.le_of_ble_eq_true rfl) rfl ?_
  by_cases k1 : os_P M t a b c d e
  · exact gX1_breaksFive_0_1 t a b c d e M ht h1 h2 h3 h4 k1
  by_cases k2 : os_P M t b a c d e
  · exact gX1_breaksFive_0_2 t a b c d e M ht h1 h2 h3 h4 k1 k2
  by_cases k3 : os_P M t c a b d e
  · exact gX1_breaksFive_0_3 t a b c d e M ht h1 h2 h3 h4 k1 k2 k3
  by_cases k4 : os_P M t d a b c e
  · exact gX1_breaksFive_0_4 t a b c d e M ht h1 h2 h3 h4 k1 k2 k3 k4
  by_cases k5 : os_P M t e a b c d
  · exact gX1_breaksFive_0_5 t a b c d e M ht h1 h2 h3 h4 k1 k2 k3 k4 h5 k5
  rcases h with h | h | h | h | h <;> contradiction
theorem dX1_breaksFive_0 {t : Nat} {a b c d e : Int32} {M : pt_M} (ht : t < 7) (h1 : pt_in a 10) (h2 : pt_in b 10) (h3 : pt_in c 10) (h4 : pt_in d 10) (h5 : pt_in e 10) (h : ¬ bv_P M t a b c d e) : pt_Does yX1_breaksFive YX1_breaksFive [pt_r 3 t, pt_i a, pt_i b, pt_i c, pt_i d, pt_i e] M (some (pt_i 0)) M :=
  rX1_breaksFive_75 rfl (Nat.le_of_ble_eq_true rfl) rfl (gX1_breaksFive_0_6 t a b c d e M ht h1 h2 h3 h4 (fun z => h (Or.inl z)) (fun z => h (Or.inr (Or.inl z))) (fun z => h (Or.inr (Or.inr (Or.inl z)))) (fun z => h (Or.inr (Or.inr (Or.inr (Or.inl z))))) h5 (fun z => h (Or.inr (Or.inr (Or.inr (Or.inr z))))))
/-! the first of some -/
def fs_F {α : Type} : Nat → Nat → (Nat → Option α) → Option α
  | 0, _, _ => none
  | d + 1, i, f => match f i with
    | some v => some v
    | none => fs_F d (i + 1) f
theorem pt_srch {α : Type} {Y : pt_Y} {S : Nat → pt_S} {R : α → pt_S} {n : Nat} {f : Nat → Option α} (i0 : Nat) (h : ∀ i, i0 ≤ i → i < n → (∀ v, f i = some v → pt_Go Y (S i) (R v)) ∧ (f i = none → pt_Go Y (S i) (S (i + 1)))) : ∀ d i, i0 ≤ i → i + d = n → (∀ v, fs_F d i f = some v → pt_Go Y (S i) (R v)) ∧ (fs_F d i f = none → pt_Go Y (S i) (S n))
  | 0, i, hi, e => by
    have : i = n := by omega
    subst this
    exact ⟨fun v hv => (by cases hv), fun _ => pt_Go.rf⟩
  | d + 1, i, hi, e => by
    obtain ⟨h1, h2⟩ := h i hi (by omega)
    obtain ⟨k1, k2⟩ := pt_srch i0 h d (i + 1) (by omega) (by omega)
    unfold fs_F
    cases hf : f i with
    | some v => exact ⟨fun w hw => by cases hw; exact h1 v hf, fun hw => by cases hw⟩
    | none => exact ⟨fun w hw => (h2 hf).tr (k1 w hw), fun hw => (h2 hf).tr (k2 hw)⟩
theorem pt_nest {α : Type} {Y : pt_Y} {σ τ : pt_S} {S : Nat → pt_S} {R : α → pt_S} {n i : Nat} {f : Nat → Option α} (hi : i ≤ n) (h0 : pt_Go Y σ (S i)) (h1 : pt_Go Y (S n) τ) (h : ∀ j, i ≤ j → j < n → (∀ v, f j = some v → pt_Go Y (S j) (R v)) ∧ (f j = none → pt_Go Y (S j) (S (j + 1)))) : (∀ v, fs_F (n - i) i f = some v → pt_Go Y σ (R v)) ∧ (fs_F (n - i) i f = none → pt_Go Y σ τ) := by
  obtain ⟨k1, k2⟩ := pt_srch i h (n - i) i (Nat.le_refl i) (by omega)
  exact ⟨fun v hv => h0.tr (k1 v hv), fun hv => h0.tr ((k2 hv).tr h1)⟩
def b4_F (B : Nat → Nat → Nat → Bool) (a b c d : Nat) : Bool := (B a b d != B a b c) && ((B a c d == B a b c) && (B b c d != B a b c))
def os_F (B : Nat → Nat → Nat → Bool) (a b c d e : Nat) : Bool := ((B a b c == B a d e) == (B a b d != B a c e)) && ((B a b c == B a d e) == (B a b e == B a c d))
def b5_F (B : Nat → Nat → Nat → Bool) (a b c d e : Nat) : Bool := os_F B a b c d e || (os_F B b a c d e || (os_F B c a b d e || (os_F B d a b c e || os_F B e a b c d)))
def f4_F (n : Nat) (B : Nat → Nat → Nat → Bool) : Option Nat := fs_F (n - 0) 0 fun a => fs_F (n - (a + 1)) (a + 1) fun b => fs_F (n - (b + 1)) (b + 1) fun c => fs_F (n - (c + 1)) (c + 1) fun d => if b4_F B a b c d then some (2 ^ a ||| 2 ^ b ||| 2 ^ c ||| 2 ^ d) else none
def f5_F (n : Nat) (B : Nat → Nat → Nat → Bool) : Option Nat := fs_F (n - 0) 0 fun a => fs_F (n - (a + 1)) (a + 1) fun b => fs_F (n - (b + 1)) (b + 1) fun c => fs_F (n - (c + 1)) (c + 1) fun d => fs_F (n - (d + 1)) (d + 1) fun e => if b5_F B a b c d e then some (2 ^ a ||| 2 ^ b ||| 2 ^ c ||| 2 ^ d ||| 2 ^ e) else none
def w4_F (n : Nat) (B : Nat → Nat → Nat → Bool) : Nat := (f4_F n B).getD 0
def w5_F (n : Nat) (B : Nat → Nat → Nat → Bool) : Nat := (f5_F n B).getD 0
def wy_F (n : Nat) (B : Nat → Nat → Nat → Bool) : Nat := if w4_F n B = 0 then w5_F n B else w4_F n B
/-- a table of n points, its rows of bits B -/
def tb_P (M : pt_M) (t n : Nat) (B : Nat → Nat → Nat → Bool) : Prop := t < 7 ∧ n ≤ 10 ∧ pt_F M 3 0 t = nI n ∧ ct_B M t B
theorem bf_B {M : pt_M} {t a b c d : Nat} {B : Nat → Nat → Nat → Bool} (hB : ct_B M t B) (ha : a < 10) (hb : b < 10) (hc : c < 10) (hd : d < 10) : bf_P M t (nI a) (nI b) (nI c) (nI d) ↔ b4_F B a b c d = true := by
  unfold bf_P b4_F
  rw [lb_B hB ha hb hd, lb_B hB ha hb hc, lb_B hB ha hc hd, lb_B hB hb hc hd]
  simp only [pt_b_eq]
  cases B a b d <;> cases B a b c <;> cases B a c d <;> cases B b c d <;> decide
theorem os_B {M : pt_M} {t a b c d e : Nat} {B : Nat → Nat → Nat → Bool} (hB : ct_B M t B) (ha : a < 10) (hb : b < 10) (hc : c < 10) (hd : d < 10) (he : e < 10) : os_P M t (nI a) (nI b) (nI c) (nI d) (nI e) ↔ os_F B a b c d e = true := by
  unfold os_P os_F
  rw [lb_B hB ha hb hc, lb_B hB ha hd he, lb_B hB ha hb hd, lb_B hB ha hc he, lb_B hB ha hb he, lb_B hB ha hc hd]
  simp only [pt_b_eq]
  cases B a b c <;> cases B a d e <;> cases B a b d <;> cases B a c e <;> cases B a b e <;> cases B a c d <;> decide
theorem bv_B {M : pt_M} {t a b c d e : Nat} {B : Nat → Nat → Nat → Bool} (hB : ct_B M t B) (ha : a < 10) (hb : b < 10) (hc : c < 10) (hd : d < 10) (he : e < 10) : bv_P M t (nI a) (nI b) (nI c) (nI d) (nI e) ↔ b5_F B a b c d e = true := by
  unfold bv_P b5_F
  rw [os_B hB ha hb hc hd he, os_B hB hb ha hc hd he, os_B hB hc ha hb hd he, os_B hB hd ha hb hc he, os_B hB he ha hb hc hd]
  simp only [Bool.or_eq_true]
theorem rX1_firstFour_76 {vs : List pt_V} {M M' : pt_M} {x : Int32} {L : List (Nat × pt_V)} (hvs : (vs.map pt_w).sum ≤ 5) (hX : M'.2.2.2.2 = M.2.2.2.2) (h : pt_Go YX1_firstFour (0, pt_en 0 vs, [], M) (76, L, [pt_i x], M')) : pt_Does yX1_firstFour YX1_firstFour vs M (some (pt_i x)) M' := pt_does_go tX1_firstFour_ok nX1_firstFour hvs hX ⟨_, by with_unfolding_all rfl, rfl, _, rfl, rfl⟩ h
theorem rX1_firstFour_102 {vs : List pt_V} {M M' : pt_M} {x : Int32} {L : List (Nat × pt_V)} (hvs : (vs.map pt_w).sum ≤ 5) (hX : M'.2.2.2.2 = M.2.2.2.2) (h : pt_Go YX1_firstFour (0, pt_en 0 vs, [], M) (102, L, [pt_i x], M')) : pt_Does yX1_firstFour YX1_firstFour vs M (some (pt_i x)) M' := pt_does_go tX1_firstFour_ok nX1_firstFour hvs hX ⟨_, by with_unfolding_all rfl, rfl, _, rfl, rfl⟩ h
set_option maxRecDepth 100000 in
theorem gX1_firstFour_0_1 (t : Nat)  (M : pt_M) :
    pt_Go YX1_firstFour (0, [(0, pt_r 3 t)], [], M)
      (2, [(0, pt_r 3 t), (1, pt_i 0)], [], M) :=
  pt_run_ok tX1_firstFour_ok 2 [] (P := True) (by with_unfolding_all rfl) trivial
set_option maxRecDepth 100000 in
theorem gX1_firstFour_2_1 (t : Nat) (l1 : Int32)  (M : pt_M) (h1 : t < 7) (h2 : ¬ (pt_F M 3 0 t) ≤ l1) :
    pt_Go YX1_firstFour (2, [(0, pt_r 3 t), (1, pt_i l1)], [], M)
      (14, [(0, pt_r 3 t), (1, pt_i l1), (2, pt_i (l1 + 1))], [], M) :=
  pt_run_ok tX1_firstFour_ok 8 [.inl false] (P := (t < 7) ∧ (¬ (pt_F M 3 0 t) ≤ l1) ∧ True) (by with_unfolding_all rfl) ⟨h1, h2, trivial⟩
set_option maxRecDepth 100000 in
theorem gX1_firstFour_2_2 (t : Nat) (l1 : Int32)  (M : pt_M) (h1 : t < 7) (h2 : (pt_F M 3 0 t) ≤ l1) :
    pt_Go YX1_firstFour (2, [(0, pt_r 3 t), (1, pt_i l1)], [], M)
      (102, [(0, pt_r 3 t), (1, pt_i l1)], [pt_i 0], M) :=
  pt_run_ok tX1_firstFour_ok 5 [.inl true] (P := (t < 7) ∧ ((pt_F M 3 0 t) ≤ l1) ∧ True) (by with_unfolding_all rfl) ⟨h1, h2, trivial⟩
set_option maxRecDepth 100000 in
theorem gX1_firstFour_14_1 (t : Nat) (l1 : Int32) (l2 : Int32)  (M : pt_M) (h1 : t < 7) (h2 : ¬ (pt_F M 3 0 t) ≤ l2) :
    pt_Go YX1_firstFour (14, [(0, pt_r 3 t), (1, pt_i l1), (2, pt_i l2)], [], M)
      (26, [(0, pt_r 3 t), (1, pt_i l1), (2, pt_i l2), (3, pt_i (l2 + 1))], [], M) :=
  pt_run_ok tX1_firstFour_ok 8 [.inl false] (P := (t < 7) ∧ (¬ (pt_F M 3 0 t) ≤ l2) ∧ True) (by with_unfolding_all rfl) ⟨h1, h2, trivial⟩
set_option maxRecDepth 100000 in
theorem gX1_firstFour_14_2 (t : Nat) (l1 : Int32) (l2 : Int32)  (M : pt_M) (h1 : t < 7) (h2 : (pt_F M 3 0 t) ≤ l2) :
    pt_Go YX1_firstFour (14, [(0, pt_r 3 t), (1, pt_i l1), (2, pt_i l2)], [], M)
      (2, [(0, pt_r 3 t), (1, pt_i (l1 + 1))], [], M) :=
  (pt_run_ok tX1_firstFour_ok 6 [.inl true] (P := (t < 7) ∧ ((pt_F M 3 0 t) ≤ l2) ∧ True) (by with_unfolding_all rfl) ⟨h1, h2, trivial⟩ : pt_Go YX1_firstFour _ (2, [(0, pt_r 3 t), (1, pt_i (l1 + 1)), (2, pt_i l2)], [], M)).tr (pt_pick [0, 1] (by with_unfolding_all rfl))
set_option maxRecDepth 100000 in
theorem gX1_firstFour_26_1 (t : Nat) (l1 : Int32) (l2 : Int32) (l3 : Int32)  (M : pt_M) (h1 : t < 7) (h2 : ¬ (pt_F M 3 0 t) ≤ l3) :
    pt_Go YX1_firstFour (26, [(0, pt_r 3 t), (1, pt_i l1), (2, pt_i l2), (3, pt_i l3)], [], M)
      (39, [(0, pt_r 3 t), (1, pt_i l1), (2, pt_i l2), (3, pt_i l3), (4, pt_i (l3 + 1))], [], M) :=
  pt_run_ok tX1_firstFour_ok 8 [.inl false] (P := (t < 7) ∧ (¬ (pt_F M 3 0 t) ≤ l3) ∧ True) (by with_unfolding_all rfl) ⟨h1, h2, trivial⟩
set_option maxRecDepth 100000 in
theorem gX1_firstFour_26_2 (t : Nat) (l1 : Int32) (l2 : Int32) (l3 : Int32)  (M : pt_M) (h1 : t < 7) (h2 : (pt_F M 3 0 t) ≤ l3) :
    pt_Go YX1_firstFour (26, [(0, pt_r 3 t), (1, pt_i l1), (2, pt_i l2), (3, pt_i l3)], [], M)
      (14, [(0, pt_r 3 t), (1, pt_i l1), (2, pt_i (l2 + 1))], [], M) :=
  (pt_run_ok tX1_firstFour_ok 6 [.inl true] (P := (t < 7) ∧ ((pt_F M 3 0 t) ≤ l3) ∧ True) (by with_unfolding_all rfl) ⟨h1, h2, trivial⟩ : pt_Go YX1_firstFour _ (14, [(0, pt_r 3 t), (1, pt_i l1), (2, pt_i (l2 + 1)), (3, pt_i l3)], [], M)).tr (pt_pick [0, 1, 2] (by with_unfolding_all rfl))
set_option maxRecDepth 100000 in
theorem gX1_firstFour_39_1 (t : Nat) (l1 : Int32) (l2 : Int32) (l3 : Int32) (l4 : Int32)  (M : pt_M) (h1 : t < 7) (h2 : ¬ (pt_F M 3 0 t) ≤ l4) (h3 : pt_in l1 10) (h4 : pt_in l2 10) (h5 : pt_in l3 10) (h6 : bf_P M t l1 l2 l3 l4) :
    pt_Go YX1_firstFour (39, [(0, pt_r 3 t), (1, pt_i l1), (2, pt_i l2), (3, pt_i l3), (4, pt_i l4)], [], M)
      (76, [(0, pt_r 3 t), (1, pt_i l1), (2, pt_i l2), (3, pt_i l3), (4, pt_i l4)], [pt_i (((((1 : Int32) <<< (l1 &&& 31)) ||| ((1 : Int32) <<< (l2 &&& 31))) ||| ((1 : Int32) <<< (l3 &&& 31))) ||| ((1 : Int32) <<< (l4 &&& 31)))], M) :=
  pt_run_ok tX1_firstFour_ok 26 [.inl false, .inr (5, some (pt_i 1), M), .inl false] (P := (t < 7) ∧ (¬ (pt_F M 3 0 t) ≤ l4) ∧ pt_Cal YX1_firstFour (.invokestatic 25) [pt_r 3 t, pt_i l1, pt_i l2, pt_i l3, pt_i l4] M (some (pt_i 1)) M ∧ (¬ (1 : Int32) = (0 : Int32)) ∧ True) (by with_unfolding_all rfl) ⟨h1, h2, (pt_callS kX1_firstFour_25 mX1_breaksFour rfl (dX1_breaksFour_1 h1 h3 h4 h5 h6)), (by decide), trivial⟩
set_option maxRecDepth 100000 in
theorem gX1_firstFour_39_2 (t : Nat) (l1 : Int32) (l2 : Int32) (l3 : Int32) (l4 : Int32)  (M : pt_M) (h1 : t < 7) (h2 : ¬ (pt_F M 3 0 t) ≤ l4) (h3 : pt_in l1 10) (h4 : pt_in l2 10) (h5 : pt_in l3 10) (h6 : ¬ bf_P M t l1 l2 l3 l4) :
    pt_Go YX1_firstFour (39, [(0, pt_r 3 t), (1, pt_i l1), (2, pt_i l2), (3, pt_i l3), (4, pt_i l4)], [], M)
      (39, [(0, pt_r 3 t), (1, pt_i l1), (2, pt_i l2), (3, pt_i l3), (4, pt_i (l4 + 1))], [], M) :=
  pt_run_ok tX1_firstFour_ok 13 [.inl false, .inr (5, some (pt_i 0), M), .inl true] (P := (t < 7) ∧ (¬ (pt_F M 3 0 t) ≤ l4) ∧ pt_Cal YX1_firstFour (.invokestatic 25) [pt_r 3 t, pt_i l1, pt_i l2, pt_i l3, pt_i l4] M (some (pt_i 0)) M ∧ ((0 : Int32) = (0 : Int32)) ∧ True) (by with_unfolding_all rfl) ⟨h1, h2, (pt_callS kX1_firstFour_25 mX1_breaksFour rfl (dX1_breaksFour_0 h1 h3 h4 h5 h6)), (by decide), trivial⟩
set_option maxRecDepth 100000 in
theorem gX1_firstFour_39_3 (t : Nat) (l1 : Int32) (l2 : Int32) (l3 : Int32) (l4 : Int32)  (M : pt_M) (h1 : t < 7) (h2 : (pt_F M 3 0 t) ≤ l4) :
    pt_Go YX1_firstFour (39, [(0, pt_r 3 t), (1, pt_i l1), (2, pt_i l2), (3, pt_i l3), (4, pt_i l4)], [], M)
      (26, [(0, pt_r 3 t), (1, pt_i l1), (2, pt_i l2), (3, pt_i (l3 + 1))], [], M) :=
  (pt_run_ok tX1_firstFour_ok 6 [.inl true] (P := (t < 7) ∧ ((pt_F M 3 0 t) ≤ l4) ∧ True) (by with_unfolding_all rfl) ⟨h1, h2, trivial⟩ : pt_Go YX1_firstFour _ (26, [(0, pt_r 3 t), (1, pt_i l1), (2, pt_i l2), (3, pt_i (l3 + 1)), (4, pt_i l4)], [], M)).tr (pt_pick [0, 1, 2, 3] (by with_unfolding_all rfl))
theorem pt_dropA {Y : pt_Y} {pc : Nat} {l : List (Nat × pt_V)} {st : List pt_V} {M : pt_M} : pt_Go Y (pc, l, st, M) (pc, [], st, M) := pt_drop fun q hq => by cases hq
theorem dX1_firstFour {t n : Nat} {B : Nat → Nat → Nat → Bool} {M : pt_M} (h : tb_P M t n B) : pt_Does yX1_firstFour YX1_firstFour [pt_r 3 t] M (some (pt_i (nI (w4_F n B)))) M := by
  obtain ⟨ht, hn, hs, hB⟩ := h
  have hlt : ∀ i, i < n → ¬ pt_F M 3 0 t ≤ nI i := fun i hi => by rw [hs]; exact nI_ge hi (by omega)
  have hle : pt_F M 3 0 t ≤ nI n := by rw [hs]; exact Int32.le_refl _
  have hp : ∀ i, i < n → pt_in (nI i) 10 := fun i hi => pt_in_nI (by omega) (by decide)
  have K := pt_nest (Y := YX1_firstFour) (σ := (0, [(0, pt_r 3 t)], [], M)) (τ := (102, [], [pt_i 0], M)) (R := fun v => (76, [], [pt_i (nI v)], M)) (n := n) (i := 0)
    (S := fun a => (2, [(0, pt_r 3 t), (1, pt_i (nI a))], [], M)) (f := fun a => fs_F (n - (a + 1)) (a + 1) fun b => fs_F (n - (b + 1)) (b + 1) fun c => fs_F (n - (c + 1)) (c + 1) fun d => if b4_F B a b c d then some (2 ^ a ||| 2 ^ b ||| 2 ^ c ||| 2 ^ d) else none)
    (Nat.zero_le n) (gX1_firstFour_0_1 t M) ((gX1_firstFour_2_2 t (nI n) M ht hle).tr pt_dropA) fun a _ ha =>
    pt_nest (S := fun b => (14, [(0, pt_r 3 t), (1, pt_i (nI a)), (2, pt_i (nI b))], [], M)) (by omega) ((gX1_firstFour_2_1 t (nI a) M ht (hlt a ha)).to (by rw [nI_1])) ((gX1_firstFour_14_2 t (nI a) (nI n) M ht hle).to (by rw [nI_1])) fun b hb0 hb =>
    pt_nest (S := fun c => (26, [(0, pt_r 3 t), (1, pt_i (nI a)), (2, pt_i (nI b)), (3, pt_i (nI c))], [], M)) (by omega) ((gX1_firstFour_14_1 t (nI a) (nI b) M ht (hlt b hb)).to (by rw [nI_1])) ((gX1_firstFour_26_2 t (nI a) (nI b) (nI n) M ht hle).to (by rw [nI_1])) fun c hc0 hc =>
    pt_nest (S := fun d => (39, [(0, pt_r 3 t), (1, pt_i (nI a)), (2, pt_i (nI b)), (3, pt_i (nI c)), (4, pt_i (nI d))], [], M)) (by omega) ((gX1_firstFour_26_1 t (nI a) (nI b) (nI c) M ht (hlt c hc)).to (by rw [nI_1])) ((gX1_firstFour_39_3 t (nI a) (nI b) (nI c) (nI n) M ht hle).to (by rw [nI_1])) fun d hd0 hd => by
      have hbf := bf_B hB (a := a) (b := b) (c := c) (d := d) (by omega) (by omega) (by omega) (by omega)
      cases hv : b4_F B a b c d
      · refine ⟨fun v z => by simp at z, fun _ => ?_⟩
        exact (gX1_firstFour_39_2 t (nI a) (nI b) (nI c) (nI d) M ht (hlt d hd) (hp a ha) (hp b hb) (hp c hc) (fun z => by rw [hbf, hv] at z; cases z)).to (by rw [nI_1])
      · refine ⟨fun v z => ?_, fun z => by simp at z⟩
        simp only [if_true, Option.some.injEq] at z
        subst z
        refine ((gX1_firstFour_39_1 t (nI a) (nI b) (nI c) (nI d) M ht (hlt d hd) (hp a ha) (hp b hb) (hp c hc) (hbf.mpr hv)).tr pt_dropA).to ?_
        rw [pt_shl1 a (by omega), pt_shl1 b (by omega), pt_shl1 c (by omega), pt_shl1 d (by omega), pt_or, pt_or, pt_or]
  unfold w4_F
  cases hf : f4_F n B with
  | none => exact rX1_firstFour_102 (Nat.le_of_ble_eq_true rfl) rfl (K.2 hf)
  | some v => exact rX1_firstFour_76 (Nat.le_of_ble_eq_true rfl) rfl (K.1 v hf)
theorem rX1_firstFive_98 {vs : List pt_V} {M M' : pt_M} {x : Int32} {L : List (Nat × pt_V)} (hvs : (vs.map pt_w).sum ≤ 6) (hX : M'.2.2.2.2 = M.2.2.2.2) (h : pt_Go YX1_firstFive (0, pt_en 0 vs, [], M) (98, L, [pt_i x], M')) : pt_Does yX1_firstFive YX1_firstFive vs M (some (pt_i x)) M' := pt_does_go tX1_firstFive_ok nX1_firstFive hvs hX ⟨_, by with_unfolding_all rfl, rfl, _, rfl, rfl⟩ h
theorem rX1_firstFive_130 {vs : List pt_V} {M M' : pt_M} {x : Int32} {L : List (Nat × pt_V)} (hvs : (vs.map pt_w).sum ≤ 6) (hX : M'.2.2.2.2 = M.2.2.2.2) (h : pt_Go YX1_firstFive (0, pt_en 0 vs, [], M) (130, L, [pt_i x], M')) : pt_Does yX1_firstFive YX1_firstFive vs M (some (pt_i x)) M' := pt_does_go tX1_firstFive_ok nX1_firstFive hvs hX ⟨_, by with_unfolding_all rfl, rfl, _, rfl, rfl⟩ h
set_option maxRecDepth 100000 in
theorem gX1_firstFive_0_1 (t : Nat)  (M : pt_M) :
    pt_Go YX1_firstFive (0, [(0, pt_r 3 t)], [], M)
      (2, [(0, pt_r 3 t), (1, pt_i 0)], [], M) :=
  pt_run_ok tX1_firstFive_ok 2 [] (P := True) (by with_unfolding_all rfl) trivial
set_option maxRecDepth 100000 in
theorem gX1_firstFive_2_1 (t : Nat) (l1 : Int32)  (M : pt_M) (h1 : t < 7) (h2 : ¬ (pt_F M 3 0 t) ≤ l1) :
    pt_Go YX1_firstFive (2, [(0, pt_r 3 t), (1, pt_i l1)], [], M)
      (14, [(0, pt_r 3 t), (1, pt_i l1), (2, pt_i (l1 + 1))], [], M) :=
  pt_run_ok tX1_firstFive_ok 8 [.inl false] (P := (t < 7) ∧ (¬ (pt_F M 3 0 t) ≤ l1) ∧ True) (by with_unfolding_all rfl) ⟨h1, h2, trivial⟩
set_option maxRecDepth 100000 in
theorem gX1_firstFive_2_2 (t : Nat) (l1 : Int32)  (M : pt_M) (h1 : t < 7) (h2 : (pt_F M 3 0 t) ≤ l1) :
    pt_Go YX1_firstFive (2, [(0, pt_r 3 t), (1, pt_i l1)], [], M)
      (130, [(0, pt_r 3 t), (1, pt_i l1)], [pt_i 0], M) :=
  pt_run_ok tX1_firstFive_ok 5 [.inl true] (P := (t < 7) ∧ ((pt_F M 3 0 t) ≤ l1) ∧ True) (by with_unfolding_all rfl) ⟨h1, h2, trivial⟩
set_option maxRecDepth 100000 in
theorem gX1_firstFive_14_1 (t : Nat) (l1 : Int32) (l2 : Int32)  (M : pt_M) (h1 : t < 7) (h2 : ¬ (pt_F M 3 0 t) ≤ l2) :
    pt_Go YX1_firstFive (14, [(0, pt_r 3 t), (1, pt_i l1), (2, pt_i l2)], [], M)
      (26, [(0, pt_r 3 t), (1, pt_i l1), (2, pt_i l2), (3, pt_i (l2 + 1))], [], M) :=
  pt_run_ok tX1_firstFive_ok 8 [.inl false] (P := (t < 7) ∧ (¬ (pt_F M 3 0 t) ≤ l2) ∧ True) (by with_unfolding_all rfl) ⟨h1, h2, trivial⟩
set_option maxRecDepth 100000 in
theorem gX1_firstFive_14_2 (t : Nat) (l1 : Int32) (l2 : Int32)  (M : pt_M) (h1 : t < 7) (h2 : (pt_F M 3 0 t) ≤ l2) :
    pt_Go YX1_firstFive (14, [(0, pt_r 3 t), (1, pt_i l1), (2, pt_i l2)], [], M)
      (2, [(0, pt_r 3 t), (1, pt_i (l1 + 1))], [], M) :=
  (pt_run_ok tX1_firstFive_ok 6 [.inl true] (P := (t < 7) ∧ ((pt_F M 3 0 t) ≤ l2) ∧ True) (by with_unfolding_all rfl) ⟨h1, h2, trivial⟩ : pt_Go YX1_firstFive _ (2, [(0, pt_r 3 t), (1, pt_i (l1 + 1)), (2, pt_i l2)], [], M)).tr (pt_pick [0, 1] (by with_unfolding_all rfl))
set_option maxRecDepth 100000 in
theorem gX1_firstFive_26_1 (t : Nat) (l1 : Int32) (l2 : Int32) (l3 : Int32)  (M : pt_M) (h1 : t < 7) (h2 : ¬ (pt_F M 3 0 t) ≤ l3) :
    pt_Go YX1_firstFive (26, [(0, pt_r 3 t), (1, pt_i l1), (2, pt_i l2), (3, pt_i l3)], [], M)
      (39, [(0, pt_r 3 t), (1, pt_i l1), (2, pt_i l2), (3, pt_i l3), (4, pt_i (l3 + 1))], [], M) :=
  pt_run_ok tX1_firstFive_ok 8 [.inl false] (P := (t < 7) ∧ (¬ (pt_F M 3 0 t) ≤ l3) ∧ True) (by with_unfolding_all rfl) ⟨h1, h2, trivial⟩
set_option maxRecDepth 100000 in
theorem gX1_firstFive_26_2 (t : Nat) (l1 : Int32) (l2 : Int32) (l3 : Int32)  (M : pt_M) (h1 : t < 7) (h2 : (pt_F M 3 0 t) ≤ l3) :
    pt_Go YX1_firstFive (26, [(0, pt_r 3 t), (1, pt_i l1), (2, pt_i l2), (3, pt_i l3)], [], M)
      (14, [(0, pt_r 3 t), (1, pt_i l1), (2, pt_i (l2 + 1))], [], M) :=
  (pt_run_ok tX1_firstFive_ok 6 [.inl true] (P := (t < 7) ∧ ((pt_F M 3 0 t) ≤ l3) ∧ True) (by with_unfolding_all rfl) ⟨h1, h2, trivial⟩ : pt_Go YX1_firstFive _ (14, [(0, pt_r 3 t), (1, pt_i l1), (2, pt_i (l2 + 1)), (3, pt_i l3)], [], M)).tr (pt_pick [0, 1, 2] (by with_unfolding_all rfl))
set_option maxRecDepth 100000 in
theorem gX1_firstFive_39_1 (t : Nat) (l1 : Int32) (l2 : Int32) (l3 : Int32) (l4 : Int32)  (M : pt_M) (h1 : t < 7) (h2 : ¬ (pt_F M 3 0 t) ≤ l4) :
    pt_Go YX1_firstFive (39, [(0, pt_r 3 t), (1, pt_i l1), (2, pt_i l2), (3, pt_i l3), (4, pt_i l4)], [], M)
      (54, [(0, pt_r 3 t), (1, pt_i l1), (2, pt_i l2), (3, pt_i l3), (4, pt_i l4), (5, pt_i (l4 + 1))], [], M) :=
  pt_run_ok tX1_firstFive_ok 8 [.inl false] (P := (t < 7) ∧ (¬ (pt_F M 3 0 t) ≤ l4) ∧ True) (by with_unfolding_all rfl) ⟨h1, h2, trivial⟩
set_option maxRecDepth 100000 in
theorem gX1_firstFive_39_2 (t : Nat) (l1 : Int32) (l2 : Int32) (l3 : Int32) (l4 : Int32)  (M : pt_M) (h1 : t < 7) (h2 : (pt_F M 3 0 t) ≤ l4) :
    pt_Go YX1_firstFive (39, [(0, pt_r 3 t), (1, pt_i l1), (2, pt_i l2), (3, pt_i l3), (4, pt_i l4)], [], M)
      (26, [(0, pt_r 3 t), (1, pt_i l1), (2, pt_i l2), (3, pt_i (l3 + 1))], [], M) :=
  (pt_run_ok tX1_firstFive_ok 6 [.inl true] (P := (t < 7) ∧ ((pt_F M 3 0 t) ≤ l4) ∧ True) (by with_unfolding_all rfl) ⟨h1, h2, trivial⟩ : pt_Go YX1_firstFive _ (26, [(0, pt_r 3 t), (1, pt_i l1), (2, pt_i l2), (3, pt_i (l3 + 1)), (4, pt_i l4)], [], M)).tr (pt_pick [0, 1, 2, 3] (by with_unfolding_all rfl))
set_option maxRecDepth 100000 in
theorem gX1_firstFive_54_1 (t : Nat) (l1 : Int32) (l2 : Int32) (l3 : Int32) (l4 : Int32) (l5 : Int32)  (M : pt_M) (h1 : t < 7) (h2 : ¬ (pt_F M 3 0 t) ≤ l5) (h3 : pt_in l1 10) (h4 : pt_in l2 10) (h5 : pt_in l3 10) (h6 : pt_in l4 10) (h7 : pt_in l5 10) (h8 : bv_P M t l1 l2 l3 l4 l5) :
    pt_Go YX1_firstFive (54, [(0, pt_r 3 t), (1, pt_i l1), (2, pt_i l2), (3, pt_i l3), (4, pt_i l4), (5, pt_i l5)], [], M)
      (98, [(0, pt_r 3 t), (1, pt_i l1), (2, pt_i l2), (3, pt_i l3), (4, pt_i l4), (5, pt_i l5)], [pt_i ((((((1 : Int32) <<< (l1 &&& 31)) ||| ((1 : Int32) <<< (l2 &&& 31))) ||| ((1 : Int32) <<< (l3 &&& 31))) ||| ((1 : Int32) <<< (l4 &&& 31))) ||| ((1 : Int32) <<< (l5 &&& 31)))], M) :=
  pt_run_ok tX1_firstFive_ok 31 [.inl false, .inr (6, some (pt_i 1), M), .inl false] (P := (t < 7) ∧ (¬ (pt_F M 3 0 t) ≤ l5) ∧ pt_Cal YX1_firstFive (.invokestatic 33) [pt_r 3 t, pt_i l1, pt_i l2, pt_i l3, pt_i l4, pt_i l5] M (some (pt_i 1)) M ∧ (¬ (1 : Int32) = (0 : Int32)) ∧ True) (by with_unfolding_all rfl) ⟨h1, h2, (pt_callS kX1_firstFive_33 mX1_breaksFive rfl (dX1_breaksFive_1 h1 h3 h4 h5 h6 h7 h8)), (by decide), trivial⟩
set_option maxRecDepth 100000 in
theorem gX1_firstFive_54_2 (t : Nat) (l1 : Int32) (l2 : Int32) (l3 : Int32) (l4 : Int32) (l5 : Int32)  (M : pt_M) (h1 : t < 7) (h2 : ¬ (pt_F M 3 0 t) ≤ l5) (h3 : pt_in l1 10) (h4 : pt_in l2 10) (h5 : pt_in l3 10) (h6 : pt_in l4 10) (h7 : pt_in l5 10) (h8 : ¬ bv_P M t l1 l2 l3 l4 l5) :
    pt_Go YX1_firstFive (54, [(0, pt_r 3 t), (1, pt_i l1), (2, pt_i l2), (3, pt_i l3), (4, pt_i l4), (5, pt_i l5)], [], M)
      (54, [(0, pt_r 3 t), (1, pt_i l1), (2, pt_i l2), (3, pt_i l3), (4, pt_i l4), (5, pt_i (l5 + 1))], [], M) :=
  pt_run_ok tX1_firstFive_ok 14 [.inl false, .inr (6, some (pt_i 0), M), .inl true] (P := (t < 7) ∧ (¬ (pt_F M 3 0 t) ≤ l5) ∧ pt_Cal YX1_firstFive (.invokestatic 33) [pt_r 3 t, pt_i l1, pt_i l2, pt_i l3, pt_i l4, pt_i l5] M (some (pt_i 0)) M ∧ ((0 : Int32) = (0 : Int32)) ∧ True) (by with_unfolding_all rfl) ⟨h1, h2, (pt_callS kX1_firstFive_33 mX1_breaksFive rfl (dX1_breaksFive_0 h1 h3 h4 h5 h6 h7 h8)), (by decide), trivial⟩
set_option maxRecDepth 100000 in
theorem gX1_firstFive_54_3 (t : Nat) (l1 : Int32) (l2 : Int32) (l3 : Int32) (l4 : Int32) (l5 : Int32)  (M : pt_M) (h1 : t < 7) (h2 : (pt_F M 3 0 t) ≤ l5) :
    pt_Go YX1_firstFive (54, [(0, pt_r 3 t), (1, pt_i l1), (2, pt_i l2), (3, pt_i l3), (4, pt_i l4), (5, pt_i l5)], [], M)
      (39, [(0, pt_r 3 t), (1, pt_i l1), (2, pt_i l2), (3, pt_i l3), (4, pt_i (l4 + 1))], [], M) :=
  (pt_run_ok tX1_firstFive_ok 6 [.inl true] (P := (t < 7) ∧ ((pt_F M 3 0 t) ≤ l5) ∧ True) (by with_unfolding_all rfl) ⟨h1, h2, trivial⟩ : pt_Go YX1_firstFive _ (39, [(0, pt_r 3 t), (1, pt_i l1), (2, pt_i l2), (3, pt_i l3), (4, pt_i (l4 + 1)), (5, pt_i l5)], [], M)).tr (pt_pick [0, 1, 2, 3, 4] (by with_unfolding_all rfl))
theorem dX1_firstFive {t n : Nat} {B : Nat → Nat → Nat → Bool} {M : pt_M} (h : tb_P M t n B) : pt_Does yX1_firstFive YX1_firstFive [pt_r 3 t] M (some (pt_i (nI (w5_F n B)))) M := by
  obtain ⟨ht, hn, hs, hB⟩ := h
  have hlt : ∀ i, i < n → ¬ pt_F M 3 0 t ≤ nI i := fun i hi => by rw [hs]; exact nI_ge hi (by omega)
  have hle : pt_F M 3 0 t ≤ nI n := by rw [hs]; exact Int32.le_refl _
  have hp : ∀ i, i < n → pt_in (nI i) 10 := fun i hi => pt_in_nI (by omega) (by decide)
  have K := pt_nest (Y := YX1_firstFive) (σ := (0, [(0, pt_r 3 t)], [], M)) (τ := (130, [], [pt_i 0], M)) (R := fun v => (98, [], [pt_i (nI v)], M)) (n := n) (i := 0)
    (S := fun a => (2, [(0, pt_r 3 t), (1, pt_i (nI a))], [], M)) (f := fun a => fs_F (n - (a + 1)) (a + 1) fun b => fs_F (n - (b + 1)) (b + 1) fun c => fs_F (n - (c + 1)) (c + 1) fun d => fs_F (n - (d + 1)) (d + 1) fun e => if b5_F B a b c d e then some (2 ^ a ||| 2 ^ b ||| 2 ^ c ||| 2 ^ d ||| 2 ^ e) else none)
    (Nat.zero_le n) (gX1_firstFive_0_1 t M) ((gX1_firstFive_2_2 t (nI n) M ht hle).tr pt_dropA) fun a _ ha =>
    pt_nest (S := fun b => (14, [(0, pt_r 3 t), (1, pt_i (nI a)), (2, pt_i (nI b))], [], M)) (by omega) ((gX1_firstFive_2_1 t (nI a) M ht (hlt a ha)).to (by rw [nI_1])) ((gX1_firstFive_14_2 t (nI a) (nI n) M ht hle).to (by rw [nI_1])) fun b hb0 hb =>
    pt_nest (S := fun c => (26, [(0, pt_r 3 t), (1, pt_i (nI a)), (2, pt_i (nI b)), (3, pt_i (nI c))], [], M)) (by omega) ((gX1_firstFive_14_1 t (nI a) (nI b) M ht (hlt b hb)).to (by rw [nI_1])) ((gX1_firstFive_26_2 t (nI a) (nI b) (nI n) M ht hle).to (by rw [nI_1])) fun c hc0 hc =>
    pt_nest (S := fun d => (39, [(0, pt_r 3 t), (1, pt_i (nI a)), (2, pt_i (nI b)), (3, pt_i (nI c)), (4, pt_i (nI d))], [], M)) (by omega) ((gX1_firstFive_26_1 t (nI a) (nI b) (nI c) M ht (hlt c hc)).to (by rw [nI_1])) ((gX1_firstFive_39_2 t (nI a) (nI b) (nI c) (nI n) M ht hle).to (by rw [nI_1])) fun d hd0 hd =>
    pt_nest (S := fun e => (54, [(0, pt_r 3 t), (1, pt_i (nI a)), (2, pt_i (nI b)), (3, pt_i (nI c)), (4, pt_i (nI d)), (5, pt_i (nI e))], [], M)) (by omega) ((gX1_firstFive_39_1 t (nI a) (nI b) (nI c) (nI d) M ht (hlt d hd)).to (by rw [nI_1])) ((gX1_firstFive_54_3 t (nI a) (nI b) (nI c) (nI d) (nI n) M ht hle).to (by rw [nI_1])) fun e he0 he => by
      have hbf := bv_B hB (a := a) (b := b) (c := c) (d := d) (e := e) (by omega) (by omega) (by omega) (by omega) (by omega)
      cases hv : b5_F B a b c d e
      · refine ⟨fun v z => by simp at z, fun _ => ?_⟩
        exact (gX1_firstFive_54_2 t (nI a) (nI b) (nI c) (nI d) (nI e) M ht (hlt e he) (hp a ha) (hp b hb) (hp c hc) (hp d hd) (hp e he) (fun z => by rw [hbf, hv] at z; cases z)).to (by rw [nI_1])
      · refine ⟨fun v z => ?_, fun z => by simp at z⟩
        simp only [if_true, Option.some.injEq] at z
        subst z
        refine ((gX1_firstFive_54_1 t (nI a) (nI b) (nI c) (nI d) (nI e) M ht (hlt e he) (hp a ha) (hp b hb) (hp c hc) (hp d hd) (hp e he) (hbf.mpr hv)).tr pt_dropA).to ?_
        rw [pt_shl1 a (by omega), pt_shl1 b (by omega), pt_shl1 c (by omega), pt_shl1 d (by omega), pt_shl1 e (by omega), pt_or, pt_or, pt_or, pt_or]
  unfold w5_F
  cases hf : f5_F n B with
  | none => exact rX1_firstFive_130 (Nat.le_of_ble_eq_true rfl) rfl (K.2 hf)
  | some v => exact rX1_firstFive_98 (Nat.le_of_ble_eq_true rfl) rfl (K.1 v hf)
theorem pt_wF_self {M : pt_M} {k f i : Nat} {v : Int32} (h : pt_F M k f i = v) : pt_wF M k f i v = M := by
  obtain ⟨F, X⟩ := M
  unfold pt_wF
  congr 1
  funext k' f' i'
  dsimp only
  split
  · rename_i hq
    obtain ⟨rfl, rfl, rfl⟩ := hq
    exact h.symm
  · rfl
/-- the fault that is kept is the table's, or none is kept -/
def fa_P (M : pt_M) (t n : Nat) (B : Nat → Nat → Nat → Bool) : Prop := pt_F M 3 2 t = -2 ∨ pt_F M 3 2 t = nI (wy_F n B)
theorem fs_lt {α : Type} {P : α → Prop} {f : Nat → Option α} : ∀ {d i : Nat} {v : α}, (∀ j w, i ≤ j → j < i + d → f j = some w → P w) → fs_F d i f = some v → P v
  | 0, i, v, _, h => by cases h
  | d + 1, i, v, hf, h => by
    unfold fs_F at h
    cases hi : f i with
    | some w => rw [hi] at h; cases h; exact hf i v (Nat.le_refl i) (by omega) hi
    | none => rw [hi] at h; exact fs_lt (fun j w h1 h2 h3 => hf j w (by omega) (by omega) h3) h
theorem p2_lt {a : Nat} (h : a < 10) : 2 ^ a < 2 ^ 10 := Nat.pow_lt_pow_right (by decide) h
theorem or_ne {a : Nat} (x : Nat) : x ||| 2 ^ a ≠ 0 := by
  intro h
  have h1 : (x ||| 2 ^ a).testBit a = true := by simp [Nat.testBit_or, Nat.testBit_two_pow]
  rw [h] at h1
  simp at h1
theorem f4_ok {n : Nat} {B : Nat → Nat → Nat → Bool} (hn : n ≤ 10) {v : Nat} (h : f4_F n B = some v) : v < 1024 ∧ v ≠ 0 := by
  refine fs_lt (P := fun v => v < 1024 ∧ v ≠ 0) (fun a w ha1 ha2 h => ?_) h
  refine fs_lt (P := fun v => v < 1024 ∧ v ≠ 0) (fun b w hb1 hb2 h => ?_) h
  refine fs_lt (P := fun v => v < 1024 ∧ v ≠ 0) (fun c w hc1 hc2 h => ?_) h
  refine fs_lt (P := fun v => v < 1024 ∧ v ≠ 0) (fun d w hd1 hd2 h => ?_) h
  split at h
  · cases h
    exact ⟨Nat.or_lt_two_pow (n := 10) (Nat.or_lt_two_pow (Nat.or_lt_two_pow (p2_lt (by omega)) (p2_lt (by omega))) (p2_lt (by omega))) (p2_lt (by omega)), or_ne _⟩
  · cases h
theorem f5_ok {n : Nat} {B : Nat → Nat → Nat → Bool} (hn : n ≤ 10) {v : Nat} (h : f5_F n B = some v) : v < 1024 ∧ v ≠ 0 := by
  refine fs_lt (P := fun v => v < 1024 ∧ v ≠ 0) (fun a w ha1 ha2 h => ?_) h
  refine fs_lt (P := fun v => v < 1024 ∧ v ≠ 0) (fun b w hb1 hb2 h => ?_) h
  refine fs_lt (P := fun v => v < 1024 ∧ v ≠ 0) (fun c w hc1 hc2 h => ?_) h
  refine fs_lt (P := fun v => v < 1024 ∧ v ≠ 0) (fun d w hd1 hd2 h => ?_) h
  refine fs_lt (P := fun v => v < 1024 ∧ v ≠ 0) (fun e w he1 he2 h => ?_) h
  split at h
  · cases h
    exact ⟨Nat.or_lt_two_pow (n := 10) (Nat.or_lt_two_pow (Nat.or_lt_two_pow (Nat.or_lt_two_pow (p2_lt (by omega)) (p2_lt (by omega))) (p2_lt (by omega))) (p2_lt (by omega))) (p2_lt (by omega)), or_ne _⟩
  · cases h
theorem w4_lt {n : Nat} {B : Nat → Nat → Nat → Bool} (hn : n ≤ 10) : w4_F n B < 1024 := by
  unfold w4_F
  cases h : f4_F n B with
  | none => decide
  | some v => exact (f4_ok hn h).1
theorem w5_lt {n : Nat} {B : Nat → Nat → Nat → Bool} (hn : n ≤ 10) : w5_F n B < 1024 := by
  unfold w5_F
  cases h : f5_F n B with
  | none => decide
  | some v => exact (f5_ok hn h).1
theorem wy_lt {n : Nat} {B : Nat → Nat → Nat → Bool} (hn : n ≤ 10) : wy_F n B < 1024 := by
  unfold wy_F
  split
  · exact w5_lt hn
  · exact w4_lt hn
theorem nI_0' {a : Nat} (ha : a < 2 ^ 31) : nI a = 0 ↔ a = 0 := nI_eq ha (by decide)
theorem rX1_faultOf_34 {vs : List pt_V} {M M' : pt_M} {x : Int32} {L : List (Nat × pt_V)} (hvs : (vs.map pt_w).sum ≤ 2) (hX : M'.2.2.2.2 = M.2.2.2.2) (h : pt_Go YX1_faultOf (0, pt_en 0 vs, [], M) (34, L, [pt_i x], M')) : pt_Does yX1_faultOf YX1_faultOf vs M (some (pt_i x)) M' := pt_does_go tX1_faultOf_ok nX1_faultOf hvs hX ⟨_, by with_unfolding_all rfl, rfl, _, rfl, rfl⟩ h
set_option maxRecDepth 100000 in
theorem gX1_faultOf_0_1 (t : Nat) (n : Nat) (B : Nat → Nat → Nat → Bool) (M : pt_M) (h1 : t < 7) (h2 : (pt_F M 3 2 t) = (-2)) (h3 : tb_P M t n B) (h4 : ¬ (nI (w4_F n B)) = 0) :
    pt_Go YX1_faultOf (0, [(0, pt_r 3 t)], [], M)
      (34, [(0, pt_r 3 t), (1, pt_i (nI (w4_F n B)))], [pt_i (pt_F (pt_wF M 3 2 t (nI (w4_F n B))) 3 2 t)], (pt_wF M 3 2 t (nI (w4_F n B)))) :=
  pt_run_ok tX1_faultOf_ok 15 [.inl false, .inr (1, some (pt_i (nI (w4_F n B))), M), .inl false] (P := (t < 7) ∧ ((pt_F M 3 2 t) = (-2)) ∧ pt_Cal YX1_faultOf (.invokestatic 13) [pt_r 3 t] M (some (pt_i (nI (w4_F n B)))) M ∧ (¬ (nI (w4_F n B)) = 0) ∧ (t < 7) ∧ (t < 7) ∧ True) (by with_unfolding_all rfl) ⟨h1, h2, (pt_callS kX1_faultOf_13 mX1_firstFour rfl (dX1_firstFour h3)), h4, h1, h1, trivial⟩
set_option maxRecDepth 100000 in
theorem gX1_faultOf_0_2 (t : Nat) (n : Nat) (B : Nat → Nat → Nat → Bool) (M : pt_M) (h1 : t < 7) (h2 : (pt_F M 3 2 t) = (-2)) (h3 : tb_P M t n B) (h4 : (nI (w4_F n B)) = 0) :
    pt_Go YX1_faultOf (0, [(0, pt_r 3 t)], [], M)
      (34, [(0, pt_r 3 t), (1, pt_i (nI (w4_F n B)))], [pt_i (pt_F (pt_wF M 3 2 t (nI (w5_F n B))) 3 2 t)], (pt_wF M 3 2 t (nI (w5_F n B)))) :=
  pt_run_ok tX1_faultOf_ok 15 [.inl false, .inr (1, some (pt_i (nI (w4_F n B))), M), .inl true, .inr (1, some (pt_i (nI (w5_F n B))), M)] (P := (t < 7) ∧ ((pt_F M 3 2 t) = (-2)) ∧ pt_Cal YX1_faultOf (.invokestatic 13) [pt_r 3 t] M (some (pt_i (nI (w4_F n B)))) M ∧ ((nI (w4_F n B)) = 0) ∧ pt_Cal YX1_faultOf (.invokestatic 19) [pt_r 3 t] M (some (pt_i (nI (w5_F n B)))) M ∧ (t < 7) ∧ (t < 7) ∧ True) (by with_unfolding_all rfl) ⟨h1, h2, (pt_callS kX1_faultOf_13 mX1_firstFour rfl (dX1_firstFour h3)), h4, (pt_callS kX1_faultOf_19 mX1_firstFive rfl (dX1_firstFive h3)), h1, h1, trivial⟩
set_option maxRecDepth 100000 in
theorem gX1_faultOf_0_3 (t : Nat) (n : Nat) (B : Nat → Nat → Nat → Bool) (M : pt_M) (h1 : t < 7) (h2 : ¬ (pt_F M 3 2 t) = (-2)) :
    pt_Go YX1_faultOf (0, [(0, pt_r 3 t)], [], M)
      (34, [(0, pt_r 3 t)], [pt_i (pt_F M 3 2 t)], M) :=
  pt_run_ok tX1_faultOf_ok 6 [.inl true] (P := (t < 7) ∧ (¬ (pt_F M 3 2 t) = (-2)) ∧ (t < 7) ∧ True) (by with_unfolding_all rfl) ⟨h1, h2, h1, trivial⟩
theorem dX1_faultOf {t n : Nat} {B : Nat → Nat → Nat → Bool} {M : pt_M} (h : tb_P M t n B) (hf : fa_P M t n B) : pt_Does yX1_faultOf YX1_faultOf [pt_r 3 t] M (some (pt_i (nI (wy_F n B)))) (pt_wF M 3 2 t (nI (wy_F n B))) := by
  have hn := h.2.1
  have h4 := w4_lt (B := B) hn
  by_cases hu : pt_F M 3 2 t = -2
  · by_cases h0 : w4_F n B = 0
    · have e : wy_F n B = w5_F n B := by unfold wy_F; rw [if_pos h0]
      rw [e]
      exact rX1_faultOf_34 (Nat.le_of_ble_eq_true rfl) rfl ((gX1_faultOf_0_2 t n B M h.1 hu h ((nI_0' (by omega)).mpr h0)).toS (by rw [pt_F_wF, if_pos ⟨rfl, rfl, rfl⟩]) rfl)
    · have e : wy_F n B = w4_F n B := by unfold wy_F; rw [if_neg h0]
      rw [e]
      exact rX1_faultOf_34 (Nat.le_of_ble_eq_true rfl) rfl ((gX1_faultOf_0_1 t n B M h.1 hu h (fun z => h0 ((nI_0' (by omega)).mp z))).toS (by rw [pt_F_wF, if_pos ⟨rfl, rfl, rfl⟩]) rfl)
  · have hv : pt_F M 3 2 t = nI (wy_F n B) := hf.resolve_left hu
    exact rX1_faultOf_34 (Nat.le_of_ble_eq_true rfl) rfl ((gX1_faultOf_0_3 t n B M h.1 hu).toS (by rw [hv]) (pt_wF_self hv).symm)
end
section
/-! Rims: sets of points as bits -/
def pc_F (m : Nat) : Nat := ((List.range 10).filter fun k => m.testBit k).length
set_option maxRecDepth 100000 in
theorem bc_tab : ((List.range 1024).all fun m => decide (bc_F (nI m) = nI (pc_F m))) = true := by decide +kernel
theorem bc_nI {m : Nat} (h : m < 1024) : bc_F (nI m) = nI (pc_F m) := of_decide_eq_true (pt_all bc_tab h)
theorem pc_le (m : Nat) : pc_F m ≤ 10 := by
  unfold pc_F
  exact Nat.le_trans (List.length_filter_le _ _) (by simp)
def an_F (a b : Nat) : Nat := a &&& (b ^^^ (2 ^ 32 - 1))
theorem an_bit (a b k : Nat) (hk : k < 32) : (an_F a b).testBit k = (a.testBit k && !b.testBit k) := by
  unfold an_F
  rw [Nat.testBit_and, Nat.testBit_xor, Nat.testBit_two_pow_sub_one]
  simp [hk]
theorem an_le (a b : Nat) : an_F a b ≤ a := Nat.and_le_left
theorem an_nI (a b : Nat) : nI a &&& (nI b ^^^ (-1)) = nI (an_F a b) := by
  rw [show (-1 : Int32) = nI (2 ^ 32 - 1) from rfl, pt_xor, pt_and]
  rfl
theorem in_nI {m i : Nat} (hm : m < 1024) (hi : i < 10) : in_P (nI m) (nI i) ↔ m.testBit i = true := pt_bit1 (by omega) (by omega)
theorem nI_m1 {j : Nat} (h : j < 2 ^ 31) : ¬ nI j = -1 := fun z => nI_pos h (by rw [z]; decide)
/-- whether j is NEXT to i among the set m -/
def nq_F (B : Nat → Nat → Nat → Bool) (m i j : Nat) : Bool := decide (j ≠ i) && (m.testBit j && (List.range 10).all fun k => decide (k = i) || (decide (k = j) || (!m.testBit k || B i j k)))
def nx_F (n : Nat) (B : Nat → Nat → Nat → Bool) (m i : Nat) : Option Nat := fs_F (n - 0) 0 fun j => if nq_F B m i j then some j else none
def nx_I (n : Nat) (B : Nat → Nat → Nat → Bool) (s i : Int32) : Int32 := match nx_F n B (pt_nt s) (pt_nt i) with
  | some j => nI j
  | none => -1
def sn_P (s i : Int32) (n : Nat) : Prop := ∃ m a, s = nI m ∧ i = nI a ∧ m < 1024 ∧ a < n
def st_P (s : Int32) (n : Nat) : Prop := ∃ m, s = nI m ∧ m < 1024
theorem nx_lt {n : Nat} {B : Nat → Nat → Nat → Bool} {m i j : Nat} (h : nx_F n B m i = some j) : j < n ∧ nq_F B m i j = true := by
  refine fs_lt (P := fun j => j < n ∧ nq_F B m i j = true) (fun a w h1 h2 h3 => ?_) h
  split at h3
  · rename_i hq
    cases h3
    exact ⟨by omega, hq⟩
  · cases h3
theorem nx_nI {n m i : Nat} {B : Nat → Nat → Nat → Bool} (hm : m < 1024) (hi : i < 2 ^ 31) : nx_I n B (nI m) (nI i) = match nx_F n B m i with
  | some j => nI j
  | none => -1 := by
  unfold nx_I
  rw [pt_nt_nI (by omega), pt_nt_nI hi]
theorem nx_eq {n m i : Nat} {B : Nat → Nat → Nat → Bool} (hn : n ≤ 10) (hm : m < 1024) (hi : i < 2 ^ 31) : nx_I n B (nI m) (nI i) = -1 ↔ (nx_F n B m i).isSome = false := by
  rw [nx_nI hm hi]
  cases h : nx_F n B m i with
  | none => simp
  | some j =>
    have := (nx_lt h).1
    simp only [Option.isSome_some, Bool.true_eq_false, iff_false]
    exact nI_m1 (by omega)
theorem nx_c {m i j : Nat} {p : Nat → Bool} (hm : m < 1024) (hi : i < 10) (hj : j < 10) : ((nI m &&& ((((1 : Int32) <<< (nI i &&& 31)) ||| ((1 : Int32) <<< (nI j &&& 31))) ^^^ (-1))) &&& ((nI (pb_s 10 p)) ^^^ (-1))) = 0 ↔ ((List.range 10).all fun k => decide (k = i) || (decide (k = j) || (!m.testBit k || p k))) = true := by
  rw [pt_shl1 i (by omega), pt_shl1 j (by omega), pt_or, an_nI, an_nI]
  have h1 : an_F (an_F m (2 ^ i ||| 2 ^ j)) (pb_s 10 p) < 1024 := Nat.lt_of_le_of_lt (an_le _ _) (Nat.lt_of_le_of_lt (an_le _ _) hm)
  rw [nI_0' (by omega), List.all_eq_true]
  constructor
  · intro h k hk
    have hk' : k < 10 := List.mem_range.mp hk
    have h2 : (an_F (an_F m (2 ^ i ||| 2 ^ j)) (pb_s 10 p)).testBit k = false := by rw [h]; simp
    rw [an_bit _ _ _ (by omega), an_bit _ _ _ (by omega), Nat.testBit_or, Nat.testBit_two_pow, Nat.testBit_two_pow, pb_bit] at h2
    by_cases e1 : k = i
    · simp [e1]
    by_cases e2 : k = j
    · simp [e2]
    have e3 : ¬ i = k := fun z => e1 z.symm
    have e4 : ¬ j = k := fun z => e2 z.symm
    simp only [e3, e4, hk', decide_false, decide_true, Bool.or_false, Bool.not_false, Bool.and_true, Bool.true_and] at h2
    simp only [e1, e2, decide_false, Bool.false_or]
    cases hmk : m.testBit k <;> cases hpk : p k <;> simp_all
  · intro h
    apply pb_ext (n := 10) h1 (by decide)
    intro k hk
    have h2 := h k (List.mem_range.mpr hk)
    rw [an_bit _ _ _ (by omega), an_bit _ _ _ (by omega), Nat.testBit_or, Nat.testBit_two_pow, Nat.testBit_two_pow, pb_bit]
    by_cases e1 : k = i
    · subst e1
      simp
    by_cases e2 : k = j
    · subst e2
      simp
    simp only [e1, e2, decide_false, Bool.false_or] at h2
    cases hmk : m.testBit k <;> cases hpk : p k <;> simp_all
theorem rX2_leastOf_19 {vs : List pt_V} {M M' : pt_M} {x : Int32} {L : List (Nat × pt_V)} (hvs : (vs.map pt_w).sum ≤ 3) (hX : M'.2.2.2.2 = M.2.2.2.2) (h : pt_Go YX2_leastOf (0, pt_en 0 vs, [], M) (19, L, [pt_i x], M')) : pt_Does yX2_leastOf YX2_leastOf vs M (some (pt_i x)) M' := pt_does_go tX2_leastOf_ok nX2_leastOf hvs hX ⟨_, by with_unfolding_all rfl, rfl, _, rfl, rfl⟩ h
theorem rX2_leastOf_27 {vs : List pt_V} {M M' : pt_M} {x : Int32} {L : List (Nat × pt_V)} (hvs : (vs.map pt_w).sum ≤ 3) (hX : M'.2.2.2.2 = M.2.2.2.2) (h : pt_Go YX2_leastOf (0, pt_en 0 vs, [], M) (27, L, [pt_i x], M')) : pt_Does yX2_leastOf YX2_leastOf vs M (some (pt_i x)) M' := pt_does_go tX2_leastOf_ok nX2_leastOf hvs hX ⟨_, by with_unfolding_all rfl, rfl, _, rfl, rfl⟩ h
set_option maxRecDepth 100000 in
theorem gX2_leastOf_0_1 (t : Nat) (x2 : Int32)  (M : pt_M) :
    pt_Go YX2_leastOf (0, [(0, pt_r 3 t), (1, pt_i x2)], [], M)
      (2, [(0, pt_r 3 t), (1, pt_i x2), (2, pt_i 0)], [], M) :=
  pt_run_ok tX2_leastOf_ok 2 [] (P := True) (by with_unfolding_all rfl) trivial
set_option maxRecDepth 100000 in
theorem gX2_leastOf_2_1 (t : Nat) (l1 : Int32) (l2 : Int32)  (M : pt_M) (h1 : t < 7) (h2 : ¬ (pt_F M 3 0 t) ≤ l2) (h3 : in_P l1 l2) :
    pt_Go YX2_leastOf (2, [(0, pt_r 3 t), (1, pt_i l1), (2, pt_i l2)], [], M)
      (19, [(0, pt_r 3 t), (1, pt_i l1), (2, pt_i l2)], [pt_i l2], M) :=
  pt_run_ok tX2_leastOf_ok 9 [.inl false, .inr (2, some (pt_i 1), M), .inl false] (P := (t < 7) ∧ (¬ (pt_F M 3 0 t) ≤ l2) ∧ pt_Cal YX2_leastOf (.invokestatic 15) [pt_i l1, pt_i l2] M (some (pt_i 1)) M ∧ (¬ (1 : Int32) = (0 : Int32)) ∧ True) (by with_unfolding_all rfl) ⟨h1, h2, (pt_callS kX2_leastOf_15 mX2_isIn rfl (dX2_isIn_1 h3)), (by decide), trivial⟩
set_option maxRecDepth 100000 in
theorem gX2_leastOf_2_2 (t : Nat) (l1 : Int32) (l2 : Int32)  (M : pt_M) (h1 : t < 7) (h2 : ¬ (pt_F M 3 0 t) ≤ l2) (h3 : ¬ in_P l1 l2) :
    pt_Go YX2_leastOf (2, [(0, pt_r 3 t), (1, pt_i l1), (2, pt_i l2)], [], M)
      (2, [(0, pt_r 3 t), (1, pt_i l1), (2, pt_i (l2 + 1))], [], M) :=
  pt_run_ok tX2_leastOf_ok 10 [.inl false, .inr (2, some (pt_i 0), M), .inl true] (P := (t < 7) ∧ (¬ (pt_F M 3 0 t) ≤ l2) ∧ pt_Cal YX2_leastOf (.invokestatic 15) [pt_i l1, pt_i l2] M (some (pt_i 0)) M ∧ ((0 : Int32) = (0 : Int32)) ∧ True) (by with_unfolding_all rfl) ⟨h1, h2, (pt_callS kX2_leastOf_15 mX2_isIn rfl (dX2_isIn_0 h3)), (by decide), trivial⟩
set_option maxRecDepth 100000 in
theorem gX2_leastOf_2_3 (t : Nat) (l1 : Int32) (l2 : Int32)  (M : pt_M) (h1 : t < 7) (h2 : (pt_F M 3 0 t) ≤ l2) :
    pt_Go YX2_leastOf (2, [(0, pt_r 3 t), (1, pt_i l1), (2, pt_i l2)], [], M)
      (27, [(0, pt_r 3 t), (1, pt_i l1), (2, pt_i l2)], [pt_i (-1)], M) :=
  pt_run_ok tX2_leastOf_ok 5 [.inl true] (P := (t < 7) ∧ ((pt_F M 3 0 t) ≤ l2) ∧ True) (by with_unfolding_all rfl) ⟨h1, h2, trivial⟩
def le_F (n m : Nat) : Option Nat := fs_F (n - 0) 0 fun p => if m.testBit p then some p else none
theorem dX2_leastOf {t n m : Nat} {B : Nat → Nat → Nat → Bool} {M : pt_M} (h : tb_P M t n B) (hm : m < 1024) : (∀ p, le_F n m = some p → pt_Does yX2_leastOf YX2_leastOf [pt_r 3 t, pt_i (nI m)] M (some (pt_i (nI p))) M) ∧ (le_F n m = none → pt_Does yX2_leastOf YX2_leastOf [pt_r 3 t, pt_i (nI m)] M (some (pt_i (-1))) M) := by
  obtain ⟨ht, hn, hs, hB⟩ := h
  have hlt : ∀ i, i < n → ¬ pt_F M 3 0 t ≤ nI i := fun i hi => by rw [hs]; exact nI_ge hi (by omega)
  have hle : pt_F M 3 0 t ≤ nI n := by rw [hs]; exact Int32.le_refl _
  have K := pt_nest (Y := YX2_leastOf) (σ := (0, [(0, pt_r 3 t), (1, pt_i (nI m))], [], M)) (τ := (27, [], [pt_i (-1)], M)) (R := fun v => (19, [], [pt_i (nI v)], M)) (n := n) (i := 0)
    (S := fun a => (2, [(0, pt_r 3 t), (1, pt_i (nI m)), (2, pt_i (nI a))], [], M)) (f := fun p => if m.testBit p then some p else none)
    (Nat.zero_le n) (gX2_leastOf_0_1 t (nI m) M) ((gX2_leastOf_2_3 t (nI m) (nI n) M ht hle).tr pt_dropA) fun a _ ha => by
      have hin := in_nI (i := a) hm (by omega)
      cases hv : m.testBit a
      · exact ⟨fun v z => by simp at z, fun _ => (gX2_leastOf_2_2 t (nI m) (nI a) M ht (hlt a ha) (fun z => by rw [hin, hv] at z; cases z)).to (by rw [nI_1])⟩
      · refine ⟨fun v z => ?_, fun z => by simp at z⟩
        simp only [if_true, Option.some.injEq] at z
        subst z
        exact (gX2_leastOf_2_1 t (nI m) (nI a) M ht (hlt a ha) (hin.mpr hv)).tr pt_dropA
  exact ⟨fun p hp => rX2_leastOf_19 (Nat.le_of_ble_eq_true rfl) rfl (K.1 p hp), fun hp => rX2_leastOf_27 (Nat.le_of_ble_eq_true rfl) rfl (K.2 hp)⟩
theorem rX2_nextTo_51 {vs : List pt_V} {M M' : pt_M} {x : Int32} {L : List (Nat × pt_V)} (hvs : (vs.map pt_w).sum ≤ 5) (hX : M'.2.2.2.2 = M.2.2.2.2) (h : pt_Go YX2_nextTo (0, pt_en 0 vs, [], M) (51, L, [pt_i x], M')) : pt_Does yX2_nextTo YX2_nextTo vs M (some (pt_i x)) M' := pt_does_go tX2_nextTo_ok nX2_nextTo hvs hX ⟨_, by with_unfolding_all rfl, rfl, _, rfl, rfl⟩ h
theorem rX2_nextTo_59 {vs : List pt_V} {M M' : pt_M} {x : Int32} {L : List (Nat × pt_V)} (hvs : (vs.map pt_w).sum ≤ 5) (hX : M'.2.2.2.2 = M.2.2.2.2) (h : pt_Go YX2_nextTo (0, pt_en 0 vs, [], M) (59, L, [pt_i x], M')) : pt_Does yX2_nextTo YX2_nextTo vs M (some (pt_i x)) M' := pt_does_go tX2_nextTo_ok nX2_nextTo hvs hX ⟨_, by with_unfolding_all rfl, rfl, _, rfl, rfl⟩ h
set_option maxRecDepth 100000 in
theorem gX2_nextTo_0_1 (t : Nat) (x2 : Int32) (x3 : Int32)  (M : pt_M) :
    pt_Go YX2_nextTo (0, [(0, pt_r 3 t), (1, pt_i x2), (2, pt_i x3)], [], M)
      (2, [(0, pt_r 3 t), (1, pt_i x2), (2, pt_i x3), (3, pt_i 0)], [], M) :=
  pt_run_ok tX2_nextTo_ok 2 [] (P := True) (by with_unfolding_all rfl) trivial
set_option maxRecDepth 100000 in
theorem gX2_nextTo_2_1 (t : Nat) (l1 : Int32) (l2 : Int32) (l3 : Int32)  (M : pt_M) (h1 : t < 7) (h2 : ¬ (pt_F M 3 0 t) ≤ l3) (h3 : ¬ l3 = l2) (h4 : in_P l1 l3) (h5 : pt_in l2 10) (h6 : pt_in l3 10) (h7 : ((l1 &&& ((((1 : Int32) <<< (l2 &&& 31)) ||| ((1 : Int32) <<< (l3 &&& 31))) ^^^ (-1))) &&& ((lo_F M t l2 l3) ^^^ (-1))) = 0) :
    pt_Go YX2_nextTo (2, [(0, pt_r 3 t), (1, pt_i l1), (2, pt_i l2), (3, pt_i l3)], [], M)
      (51, [(0, pt_r 3 t), (1, pt_i l1), (2, pt_i l2), (3, pt_i l3), (4, pt_i (l1 &&& ((((1 : Int32) <<< (l2 &&& 31)) ||| ((1 : Int32) <<< (l3 &&& 31))) ^^^ (-1))))], [pt_i l3], M) :=
  pt_run_ok tX2_nextTo_ok 33 [.inl false, .inl false, .inr (2, some (pt_i 1), M), .inl false, .inr (3, some (pt_i (lo_F M t l2 l3)), M), .inl false] (P := (t < 7) ∧ (¬ (pt_F M 3 0 t) ≤ l3) ∧ (¬ l3 = l2) ∧ pt_Cal YX2_nextTo (.invokestatic 15) [pt_i l1, pt_i l3] M (some (pt_i 1)) M ∧ (¬ (1 : Int32) = (0 : Int32)) ∧ pt_Cal YX2_nextTo (.invokevirtual 21) [pt_r 3 t, pt_i l2, pt_i l3] M (some (pt_i (lo_F M t l2 l3))) M ∧ (((l1 &&& ((((1 : Int32) <<< (l2 &&& 31)) ||| ((1 : Int32) <<< (l3 &&& 31))) ^^^ (-1))) &&& ((lo_F M t l2 l3) ^^^ (-1))) = 0) ∧ True) (by with_unfolding_all rfl) ⟨h1, h2, h3, (pt_callS kX2_nextTo_15 mX2_isIn rfl (dX2_isIn_1 h4)), (by decide), (pt_callV (i := t) kX2_nextTo_21 mX4_leftOf rfl h1 rfl (dX4_leftOf_v h1 h5 h6)), h7, trivial⟩
set_option maxRecDepth 100000 in
theorem gX2_nextTo_2_2 (t : Nat) (l1 : Int32) (l2 : Int32) (l3 : Int32)  (M : pt_M) (h1 : t < 7) (h2 : ¬ (pt_F M 3 0 t) ≤ l3) (h3 : ¬ l3 = l2) (h4 : in_P l1 l3) (h5 : pt_in l2 10) (h6 : pt_in l3 10) (h7 : ¬ ((l1 &&& ((((1 : Int32) <<< (l2 &&& 31)) ||| ((1 : Int32) <<< (l3 &&& 31))) ^^^ (-1))) &&& ((lo_F M t l2 l3) ^^^ (-1))) = 0) :
    pt_Go YX2_nextTo (2, [(0, pt_r 3 t), (1, pt_i l1), (2, pt_i l2), (3, pt_i l3)], [], M)
      (2, [(0, pt_r 3 t), (1, pt_i l1), (2, pt_i l2), (3, pt_i (l3 + 1))], [], M) :=
  (pt_run_ok tX2_nextTo_ok 34 [.inl false, .inl false, .inr (2, some (pt_i 1), M), .inl false, .inr (3, some (pt_i (lo_F M t l2 l3)), M), .inl true] (P := (t < 7) ∧ (¬ (pt_F M 3 0 t) ≤ l3) ∧ (¬ l3 = l2) ∧ pt_Cal YX2_nextTo (.invokestatic 15) [pt_i l1, pt_i l3] M (some (pt_i 1)) M ∧ (¬ (1 : Int32) = (0 : Int32)) ∧ pt_Cal YX2_nextTo (.invokevirtual 21) [pt_r 3 t, pt_i l2, pt_i l3] M (some (pt_i (lo_F M t l2 l3))) M ∧ (¬ ((l1 &&& ((((1 : Int32) <<< (l2 &&& 31)) ||| ((1 : Int32) <<< (l3 &&& 31))) ^^^ (-1))) &&& ((lo_F M t l2 l3) ^^^ (-1))) = 0) ∧ True) (by with_unfolding_all rfl) ⟨h1, h2, h3, (pt_callS kX2_nextTo_15 mX2_isIn rfl (dX2_isIn_1 h4)), (by decide), (pt_callV (i := t) kX2_nextTo_21 mX4_leftOf rfl h1 rfl (dX4_leftOf_v h1 h5 h6)), h7, trivial⟩ : pt_Go YX2_nextTo _ (2, [(0, pt_r 3 t), (1, pt_i l1), (2, pt_i l2), (3, pt_i (l3 + 1)), (4, pt_i (l1 &&& ((((1 : Int32) <<< (l2 &&& 31)) ||| ((1 : Int32) <<< (l3 &&& 31))) ^^^ (-1))))], [], M)).tr (pt_pick [0, 1, 2, 3] (by with_unfolding_all rfl))
set_option maxRecDepth 100000 in
theorem gX2_nextTo_2_3 (t : Nat) (l1 : Int32) (l2 : Int32) (l3 : Int32)  (M : pt_M) (h1 : t < 7) (h2 : ¬ (pt_F M 3 0 t) ≤ l3) (h3 : ¬ l3 = l2) (h4 : ¬ in_P l1 l3) :
    pt_Go YX2_nextTo (2, [(0, pt_r 3 t), (1, pt_i l1), (2, pt_i l2), (3, pt_i l3)], [], M)
      (2, [(0, pt_r 3 t), (1, pt_i l1), (2, pt_i l2), (3, pt_i (l3 + 1))], [], M) :=
  pt_run_ok tX2_nextTo_ok 13 [.inl false, .inl false, .inr (2, some (pt_i 0), M), .inl true] (P := (t < 7) ∧ (¬ (pt_F M 3 0 t) ≤ l3) ∧ (¬ l3 = l2) ∧ pt_Cal YX2_nextTo (.invokestatic 15) [pt_i l1, pt_i l3] M (some (pt_i 0)) M ∧ ((0 : Int32) = (0 : Int32)) ∧ True) (by with_unfolding_all rfl) ⟨h1, h2, h3, (pt_callS kX2_nextTo_15 mX2_isIn rfl (dX2_isIn_0 h4)), (by decide), trivial⟩
set_option maxRecDepth 100000 in
theorem gX2_nextTo_2_4 (t : Nat) (l1 : Int32) (l2 : Int32) (l3 : Int32)  (M : pt_M) (h1 : t < 7) (h2 : ¬ (pt_F M 3 0 t) ≤ l3) (h3 : l3 = l2) :
    pt_Go YX2_nextTo (2, [(0, pt_r 3 t), (1, pt_i l1), (2, pt_i l2), (3, pt_i l3)], [], M)
      (2, [(0, pt_r 3 t), (1, pt_i l1), (2, pt_i l2), (3, pt_i (l3 + 1))], [], M) :=
  pt_run_ok tX2_nextTo_ok 9 [.inl false, .inl true] (P := (t < 7) ∧ (¬ (pt_F M 3 0 t) ≤ l3) ∧ (l3 = l2) ∧ True) (by with_unfolding_all rfl) ⟨h1, h2, h3, trivial⟩
set_option maxRecDepth 100000 in
theorem gX2_nextTo_2_5 (t : Nat) (l1 : Int32) (l2 : Int32) (l3 : Int32)  (M : pt_M) (h1 : t < 7) (h2 : (pt_F M 3 0 t) ≤ l3) :
    pt_Go YX2_nextTo (2, [(0, pt_r 3 t), (1, pt_i l1), (2, pt_i l2), (3, pt_i l3)], [], M)
      (59, [(0, pt_r 3 t), (1, pt_i l1), (2, pt_i l2), (3, pt_i l3)], [pt_i (-1)], M) :=
  pt_run_ok tX2_nextTo_ok 5 [.inl true] (P := (t < 7) ∧ ((pt_F M 3 0 t) ≤ l3) ∧ True) (by with_unfolding_all rfl) ⟨h1, h2, trivial⟩
theorem dX2_nextTo {t n : Nat} {s i : Int32} {B : Nat → Nat → Nat → Bool} {M : pt_M} (h : tb_P M t n B) (hsn : sn_P s i n) : pt_Does yX2_nextTo YX2_nextTo [pt_r 3 t, pt_i s, pt_i i] M (some (pt_i (nx_I n B s i))) M := by
  obtain ⟨m, i, rfl, rfl, hm, hi⟩ := hsn
  obtain ⟨ht, hn, hs, hB⟩ := h
  have hlt : ∀ i, i < n → ¬ pt_F M 3 0 t ≤ nI i := fun i hi => by rw [hs]; exact nI_ge hi (by omega)
  have hle : pt_F M 3 0 t ≤ nI n := by rw [hs]; exact Int32.le_refl _
  have hp : ∀ i, i < n → pt_in (nI i) 10 := fun i hi => pt_in_nI (by omega) (by decide)
  have K := pt_nest (Y := YX2_nextTo) (σ := (0, [(0, pt_r 3 t), (1, pt_i (nI m)), (2, pt_i (nI i))], [], M)) (τ := (59, [], [pt_i (-1)], M)) (R := fun v => (51, [], [pt_i (nI v)], M)) (n := n) (i := 0)
    (S := fun j => (2, [(0, pt_r 3 t), (1, pt_i (nI m)), (2, pt_i (nI i)), (3, pt_i (nI j))], [], M)) (f := fun j => if nq_F B m i j then some j else none)
    (Nat.zero_le n) (gX2_nextTo_0_1 t (nI m) (nI i) M) ((gX2_nextTo_2_5 t (nI m) (nI i) (nI n) M ht hle).tr pt_dropA) fun j _ hj => by
      have hin := in_nI (i := j) hm (by omega)
      have hc := nx_c (p := fun k => B i j k) hm (show i < 10 by omega) (show j < 10 by omega)
      have hlo := lo_B hB (show i < 10 by omega) (show j < 10 by omega)
      have hij := nI_eq (show j < 2 ^ 31 by omega) (show i < 2 ^ 31 by omega)
      by_cases e1 : j = i
      · have hq : nq_F B m i j = false := by simp [nq_F, e1]
        rw [hq]
        exact ⟨fun v z => by simp at z, fun _ => (gX2_nextTo_2_4 t (nI m) (nI i) (nI j) M ht (hlt j hj) (by rw [e1])).to (by rw [nI_1])⟩
      · cases hv : m.testBit j
        · have hq : nq_F B m i j = false := by simp [nq_F, hv]
          rw [hq]
          exact ⟨fun v z => by simp at z, fun _ => (gX2_nextTo_2_3 t (nI m) (nI i) (nI j) M ht (hlt j hj) (fun z => e1 (hij.mp z)) (fun z => by rw [hin, hv] at z; cases z)).to (by rw [nI_1])⟩
        · have hq : nq_F B m i j = ((List.range 10).all fun k => decide (k = i) || (decide (k = j) || (!m.testBit k || B i j k))) := by simp [nq_F, e1, hv]
          rw [← hlo] at hc
          cases hw : nq_F B m i j
          · refine ⟨fun v z => by simp at z, fun _ => ?_⟩
            exact (gX2_nextTo_2_2 t (nI m) (nI i) (nI j) M ht (hlt j hj) (fun z => e1 (hij.mp z)) (hin.mpr hv) (hp i hi) (hp j hj) (fun z => by rw [hc, ← hq, hw] at z; cases z)).to (by rw [nI_1])
          · refine ⟨fun v z => ?_, fun z => by simp at z⟩
            simp only [if_true, Option.some.injEq] at z
            subst z
            exact (gX2_nextTo_2_1 t (nI m) (nI i) (nI j) M ht (hlt j hj) (fun z => e1 (hij.mp z)) (hin.mpr hv) (hp i hi) (hp j hj) (hc.mpr (by rw [← hq, hw]))).tr pt_dropA
  rw [nx_nI hm (by omega)]
  cases hf : nx_F n B m i with
  | none => exact rX2_nextTo_59 (Nat.le_of_ble_eq_true rfl) rfl (K.2 hf)
  | some v => exact rX2_nextTo_51 (Nat.le_of_ble_eq_true rfl) rfl (K.1 v hf)
/-! the rim -/
def ri_F (n : Nat) (B : Nat → Nat → Nat → Bool) (m : Nat) : Nat := if pc_F m < 3 then m else pb_s n fun i => m.testBit i && (nx_F n B m i).isSome
def ri_I (n : Nat) (B : Nat → Nat → Nat → Bool) (s : Int32) : Int32 := nI (ri_F n B (pt_nt s))
theorem ri_lt {n m : Nat} {B : Nat → Nat → Nat → Bool} (hn : n ≤ 10) (hm : m < 1024) : ri_F n B m < 1024 := by
  unfold ri_F
  split
  · exact hm
  · exact Nat.lt_of_lt_of_le (pb_lt _ n) (pb_p2 hn)
theorem pb_top {p : Nat → Bool} {i : Nat} (hi : i < 31) (h : p i = true) : nI (pb_s i p) ||| ((1 : Int32) <<< (nI i &&& 31)) = nI (pb_s (i + 1) p) := by
  rw [pt_shl1 i hi, pt_or]
  congr 1
  show _ = pb_s i p + if p i then 2 ^ i else 0
  rw [if_pos h, Nat.or_comm, Nat.add_comm]
  have := Nat.two_pow_add_eq_or_of_lt (pb_lt p i) 1
  rw [Nat.mul_one] at this
  exact this.symm
theorem pb_skip {p : Nat → Bool} {i : Nat} (h : p i = false) : pb_s (i + 1) p = pb_s i p := by
  show pb_s i p + (if p i then 2 ^ i else 0) = _
  rw [h]
  rfl
theorem rX2_rimOf_9 {vs : List pt_V} {M M' : pt_M} {x : Int32} {L : List (Nat × pt_V)} (hvs : (vs.map pt_w).sum ≤ 4) (hX : M'.2.2.2.2 = M.2.2.2.2) (h : pt_Go YX2_rimOf (0, pt_en 0 vs, [], M) (9, L, [pt_i x], M')) : pt_Does yX2_rimOf YX2_rimOf vs M (some (pt_i x)) M' := pt_does_go tX2_rimOf_ok nX2_rimOf hvs hX ⟨_, by with_unfolding_all rfl, rfl, _, rfl, rfl⟩ h
theorem rX2_rimOf_53 {vs : List pt_V} {M M' : pt_M} {x : Int32} {L : List (Nat × pt_V)} (hvs : (vs.map pt_w).sum ≤ 4) (hX : M'.2.2.2.2 = M.2.2.2.2) (h : pt_Go YX2_rimOf (0, pt_en 0 vs, [], M) (53, L, [pt_i x], M')) : pt_Does yX2_rimOf YX2_rimOf vs M (some (pt_i x)) M' := pt_does_go tX2_rimOf_ok nX2_rimOf hvs hX ⟨_, by with_unfolding_all rfl, rfl, _, rfl, rfl⟩ h
set_option maxRecDepth 100000 in
theorem gX2_rimOf_0_1 (t : Nat) (x2 : Int32) (n : Nat) (B : Nat → Nat → Nat → Bool) (M : pt_M) (h1 : ¬ 3 ≤ (bc_F x2)) :
    pt_Go YX2_rimOf (0, [(0, pt_r 3 t), (1, pt_i x2)], [], M)
      (9, [(0, pt_r 3 t), (1, pt_i x2)], [pt_i x2], M) :=
  pt_run_ok tX2_rimOf_ok 5 [.inr (1, some (pt_i (bc_F x2)), M), .inl false] (P := pt_Cal YX2_rimOf (.invokestatic 25) [pt_i x2] M (some (pt_i (bc_F x2))) M ∧ (¬ 3 ≤ (bc_F x2)) ∧ True) (by with_unfolding_all rfl) ⟨(pt_callS kX2_rimOf_25 mJ6_bitCount_0f7a4 rfl (dJ6_bitCount x2 M)), h1, trivial⟩
set_option maxRecDepth 100000 in
theorem gX2_rimOf_0_2 (t : Nat) (x2 : Int32) (n : Nat) (B : Nat → Nat → Nat → Bool) (M : pt_M) (h1 : 3 ≤ (bc_F x2)) :
    pt_Go YX2_rimOf (0, [(0, pt_r 3 t), (1, pt_i x2)], [], M)
      (14, [(0, pt_r 3 t), (1, pt_i x2), (2, pt_i 0), (3, pt_i 0)], [], M) :=
  pt_run_ok tX2_rimOf_ok 8 [.inr (1, some (pt_i (bc_F x2)), M), .inl true] (P := pt_Cal YX2_rimOf (.invokestatic 25) [pt_i x2] M (some (pt_i (bc_F x2))) M ∧ (3 ≤ (bc_F x2)) ∧ True) (by with_unfolding_all rfl) ⟨(pt_callS kX2_rimOf_25 mJ6_bitCount_0f7a4 rfl (dJ6_bitCount x2 M)), h1, trivial⟩
set_option maxRecDepth 100000 in
theorem gX2_rimOf_14_1 (t : Nat) (l1 : Int32) (l2 : Int32) (l3 : Int32) (n : Nat) (B : Nat → Nat → Nat → Bool) (M : pt_M) (h1 : t < 7) (h2 : ¬ (pt_F M 3 0 t) ≤ l3) (h3 : in_P l1 l3) (h4 : tb_P M t n B) (h5 : sn_P l1 l3 n) (h6 : ¬ (nx_I n B l1 l3) = (-1)) :
    pt_Go YX2_rimOf (14, [(0, pt_r 3 t), (1, pt_i l1), (2, pt_i l2), (3, pt_i l3)], [], M)
      (14, [(0, pt_r 3 t), (1, pt_i l1), (2, pt_i (l2 ||| ((1 : Int32) <<< (l3 &&& 31)))), (3, pt_i (l3 + 1))], [], M) :=
  pt_run_ok tX2_rimOf_ok 22 [.inl false, .inr (2, some (pt_i 1), M), .inl false, .inr (3, some (pt_i (nx_I n B l1 l3)), M), .inl false] (P := (t < 7) ∧ (¬ (pt_F M 3 0 t) ≤ l3) ∧ pt_Cal YX2_rimOf (.invokestatic 15) [pt_i l1, pt_i l3] M (some (pt_i 1)) M ∧ (¬ (1 : Int32) = (0 : Int32)) ∧ pt_Cal YX2_rimOf (.invokestatic 31) [pt_r 3 t, pt_i l1, pt_i l3] M (some (pt_i (nx_I n B l1 l3))) M ∧ (¬ (nx_I n B l1 l3) = (-1)) ∧ True) (by with_unfolding_all rfl) ⟨h1, h2, (pt_callS kX2_rimOf_15 mX2_isIn rfl (dX2_isIn_1 h3)), (by decide), (pt_callS kX2_rimOf_31 mX2_nextTo rfl (dX2_nextTo h4 h5)), h6, trivial⟩
set_option maxRecDepth 100000 in
theorem gX2_rimOf_14_2 (t : Nat) (l1 : Int32) (l2 : Int32) (l3 : Int32) (n : Nat) (B : Nat → Nat → Nat → Bool) (M : pt_M) (h1 : t < 7) (h2 : ¬ (pt_F M 3 0 t) ≤ l3) (h3 : in_P l1 l3) (h4 : tb_P M t n B) (h5 : sn_P l1 l3 n) (h6 : (nx_I n B l1 l3) = (-1)) :
    pt_Go YX2_rimOf (14, [(0, pt_r 3 t), (1, pt_i l1), (2, pt_i l2), (3, pt_i l3)], [], M)
      (14, [(0, pt_r 3 t), (1, pt_i l1), (2, pt_i l2), (3, pt_i (l3 + 1))], [], M) :=
  pt_run_ok tX2_rimOf_ok 16 [.inl false, .inr (2, some (pt_i 1), M), .inl false, .inr (3, some (pt_i (nx_I n B l1 l3)), M), .inl true] (P := (t < 7) ∧ (¬ (pt_F M 3 0 t) ≤ l3) ∧ pt_Cal YX2_rimOf (.invokestatic 15) [pt_i l1, pt_i l3] M (some (pt_i 1)) M ∧ (¬ (1 : Int32) = (0 : Int32)) ∧ pt_Cal YX2_rimOf (.invokestatic 31) [pt_r 3 t, pt_i l1, pt_i l3] M (some (pt_i (nx_I n B l1 l3))) M ∧ ((nx_I n B l1 l3) = (-1)) ∧ True) (by with_unfolding_all rfl) ⟨h1, h2, (pt_callS kX2_rimOf_15 mX2_isIn rfl (dX2_isIn_1 h3)), (by decide), (pt_callS kX2_rimOf_31 mX2_nextTo rfl (dX2_nextTo h4 h5)), h6, trivial⟩
set_option maxRecDepth 100000 in
theorem gX2_rimOf_14_3 (t : Nat) (l1 : Int32) (l2 : Int32) (l3 : Int32) (n : Nat) (B : Nat → Nat → Nat → Bool) (M : pt_M) (h1 : t < 7) (h2 : ¬ (pt_F M 3 0 t) ≤ l3) (h3 : ¬ in_P l1 l3) :
    pt_Go YX2_rimOf (14, [(0, pt_r 3 t), (1, pt_i l1), (2, pt_i l2), (3, pt_i l3)], [], M)
      (14, [(0, pt_r 3 t), (1, pt_i l1), (2, pt_i l2), (3, pt_i (l3 + 1))], [], M) :=
  pt_run_ok tX2_rimOf_ok 10 [.inl false, .inr (2, some (pt_i 0), M), .inl true] (P := (t < 7) ∧ (¬ (pt_F M 3 0 t) ≤ l3) ∧ pt_Cal YX2_rimOf (.invokestatic 15) [pt_i l1, pt_i l3] M (some (pt_i 0)) M ∧ ((0 : Int32) = (0 : Int32)) ∧ True) (by with_unfolding_all rfl) ⟨h1, h2, (pt_callS kX2_rimOf_15 mX2_isIn rfl (dX2_isIn_0 h3)), (by decide), trivial⟩
set_option maxRecDepth 100000 in
theorem gX2_rimOf_14_4 (t : Nat) (l1 : Int32) (l2 : Int32) (l3 : Int32) (n : Nat) (B : Nat → Nat → Nat → Bool) (M : pt_M) (h1 : t < 7) (h2 : (pt_F M 3 0 t) ≤ l3) :
    pt_Go YX2_rimOf (14, [(0, pt_r 3 t), (1, pt_i l1), (2, pt_i l2), (3, pt_i l3)], [], M)
      (53, [(0, pt_r 3 t), (1, pt_i l1), (2, pt_i l2), (3, pt_i l3)], [pt_i l2], M) :=
  pt_run_ok tX2_rimOf_ok 5 [.inl true] (P := (t < 7) ∧ ((pt_F M 3 0 t) ≤ l3) ∧ True) (by with_unfolding_all rfl) ⟨h1, h2, trivial⟩
theorem dX2_rimOf {t n : Nat} {s : Int32} {B : Nat → Nat → Nat → Bool} {M : pt_M} (h : tb_P M t n B) (hst : st_P s n) : pt_Does yX2_rimOf YX2_rimOf [pt_r 3 t, pt_i s] M (some (pt_i (ri_I n B s))) M := by
  obtain ⟨m, rfl, hm⟩ := hst
  have hb := h
  obtain ⟨ht, hn, hs, hB⟩ := h
  have hlt : ∀ i, i < n → ¬ pt_F M 3 0 t ≤ nI i := fun i hi => by rw [hs]; exact nI_ge hi (by omega)
  have hle : pt_F M 3 0 t ≤ nI n := by rw [hs]; exact Int32.le_refl _
  have hbc := bc_nI hm
  have hpc := pc_le m
  unfold ri_I
  rw [pt_nt_nI (by omega)]
  unfold ri_F
  by_cases h3 : pc_F m < 3
  · rw [if_pos h3]
    refine rX2_rimOf_9 (Nat.le_of_ble_eq_true rfl) rfl (gX2_rimOf_0_1 t (nI m) n B M ?_)
    rw [hbc]
    exact nI_ge h3 (by decide)
  · rw [if_neg h3]
    have K := pt_for0 (Y := YX2_rimOf) (fun i => (14, [(0, pt_r 3 t), (1, pt_i (nI m)), (2, pt_i (nI (pb_s i fun i => m.testBit i && (nx_F n B m i).isSome))), (3, pt_i (nI i))], [], M)) (n := n) fun i hi => by
      have hin := in_nI (i := i) hm (by omega)
      have hnx := nx_eq (B := B) hn hm (show i < 2 ^ 31 by omega)
      cases hv : m.testBit i
      · refine (gX2_rimOf_14_3 t (nI m) _ (nI i) n B M ht (hlt i hi) (fun z => by rw [hin, hv] at z; cases z)).to ?_
        rw [nI_1, pb_skip (i := i) (by simp [hv])]
      · cases hw : (nx_F n B m i).isSome
        · refine (gX2_rimOf_14_2 t (nI m) _ (nI i) n B M ht (hlt i hi) (hin.mpr hv) hb ⟨m, i, rfl, rfl, hm, hi⟩ (hnx.mpr hw)).to ?_
          rw [nI_1, pb_skip (i := i) (by simp [hw])]
        · refine (gX2_rimOf_14_1 t (nI m) _ (nI i) n B M ht (hlt i hi) (hin.mpr hv) hb ⟨m, i, rfl, rfl, hm, hi⟩ (fun z => by rw [hnx, hw] at z; cases z)).to ?_
          rw [nI_1, pb_top (i := i) (by omega) (by simp [hv, hw])]
    refine rX2_rimOf_53 (Nat.le_of_ble_eq_true rfl) rfl ((gX2_rimOf_0_2 t (nI m) n B M ?_).tr (K.tr (gX2_rimOf_14_4 t (nI m) _ (nI n) n B M ht hle)))
    rw [hbc]
    exact nI_le (a := 3) (by omega) (by omega)
theorem ep_nI {M : pt_M} {t n : Nat} (hn : n ≤ 10) (hs : pt_F M 3 0 t = nI n) : ep_F M t = nI (2 ^ n - 1) := by
  unfold ep_F
  rw [hs, pt_shl1 n (by omega), show (1 : Int32) = nI 1 from rfl, pk_sub (Nat.one_le_two_pow)]
/-! layers -/
def rs_F (n : Nat) (B : Nat → Nat → Nat → Bool) : Nat → Nat
  | 0 => 2 ^ n - 1
  | l + 1 => an_F (rs_F n B l) (ri_F n B (rs_F n B l))
theorem rs_lt {n : Nat} {B : Nat → Nat → Nat → Bool} (hn : n ≤ 10) : ∀ l, rs_F n B l < 1024
  | 0 => by
    have := pb_p2 hn
    show 2 ^ n - 1 < 1024
    omega
  | l + 1 => Nat.lt_of_le_of_lt (an_le _ _) (rs_lt hn l)
def ly_F (n : Nat) (B : Nat → Nat → Nat → Bool) (p : Nat) : Option Nat := fs_F (n - 0) 0 fun l => if (ri_F n B (rs_F n B l)).testBit p then some l else none
theorem rX2_layerOf_32 {vs : List pt_V} {M M' : pt_M} {x : Int32} {L : List (Nat × pt_V)} (hvs : (vs.map pt_w).sum ≤ 5) (hX : M'.2.2.2.2 = M.2.2.2.2) (h : pt_Go YX2_layerOf (0, pt_en 0 vs, [], M) (32, L, [pt_i x], M')) : pt_Does yX2_layerOf YX2_layerOf vs M (some (pt_i x)) M' := pt_does_go tX2_layerOf_ok nX2_layerOf hvs hX ⟨_, by with_unfolding_all rfl, rfl, _, rfl, rfl⟩ h
theorem rX2_layerOf_47 {vs : List pt_V} {M M' : pt_M} {x : Int32} {L : List (Nat × pt_V)} (hvs : (vs.map pt_w).sum ≤ 5) (hX : M'.2.2.2.2 = M.2.2.2.2) (h : pt_Go YX2_layerOf (0, pt_en 0 vs, [], M) (47, L, [pt_i x], M')) : pt_Does yX2_layerOf YX2_layerOf vs M (some (pt_i x)) M' := pt_does_go tX2_layerOf_ok nX2_layerOf hvs hX ⟨_, by with_unfolding_all rfl, rfl, _, rfl, rfl⟩ h
set_option maxRecDepth 100000 in
theorem gX2_layerOf_0_1 (t : Nat) (x2 : Int32) (n : Nat) (B : Nat → Nat → Nat → Bool) (M : pt_M) (h1 : t < 7) :
    pt_Go YX2_layerOf (0, [(0, pt_r 3 t), (1, pt_i x2)], [], M)
      (7, [(0, pt_r 3 t), (1, pt_i x2), (2, pt_i (ep_F M t)), (3, pt_i 0)], [], M) :=
  pt_run_ok tX2_layerOf_ok 5 [.inr (1, some (pt_i (ep_F M t)), M)] (P := pt_Cal YX2_layerOf (.invokevirtual 35) [pt_r 3 t] M (some (pt_i (ep_F M t))) M ∧ True) (by with_unfolding_all rfl) ⟨(pt_callV (i := t) kX2_layerOf_35 mX4_everyPoint rfl h1 rfl (dX4_everyPoint h1)), trivial⟩
set_option maxRecDepth 100000 in
theorem gX2_layerOf_7_1 (t : Nat) (l1 : Int32) (l2 : Int32) (l3 : Int32) (n : Nat) (B : Nat → Nat → Nat → Bool) (M : pt_M) (h1 : t < 7) (h2 : ¬ (pt_F M 3 0 t) ≤ l3) (h3 : tb_P M t n B) (h4 : st_P l2 n) (h5 : in_P (ri_I n B l2) l1) :
    pt_Go YX2_layerOf (7, [(0, pt_r 3 t), (1, pt_i l1), (2, pt_i l2), (3, pt_i l3)], [], M)
      (32, [(0, pt_r 3 t), (1, pt_i l1), (2, pt_i l2), (3, pt_i l3), (4, pt_i (ri_I n B l2))], [pt_i l3], M) :=
  pt_run_ok tX2_layerOf_ok 13 [.inl false, .inr (2, some (pt_i (ri_I n B l2)), M), .inr (2, some (pt_i 1), M), .inl false] (P := (t < 7) ∧ (¬ (pt_F M 3 0 t) ≤ l3) ∧ pt_Cal YX2_layerOf (.invokestatic 39) [pt_r 3 t, pt_i l2] M (some (pt_i (ri_I n B l2))) M ∧ pt_Cal YX2_layerOf (.invokestatic 15) [pt_i (ri_I n B l2), pt_i l1] M (some (pt_i 1)) M ∧ (¬ (1 : Int32) = (0 : Int32)) ∧ True) (by with_unfolding_all rfl) ⟨h1, h2, (pt_callS kX2_layerOf_39 mX2_rimOf rfl (dX2_rimOf h3 h4)), (pt_callS kX2_layerOf_15 mX2_isIn rfl (dX2_isIn_1 h5)), (by decide), trivial⟩
set_option maxRecDepth 100000 in
theorem gX2_layerOf_7_2 (t : Nat) (l1 : Int32) (l2 : Int32) (l3 : Int32) (n : Nat) (B : Nat → Nat → Nat → Bool) (M : pt_M) (h1 : t < 7) (h2 : ¬ (pt_F M 3 0 t) ≤ l3) (h3 : tb_P M t n B) (h4 : st_P l2 n) (h5 : ¬ in_P (ri_I n B l2) l1) :
    pt_Go YX2_layerOf (7, [(0, pt_r 3 t), (1, pt_i l1), (2, pt_i l2), (3, pt_i l3)], [], M)
      (7, [(0, pt_r 3 t), (1, pt_i l1), (2, pt_i (l2 &&& ((ri_I n B l2) ^^^ (-1)))), (3, pt_i (l3 + 1))], [], M) :=
  (pt_run_ok tX2_layerOf_ok 20 [.inl false, .inr (2, some (pt_i (ri_I n B l2)), M), .inr (2, some (pt_i 0), M), .inl true] (P := (t < 7) ∧ (¬ (pt_F M 3 0 t) ≤ l3) ∧ pt_Cal YX2_layerOf (.invokestatic 39) [pt_r 3 t, pt_i l2] M (some (pt_i (ri_I n B l2))) M ∧ pt_Cal YX2_layerOf (.invokestatic 15) [pt_i (ri_I n B l2), pt_i l1] M (some (pt_i 0)) M ∧ ((0 : Int32) = (0 : Int32)) ∧ True) (by with_unfolding_all rfl) ⟨h1, h2, (pt_callS kX2_layerOf_39 mX2_rimOf rfl (dX2_rimOf h3 h4)), (pt_callS kX2_layerOf_15 mX2_isIn rfl (dX2_isIn_0 h5)), (by decide), trivial⟩ : pt_Go YX2_layerOf _ (7, [(0, pt_r 3 t), (1, pt_i l1), (2, pt_i (l2 &&& ((ri_I n B l2) ^^^ (-1)))), (3, pt_i (l3 + 1)), (4, pt_i (ri_I n B l2))], [], M)).tr (pt_pick [0, 1, 2, 3] (by with_unfolding_all rfl))
set_option maxRecDepth 100000 in
theorem gX2_layerOf_7_3 (t : Nat) (l1 : Int32) (l2 : Int32) (l3 : Int32) (n : Nat) (B : Nat → Nat → Nat → Bool) (M : pt_M) (h1 : t < 7) (h2 : (pt_F M 3 0 t) ≤ l3) :
    pt_Go YX2_layerOf (7, [(0, pt_r 3 t), (1, pt_i l1), (2, pt_i l2), (3, pt_i l3)], [], M)
      (47, [(0, pt_r 3 t), (1, pt_i l1), (2, pt_i l2), (3, pt_i l3)], [pt_i (-1)], M) :=
  pt_run_ok tX2_layerOf_ok 5 [.inl true] (P := (t < 7) ∧ ((pt_F M 3 0 t) ≤ l3) ∧ True) (by with_unfolding_all rfl) ⟨h1, h2, trivial⟩
theorem ri_nI {n m : Nat} {B : Nat → Nat → Nat → Bool} (hm : m < 1024) : ri_I n B (nI m) = nI (ri_F n B m) := by
  unfold ri_I
  rw [pt_nt_nI (by omega)]
theorem dX2_layerOf {t n p : Nat} {B : Nat → Nat → Nat → Bool} {M : pt_M} (h : tb_P M t n B) (hp : p < n) : (∀ l, ly_F n B p = some l → pt_Does yX2_layerOf YX2_layerOf [pt_r 3 t, pt_i (nI p)] M (some (pt_i (nI l))) M) ∧ (ly_F n B p = none → pt_Does yX2_layerOf YX2_layerOf [pt_r 3 t, pt_i (nI p)] M (some (pt_i (-1))) M) := by
  have hb := h
  obtain ⟨ht, hn, hs, hB⟩ := h
  have hlt : ∀ i, i < n → ¬ pt_F M 3 0 t ≤ nI i := fun i hi => by rw [hs]; exact nI_ge hi (by omega)
  have hle : pt_F M 3 0 t ≤ nI n := by rw [hs]; exact Int32.le_refl _
  have K := pt_nest (Y := YX2_layerOf) (σ := (0, [(0, pt_r 3 t), (1, pt_i (nI p))], [], M)) (τ := (47, [], [pt_i (-1)], M)) (R := fun v => (32, [], [pt_i (nI v)], M)) (n := n) (i := 0)
    (S := fun l => (7, [(0, pt_r 3 t), (1, pt_i (nI p)), (2, pt_i (nI (rs_F n B l))), (3, pt_i (nI l))], [], M)) (f := fun l => if (ri_F n B (rs_F n B l)).testBit p then some l else none)
    (Nat.zero_le n) ((gX2_layerOf_0_1 t (nI p) n B M ht).to (by rw [ep_nI hn hs]; rfl)) ((gX2_layerOf_7_3 t (nI p) _ (nI n) n B M ht hle).tr pt_dropA) fun l _ hl => by
      have hm := rs_lt (B := B) hn l
      have hr := ri_lt (B := B) hn hm
      have hin := in_nI (i := p) hr (by omega)
      have e := ri_nI (n := n) (B := B) hm
      cases hv : (ri_F n B (rs_F n B l)).testBit p
      · refine ⟨fun v z => by simp at z, fun _ => (gX2_layerOf_7_2 t (nI p) _ (nI l) n B M ht (hlt l hl) hb ⟨_, rfl, hm⟩ (fun z => by rw [e, hin, hv] at z; cases z)).to ?_⟩
        rw [nI_1, e, an_nI]
        rfl
      · refine ⟨fun v z => ?_, fun z => by simp at z⟩
        simp only [if_true, Option.some.injEq] at z
        subst z
        exact (gX2_layerOf_7_1 t (nI p) _ (nI l) n B M ht (hlt l hl) hb ⟨_, rfl, hm⟩ (by rw [e, hin, hv])).tr pt_dropA
  exact ⟨fun p hp => rX2_layerOf_32 (Nat.le_of_ble_eq_true rfl) rfl (K.1 p hp), fun hp => rX2_layerOf_47 (Nat.le_of_ble_eq_true rfl) rfl (K.2 hp)⟩
/-! figures -/
def fg_B (n : Nat) (B : Nat → Nat → Nat → Bool) (m : Nat) : Option Unit := fs_F (n - 0) 0 fun i => if m.testBit i && !(nx_F n B m i).isSome then some () else none
theorem rX2_isFigure_29 {vs : List pt_V} {M M' : pt_M} {x : Int32} {L : List (Nat × pt_V)} (hn : narrow .boolean (.int x) = .int x) (hvs : (vs.map pt_w).sum ≤ 3) (hX : M'.2.2.2.2 = M.2.2.2.2) (h : pt_Go YX2_isFigure (0, pt_en 0 vs, [], M) (29, L, [pt_i x], M')) : pt_Does yX2_isFigure YX2_isFigure vs M (some (pt_i x)) M' := pt_does_go tX2_isFigure_ok nX2_isFigure hvs hX ⟨_, by with_unfolding_all rfl, rfl, _, rfl, hn⟩ h
theorem rX2_isFigure_37 {vs : List pt_V} {M M' : pt_M} {x : Int32} {L : List (Nat × pt_V)} (hn : narrow .boolean (.int x) = .int x) (hvs : (vs.map pt_w).sum ≤ 3) (hX : M'.2.2.2.2 = M.2.2.2.2) (h : pt_Go YX2_isFigure (0, pt_en 0 vs, [], M) (37, L, [pt_i x], M')) : pt_Does yX2_isFigure YX2_isFigure vs M (some (pt_i x)) M' := pt_does_go tX2_isFigure_ok nX2_isFigure hvs hX ⟨_, by with_unfolding_all rfl, rfl, _, rfl, hn⟩ h
set_option maxRecDepth 100000 in
theorem gX2_isFigure_0_1 (t : Nat) (x2 : Int32) (n : Nat) (B : Nat → Nat → Nat → Bool) (M : pt_M) :
    pt_Go YX2_isFigure (0, [(0, pt_r 3 t), (1, pt_i x2)], [], M)
      (2, [(0, pt_r 3 t), (1, pt_i x2), (2, pt_i 0)], [], M) :=
  pt_run_ok tX2_isFigure_ok 2 [] (P := True) (by with_unfolding_all rfl) trivial
set_option maxRecDepth 100000 in
theorem gX2_isFigure_2_1 (t : Nat) (l1 : Int32) (l2 : Int32) (n : Nat) (B : Nat → Nat → Nat → Bool) (M : pt_M) (h1 : t < 7) (h2 : ¬ (pt_F M 3 0 t) ≤ l2) (h3 : in_P l1 l2) (h4 : tb_P M t n B) (h5 : sn_P l1 l2 n) (h6 : (nx_I n B l1 l2) = (-1)) :
    pt_Go YX2_isFigure (2, [(0, pt_r 3 t), (1, pt_i l1), (2, pt_i l2)], [], M)
      (29, [(0, pt_r 3 t), (1, pt_i l1), (2, pt_i l2)], [pt_i 0], M) :=
  pt_run_ok tX2_isFigure_ok 15 [.inl false, .inr (2, some (pt_i 1), M), .inl false, .inr (3, some (pt_i (nx_I n B l1 l2)), M), .inl false] (P := (t < 7) ∧ (¬ (pt_F M 3 0 t) ≤ l2) ∧ pt_Cal YX2_isFigure (.invokestatic 15) [pt_i l1, pt_i l2] M (some (pt_i 1)) M ∧ (¬ (1 : Int32) = (0 : Int32)) ∧ pt_Cal YX2_isFigure (.invokestatic 31) [pt_r 3 t, pt_i l1, pt_i l2] M (some (pt_i (nx_I n B l1 l2))) M ∧ ((nx_I n B l1 l2) = (-1)) ∧ True) (by with_unfolding_all rfl) ⟨h1, h2, (pt_callS kX2_isFigure_15 mX2_isIn rfl (dX2_isIn_1 h3)), (by decide), (pt_callS kX2_isFigure_31 mX2_nextTo rfl (dX2_nextTo h4 h5)), h6, trivial⟩
set_option maxRecDepth 100000 in
theorem gX2_isFigure_2_2 (t : Nat) (l1 : Int32) (l2 : Int32) (n : Nat) (B : Nat → Nat → Nat → Bool) (M : pt_M) (h1 : t < 7) (h2 : ¬ (pt_F M 3 0 t) ≤ l2) (h3 : in_P l1 l2) (h4 : tb_P M t n B) (h5 : sn_P l1 l2 n) (h6 : ¬ (nx_I n B l1 l2) = (-1)) :
    pt_Go YX2_isFigure (2, [(0, pt_r 3 t), (1, pt_i l1), (2, pt_i l2)], [], M)
      (2, [(0, pt_r 3 t), (1, pt_i l1), (2, pt_i (l2 + 1))], [], M) :=
  pt_run_ok tX2_isFigure_ok 16 [.inl false, .inr (2, some (pt_i 1), M), .inl false, .inr (3, some (pt_i (nx_I n B l1 l2)), M), .inl true] (P := (t < 7) ∧ (¬ (pt_F M 3 0 t) ≤ l2) ∧ pt_Cal YX2_isFigure (.invokestatic 15) [pt_i l1, pt_i l2] M (some (pt_i 1)) M ∧ (¬ (1 : Int32) = (0 : Int32)) ∧ pt_Cal YX2_isFigure (.invokestatic 31) [pt_r 3 t, pt_i l1, pt_i l2] M (some (pt_i (nx_I n B l1 l2))) M ∧ (¬ (nx_I n B l1 l2) = (-1)) ∧ True) (by with_unfolding_all rfl) ⟨h1, h2, (pt_callS kX2_isFigure_15 mX2_isIn rfl (dX2_isIn_1 h3)), (by decide), (pt_callS kX2_isFigure_31 mX2_nextTo rfl (dX2_nextTo h4 h5)), h6, trivial⟩
set_option maxRecDepth 100000 in
theorem gX2_isFigure_2_3 (t : Nat) (l1 : Int32) (l2 : Int32) (n : Nat) (B : Nat → Nat → Nat → Bool) (M : pt_M) (h1 : t < 7) (h2 : ¬ (pt_F M 3 0 t) ≤ l2) (h3 : ¬ in_P l1 l2) :
    pt_Go YX2_isFigure (2, [(0, pt_r 3 t), (1, pt_i l1), (2, pt_i l2)], [], M)
      (2, [(0, pt_r 3 t), (1, pt_i l1), (2, pt_i (l2 + 1))], [], M) :=
  pt_run_ok tX2_isFigure_ok 10 [.inl false, .inr (2, some (pt_i 0), M), .inl true] (P := (t < 7) ∧ (¬ (pt_F M 3 0 t) ≤ l2) ∧ pt_Cal YX2_isFigure (.invokestatic 15) [pt_i l1, pt_i l2] M (some (pt_i 0)) M ∧ ((0 : Int32) = (0 : Int32)) ∧ True) (by with_unfolding_all rfl) ⟨h1, h2, (pt_callS kX2_isFigure_15 mX2_isIn rfl (dX2_isIn_0 h3)), (by decide), trivial⟩
set_option maxRecDepth 100000 in
theorem gX2_isFigure_2_4 (t : Nat) (l1 : Int32) (l2 : Int32) (n : Nat) (B : Nat → Nat → Nat → Bool) (M : pt_M) (h1 : t < 7) (h2 : (pt_F M 3 0 t) ≤ l2) :
    pt_Go YX2_isFigure (2, [(0, pt_r 3 t), (1, pt_i l1), (2, pt_i l2)], [], M)
      (37, [(0, pt_r 3 t), (1, pt_i l1), (2, pt_i l2)], [pt_i 1], M) :=
  pt_run_ok tX2_isFigure_ok 5 [.inl true] (P := (t < 7) ∧ ((pt_F M 3 0 t) ≤ l2) ∧ True) (by with_unfolding_all rfl) ⟨h1, h2, trivial⟩
theorem dX2_isFigure {t n m : Nat} {B : Nat → Nat → Nat → Bool} {M : pt_M} (h : tb_P M t n B) (hm : m < 1024) : (fg_B n B m = some () → pt_Does yX2_isFigure YX2_isFigure [pt_r 3 t, pt_i (nI m)] M (some (pt_i 0)) M) ∧ (fg_B n B m = none → pt_Does yX2_isFigure YX2_isFigure [pt_r 3 t, pt_i (nI m)] M (some (pt_i 1)) M) := by
  have hb := h
  obtain ⟨ht, hn, hs, hB⟩ := h
  have hlt : ∀ i, i < n → ¬ pt_F M 3 0 t ≤ nI i := fun i hi => by rw [hs]; exact nI_ge hi (by omega)
  have hle : pt_F M 3 0 t ≤ nI n := by rw [hs]; exact Int32.le_refl _
  have K := pt_nest (Y := YX2_isFigure) (σ := (0, [(0, pt_r 3 t), (1, pt_i (nI m))], [], M)) (τ := (37, [], [pt_i 1], M)) (R := fun _ : Unit => (29, [], [pt_i 0], M)) (n := n) (i := 0)
    (S := fun i => (2, [(0, pt_r 3 t), (1, pt_i (nI m)), (2, pt_i (nI i))], [], M)) (f := fun i => if m.testBit i && !(nx_F n B m i).isSome then some () else none)
    (Nat.zero_le n) (gX2_isFigure_0_1 t (nI m) n B M) ((gX2_isFigure_2_4 t (nI m) (nI n) n B M ht hle).tr pt_dropA) fun i _ hi => by
      have hin := in_nI (i := i) hm (by omega)
      have hnx := nx_eq (B := B) hn hm (show i < 2 ^ 31 by omega)
      cases hv : m.testBit i
      · exact ⟨fun v z => by simp at z, fun _ => (gX2_isFigure_2_3 t (nI m) (nI i) n B M ht (hlt i hi) (fun z => by rw [hin, hv] at z; cases z)).to (by rw [nI_1])⟩
      · cases hw : (nx_F n B m i).isSome
        · exact ⟨fun v z => (gX2_isFigure_2_1 t (nI m) (nI i) n B M ht (hlt i hi) (hin.mpr hv) hb ⟨m, i, rfl, rfl, hm, hi⟩ (hnx.mpr hw)).tr pt_dropA, fun z => by simp at z⟩
        · exact ⟨fun v z => by simp at z, fun _ => (gX2_isFigure_2_2 t (nI m) (nI i) n B M ht (hlt i hi) (hin.mpr hv) hb ⟨m, i, rfl, rfl, hm, hi⟩ (fun z => by rw [hnx, hw] at z; cases z)).to (by rw [nI_1])⟩
  exact ⟨fun hp => rX2_isFigure_29 rfl (Nat.le_of_ble_eq_true rfl) rfl (K.1 () hp), fun hp => rX2_isFigure_37 rfl (Nat.le_of_ble_eq_true rfl) rfl (K.2 hp)⟩
def iw_F (n : Nat) (B : Nat → Nat → Nat → Bool) (m : Nat) : Nat → Nat
  | 0 => an_F (2 ^ n - 1) m
  | i + 1 => if m.testBit i then iw_F n B m i &&& pb_s 10 (fun k => B i ((nx_F n B m i).getD 0) k) else iw_F n B m i
theorem rX2_insideOf_48 {vs : List pt_V} {M M' : pt_M} {x : Int32} {L : List (Nat × pt_V)} (hvs : (vs.map pt_w).sum ≤ 4) (hX : M'.2.2.2.2 = M.2.2.2.2) (h : pt_Go YX2_insideOf (0, pt_en 0 vs, [], M) (48, L, [pt_i x], M')) : pt_Does yX2_insideOf YX2_insideOf vs M (some (pt_i x)) M' := pt_does_go tX2_insideOf_ok nX2_insideOf hvs hX ⟨_, by with_unfolding_all rfl, rfl, _, rfl, rfl⟩ h
set_option maxRecDepth 100000 in
theorem gX2_insideOf_0_1 (t : Nat) (x2 : Int32) (n : Nat) (B : Nat → Nat → Nat → Bool) (M : pt_M) (h1 : t < 7) :
    pt_Go YX2_insideOf (0, [(0, pt_r 3 t), (1, pt_i x2)], [], M)
      (11, [(0, pt_r 3 t), (1, pt_i x2), (2, pt_i ((ep_F M t) &&& (x2 ^^^ (-1)))), (3, pt_i 0)], [], M) :=
  pt_run_ok tX2_insideOf_ok 9 [.inr (1, some (pt_i (ep_F M t)), M)] (P := pt_Cal YX2_insideOf (.invokevirtual 35) [pt_r 3 t] M (some (pt_i (ep_F M t))) M ∧ True) (by with_unfolding_all rfl) ⟨(pt_callV (i := t) kX2_insideOf_35 mX4_everyPoint rfl h1 rfl (dX4_everyPoint h1)), trivial⟩
set_option maxRecDepth 100000 in
theorem gX2_insideOf_11_1 (t : Nat) (l1 : Int32) (l2 : Int32) (l3 : Int32) (n : Nat) (B : Nat → Nat → Nat → Bool) (M : pt_M) (h1 : t < 7) (h2 : ¬ (pt_F M 3 0 t) ≤ l3) (h3 : in_P l1 l3) (h4 : tb_P M t n B) (h5 : sn_P l1 l3 n) (h6 : pt_in l3 10) (h7 : pt_in (nx_I n B l1 l3) 10) :
    pt_Go YX2_insideOf (11, [(0, pt_r 3 t), (1, pt_i l1), (2, pt_i l2), (3, pt_i l3)], [], M)
      (11, [(0, pt_r 3 t), (1, pt_i l1), (2, pt_i (l2 &&& (lo_F M t l3 (nx_I n B l1 l3)))), (3, pt_i (l3 + 1))], [], M) :=
  pt_run_ok tX2_insideOf_ok 20 [.inl false, .inr (2, some (pt_i 1), M), .inl false, .inr (3, some (pt_i (nx_I n B l1 l3)), M), .inr (3, some (pt_i (lo_F M t l3 (nx_I n B l1 l3))), M)] (P := (t < 7) ∧ (¬ (pt_F M 3 0 t) ≤ l3) ∧ pt_Cal YX2_insideOf (.invokestatic 15) [pt_i l1, pt_i l3] M (some (pt_i 1)) M ∧ (¬ (1 : Int32) = (0 : Int32)) ∧ pt_Cal YX2_insideOf (.invokestatic 31) [pt_r 3 t, pt_i l1, pt_i l3] M (some (pt_i (nx_I n B l1 l3))) M ∧ pt_Cal YX2_insideOf (.invokevirtual 21) [pt_r 3 t, pt_i l3, pt_i (nx_I n B l1 l3)] M (some (pt_i (lo_F M t l3 (nx_I n B l1 l3)))) M ∧ True) (by with_unfolding_all rfl) ⟨h1, h2, (pt_callS kX2_insideOf_15 mX2_isIn rfl (dX2_isIn_1 h3)), (by decide), (pt_callS kX2_insideOf_31 mX2_nextTo rfl (dX2_nextTo h4 h5)), (pt_callV (i := t) kX2_insideOf_21 mX4_leftOf rfl h1 rfl (dX4_leftOf_v h1 h6 h7)), trivial⟩
set_option maxRecDepth 100000 in
theorem gX2_insideOf_11_2 (t : Nat) (l1 : Int32) (l2 : Int32) (l3 : Int32) (n : Nat) (B : Nat → Nat → Nat → Bool) (M : pt_M) (h1 : t < 7) (h2 : ¬ (pt_F M 3 0 t) ≤ l3) (h3 : ¬ in_P l1 l3) :
    pt_Go YX2_insideOf (11, [(0, pt_r 3 t), (1, pt_i l1), (2, pt_i l2), (3, pt_i l3)], [], M)
      (11, [(0, pt_r 3 t), (1, pt_i l1), (2, pt_i l2), (3, pt_i (l3 + 1))], [], M) :=
  pt_run_ok tX2_insideOf_ok 10 [.inl false, .inr (2, some (pt_i 0), M), .inl true] (P := (t < 7) ∧ (¬ (pt_F M 3 0 t) ≤ l3) ∧ pt_Cal YX2_insideOf (.invokestatic 15) [pt_i l1, pt_i l3] M (some (pt_i 0)) M ∧ ((0 : Int32) = (0 : Int32)) ∧ True) (by with_unfolding_all rfl) ⟨h1, h2, (pt_callS kX2_insideOf_15 mX2_isIn rfl (dX2_isIn_0 h3)), (by decide), trivial⟩
set_option maxRecDepth 100000 in
theorem gX2_insideOf_11_3 (t : Nat) (l1 : Int32) (l2 : Int32) (l3 : Int32) (n : Nat) (B : Nat → Nat → Nat → Bool) (M : pt_M) (h1 : t < 7) (h2 : (pt_F M 3 0 t) ≤ l3) :
    pt_Go YX2_insideOf (11, [(0, pt_r 3 t), (1, pt_i l1), (2, pt_i l2), (3, pt_i l3)], [], M)
      (48, [(0, pt_r 3 t), (1, pt_i l1), (2, pt_i l2), (3, pt_i l3)], [pt_i l2], M) :=
  pt_run_ok tX2_insideOf_ok 5 [.inl true] (P := (t < 7) ∧ ((pt_F M 3 0 t) ≤ l3) ∧ True) (by with_unfolding_all rfl) ⟨h1, h2, trivial⟩
theorem dX2_insideOf {t n m : Nat} {B : Nat → Nat → Nat → Bool} {M : pt_M} (h : tb_P M t n B) (hm : m < 1024) (hf : ∀ i, i < n → m.testBit i = true → (nx_F n B m i).isSome = true) : pt_Does yX2_insideOf YX2_insideOf [pt_r 3 t, pt_i (nI m)] M (some (pt_i (nI (iw_F n B m n)))) M := by
  have hb := h
  obtain ⟨ht, hn, hs, hB⟩ := h
  have hlt : ∀ i, i < n → ¬ pt_F M 3 0 t ≤ nI i := fun i hi => by rw [hs]; exact nI_ge hi (by omega)
  have hle : pt_F M 3 0 t ≤ nI n := by rw [hs]; exact Int32.le_refl _
  have hp : ∀ i, i < n → pt_in (nI i) 10 := fun i hi => pt_in_nI (by omega) (by decide)
  have K := pt_for0 (Y := YX2_insideOf) (fun i => (11, [(0, pt_r 3 t), (1, pt_i (nI m)), (2, pt_i (nI (iw_F n B m i))), (3, pt_i (nI i))], [], M)) (n := n) fun i hi => by
    have hin := in_nI (i := i) hm (by omega)
    cases hv : m.testBit i
    · refine (gX2_insideOf_11_2 t (nI m) _ (nI i) n B M ht (hlt i hi) (fun z => by rw [hin, hv] at z; cases z)).to ?_
      show _ = (11, [(0, pt_r 3 t), (1, pt_i (nI m)), (2, pt_i (nI (if m.testBit i then _ else _))), (3, pt_i (nI (i + 1)))], [], M)
      rw [nI_1, hv]
      rfl
    · cases hw : nx_F n B m i with
      | none => have := hf i hi hv; rw [hw] at this; cases this
      | some j =>
        have hj := (nx_lt hw).1
        have e : nx_I n B (nI m) (nI i) = nI j := by rw [nx_nI hm (by omega), hw]
        refine (gX2_insideOf_11_1 t (nI m) _ (nI i) n B M ht (hlt i hi) (hin.mpr hv) hb ⟨m, i, rfl, rfl, hm, hi⟩ (hp i hi) (by rw [e]; exact hp j hj)).to ?_
        show _ = (11, [(0, pt_r 3 t), (1, pt_i (nI m)), (2, pt_i (nI (if m.testBit i then _ else _))), (3, pt_i (nI (i + 1)))], [], M)
        rw [nI_1, e, lo_B hB (by omega) (by omega), pt_and, hv, hw]
        rfl
  refine rX2_insideOf_48 (Nat.le_of_ble_eq_true rfl) rfl (((gX2_insideOf_0_1 t (nI m) n B M ht).to ?_).tr (K.tr (gX2_insideOf_11_3 t (nI m) _ (nI n) n B M ht hle)))
  rw [ep_nI hn hs, an_nI]
  rfl
end
section
/-! Coder: rows, names -/
/-- all threes of n points in their order -/
def tl_F (n : Nat) : List (Nat × Nat × Nat) := (List.range n).flatMap fun i => (List.range n).flatMap fun j => ((List.range n).filter fun k => decide (i < j) && decide (j < k)).map fun k => (i, j, k)
def tr_F (n p : Nat) : Nat × Nat × Nat := (tl_F n).getD p (0, 0, 0)
set_option maxRecDepth 100000 in
theorem tr_tab : ((List.range 11).all fun n => decide ((tl_F n).length = rk_0 n n) && ((List.range n).all fun i => (List.range n).all fun j => (List.range n).all fun k => !(decide (i < j) && decide (j < k)) || decide (tr_F n (rk_F n i j k) = (i, j, k))) && ((List.range (rk_0 n n)).all fun p => decide ((tr_F n p).1 < (tr_F n p).2.1) && (decide ((tr_F n p).2.1 < (tr_F n p).2.2) && (decide ((tr_F n p).2.2 < n) && decide (rk_F n (tr_F n p).1 (tr_F n p).2.1 (tr_F n p).2.2 = p))))) = true := by decide +kernel
theorem tr_at {n i j k : Nat} (hn : n ≤ 10) (h1 : i < j) (h2 : j < k) (hk : k < n) : tr_F n (rk_F n i j k) = (i, j, k) := by
  have h := pt_all tr_tab (i := n) (by omega)
  rw [Bool.and_eq_true, Bool.and_eq_true] at h
  have h3 := pt_all (pt_all (pt_all h.1.2 (i := i) (by omega)) (i := j) (by omega)) (i := k) hk
  simpa [h1, h2] using h3
theorem tr_of {n p : Nat} (hn : n ≤ 10) (hp : p < rk_0 n n) : ∃ i j k, i < j ∧ j < k ∧ k < n ∧ rk_F n i j k = p ∧ tr_F n p = (i, j, k) := by
  have h := pt_all tr_tab (i := n) (by omega)
  rw [Bool.and_eq_true, Bool.and_eq_true] at h
  have h3 := pt_all h.2 hp
  simp only [Bool.and_eq_true, decide_eq_true_eq] at h3
  exact ⟨_, _, _, h3.1, h3.2.1, h3.2.2.1, h3.2.2.2, rfl⟩
theorem rk_end (n : Nat) : rk_F n n (n + 1) (n + 2) = rk_0 n n := by
  unfold rk_F
  rw [rk_i0 n n (n + 1) (by omega)]
  omega
/-- the row by the names g -/
def rw_F (n : Nat) (B : Nat → Nat → Nat → Bool) (g : Nat → Nat) (mr : Bool) (p : Nat) : Int32 := if B (g (tr_F n p).1) (g (tr_F n p).2.1) (g (tr_F n p).2.2) != mr then 1 else 2
theorem rw_at {n i j k : Nat} {B : Nat → Nat → Nat → Bool} {g : Nat → Nat} {mr : Bool} (hn : n ≤ 10) (h1 : i < j) (h2 : j < k) (hk : k < n) : rw_F n B g mr (rk_F n i j k) = if B (g i) (g j) (g k) != mr then 1 else 2 := by
  unfold rw_F
  rw [tr_at hn h1 h2 hk]
def eq_F (f w : Nat → Int32) : Nat → Bool
  | 0 => true
  | p + 1 => eq_F f w p && decide (w p = f p)
theorem eq_succ (f w : Nat → Int32) (p : Nat) : eq_F f w (p + 1) = (eq_F f w p && decide (w p = f p)) := rfl
theorem eq_iff {f w : Nat → Int32} : ∀ {p : Nat}, eq_F f w p = true ↔ ∀ q, q < p → w q = f q
  | 0 => by simp [eq_F]
  | p + 1 => by
    rw [eq_succ, Bool.and_eq_true, eq_iff, decide_eq_true_eq]
    constructor
    · intro h q hq
      rcases Nat.lt_succ_iff_lt_or_eq.mp hq with h1 | h1
      · exact h.1 q h1
      · rw [h1]; exact h.2
    · intro h
      exact ⟨fun q hq => h q (by omega), h p (by omega)⟩
def co_F (f w : Nat → Int32) (p : Nat) : Nat → Int32 := fun q => if q < p then w q else f q
theorem co_zero (f w : Nat → Int32) : co_F f w 0 = f := by
  funext q
  exact if_neg (Nat.not_lt_zero q)
theorem co_at (f w : Nat → Int32) (p : Nat) : co_F f w p p = f p := if_neg (Nat.lt_irrefl p)
theorem co_step (f w : Nat → Int32) (p : Nat) : upd (co_F f w p) p (w p) = co_F f w (p + 1) := by
  funext q
  unfold upd co_F
  by_cases h : q = p
  · rw [if_pos h, if_pos (by omega), h]
  · rw [if_neg h]
    by_cases h2 : q < p
    · rw [if_pos h2, if_pos (by omega)]
    · rw [if_neg h2, if_neg (by omega)]
theorem co_eq {f w : Nat → Int32} {p : Nat} (h : eq_F f w p = true) : co_F f w p = f := by
  funext q
  unfold co_F
  split
  · exact eq_iff.mp h q (by assumption)
  · rfl
/-- the row is found to be behind at p -/
def rt_F (f w : Nat → Int32) (p : Nat) : Bool := eq_F f w p && decide (f p < w p)
def of_M (M : pt_M) (k t N : Nat) (w : Nat → Int32) : pt_M := if ((List.range N).all fun p => !rt_F (pt_A M k t) w p) = true then pt_wA M k t (co_F (pt_A M k t) w N) else M
theorem fs_none {α : Type} {f : Nat → Option α} : ∀ {d i : Nat}, fs_F d i f = none ↔ ∀ j, i ≤ j → j < i + d → f j = none
  | 0, i => ⟨fun _ j h1 h2 => by omega, fun _ => rfl⟩
  | d + 1, i => by
    unfold fs_F
    cases hf : f i with
    | some v => exact ⟨fun z => (by cases z), fun z => (by have := z i (Nat.le_refl i) (by omega); rw [hf] at this; cases this)⟩
    | none =>
      rw [fs_none]
      constructor
      · intro h j h1 h2
        rcases Nat.eq_or_lt_of_le h1 with e | e
        · rw [← e]; exact hf
        · exact h j (by omega) (by omega)
      · exact fun h j h1 h2 => h j (by omega) (by omega)
theorem of_nest {fst w : Nat → Int32} {n : Nat} (hn : n ≤ 10) : (fs_F (n - 0) 0 fun i => fs_F (n - (i + 1)) (i + 1) fun j => fs_F (n - (j + 1)) (j + 1) fun k => if rt_F fst w (rk_F n i j k) then some () else none) = none ↔ ((List.range (rk_0 n n)).all fun p => !rt_F fst w p) = true := by
  rw [fs_none, List.all_eq_true]
  constructor
  · intro h p hp
    obtain ⟨i, j, k, h1, h2, h3, h4, -⟩ := tr_of hn (List.mem_range.mp hp)
    have e1 := h i (by omega) (by omega)
    rw [fs_none] at e1
    have e2 := e1 j (by omega) (by omega)
    rw [fs_none] at e2
    have e3 := e2 k (by omega) (by omega)
    rw [h4] at e3
    cases hr : rt_F fst w p
    · rfl
    · rw [hr] at e3
      cases e3
  · intro h i _ hi
    rw [fs_none]
    intro j hj0 hj
    rw [fs_none]
    intro k hk0 hk
    obtain ⟨hr1, hr2⟩ := rk_lt n hn i (by omega) j (by omega) k (by omega) (by omega) (by omega)
    have e := h _ (List.mem_range.mpr hr1)
    cases hr : rt_F fst w (rk_F n i j k)
    · simp
    · rw [hr] at e
      cases e
theorem rX0_offerRow_117 {vs : List pt_V} {M M' : pt_M} {L : List (Nat × pt_V)} (hvs : (vs.map pt_w).sum ≤ 11) (hX : M'.2.2.2.2 = M.2.2.2.2) (h : pt_Go YX0_offerRow (0, pt_en 0 vs, [], M) (117, L, [], M')) : pt_Does yX0_offerRow YX0_offerRow vs M none M' := pt_does_go tX0_offerRow_ok nX0_offerRow hvs hX ⟨_, by with_unfolding_all rfl, rfl, rfl⟩ h
theorem rX0_offerRow_166 {vs : List pt_V} {M M' : pt_M} {L : List (Nat × pt_V)} (hvs : (vs.map pt_w).sum ≤ 11) (hX : M'.2.2.2.2 = M.2.2.2.2) (h : pt_Go YX0_offerRow (0, pt_en 0 vs, [], M) (166, L, [], M')) : pt_Does yX0_offerRow YX0_offerRow vs M none M' := pt_does_go tX0_offerRow_ok nX0_offerRow hvs hX ⟨_, by with_unfolding_all rfl, rfl, rfl⟩ h
set_option maxRecDepth 100000 in
theorem gX0_offerRow12_0_1 (t : Nat) (x : Int32)  (M : pt_M) :
    pt_Go YX0_offerRow (0, [(0, pt_r 5 0), (1, pt_r 3 t), (2, pt_i x), (3, pt_r 12 t)], [], M)
      (9, [(0, pt_r 5 0), (1, pt_r 3 t), (2, pt_i x), (3, pt_r 12 t), (4, pt_i 0), (5, pt_i 0), (6, pt_i 0)], [], M) :=
  pt_run_ok tX0_offerRow_ok 6 [] (P := True) (by with_unfolding_all rfl) trivial
set_option maxRecDepth 100000 in
theorem gX0_offerRow12_9_1 (t : Nat) (l2 : Int32) (l4 : Int32) (l5 : Int32) (l6 : Int32)  (M : pt_M) (h1 : t < 7) (h2 : ¬ (pt_F M 3 0 t) ≤ l6) :
    pt_Go YX0_offerRow (9, [(0, pt_r 5 0), (1, pt_r 3 t), (2, pt_i l2), (3, pt_r 12 t), (4, pt_i l4), (5, pt_i l5), (6, pt_i l6)], [], M)
      (24, [(0, pt_r 5 0), (1, pt_r 3 t), (2, pt_i l2), (3, pt_r 12 t), (4, pt_i l4), (5, pt_i l5), (6, pt_i l6), (7, pt_i (l6 + 1))], [], M) :=
  pt_run_ok tX0_offerRow_ok 8 [.inl false] (P := (t < 7) ∧ (¬ (pt_F M 3 0 t) ≤ l6) ∧ True) (by with_unfolding_all rfl) ⟨h1, h2, trivial⟩
set_option maxRecDepth 100000 in
theorem gX0_offerRow12_9_2 (t : Nat) (l2 : Int32) (l4 : Int32) (l5 : Int32) (l6 : Int32)  (M : pt_M) (h1 : t < 7) (h2 : (pt_F M 3 0 t) ≤ l6) :
    pt_Go YX0_offerRow (9, [(0, pt_r 5 0), (1, pt_r 3 t), (2, pt_i l2), (3, pt_r 12 t), (4, pt_i l4), (5, pt_i l5), (6, pt_i l6)], [], M)
      (166, [(0, pt_r 5 0), (1, pt_r 3 t), (2, pt_i l2), (3, pt_r 12 t), (4, pt_i l4), (5, pt_i l5), (6, pt_i l6)], [], M) :=
  pt_run_ok tX0_offerRow_ok 4 [.inl true] (P := (t < 7) ∧ ((pt_F M 3 0 t) ≤ l6) ∧ True) (by with_unfolding_all rfl) ⟨h1, h2, trivial⟩
set_option maxRecDepth 100000 in
theorem gX0_offerRow12_24_1 (t : Nat) (l2 : Int32) (l4 : Int32) (l5 : Int32) (l6 : Int32) (l7 : Int32)  (M : pt_M) (h1 : t < 7) (h2 : ¬ (pt_F M 3 0 t) ≤ l7) :
    pt_Go YX0_offerRow (24, [(0, pt_r 5 0), (1, pt_r 3 t), (2, pt_i l2), (3, pt_r 12 t), (4, pt_i l4), (5, pt_i l5), (6, pt_i l6), (7, pt_i l7)], [], M)
      (39, [(0, pt_r 5 0), (1, pt_r 3 t), (2, pt_i l2), (3, pt_r 12 t), (4, pt_i l4), (5, pt_i l5), (6, pt_i l6), (7, pt_i l7), (8, pt_i (l7 + 1))], [], M) :=
  pt_run_ok tX0_offerRow_ok 8 [.inl false] (P := (t < 7) ∧ (¬ (pt_F M 3 0 t) ≤ l7) ∧ True) (by with_unfolding_all rfl) ⟨h1, h2, trivial⟩
set_option maxRecDepth 100000 in
theorem gX0_offerRow12_24_2 (t : Nat) (l2 : Int32) (l4 : Int32) (l5 : Int32) (l6 : Int32) (l7 : Int32)  (M : pt_M) (h1 : t < 7) (h2 : (pt_F M 3 0 t) ≤ l7) :
    pt_Go YX0_offerRow (24, [(0, pt_r 5 0), (1, pt_r 3 t), (2, pt_i l2), (3, pt_r 12 t), (4, pt_i l4), (5, pt_i l5), (6, pt_i l6), (7, pt_i l7)], [], M)
      (9, [(0, pt_r 5 0), (1, pt_r 3 t), (2, pt_i l2), (3, pt_r 12 t), (4, pt_i l4), (5, pt_i l5), (6, pt_i (l6 + 1))], [], M) :=
  (pt_run_ok tX0_offerRow_ok 6 [.inl true] (P := (t < 7) ∧ ((pt_F M 3 0 t) ≤ l7) ∧ True) (by with_unfolding_all rfl) ⟨h1, h2, trivial⟩ : pt_Go YX0_offerRow _ (9, [(0, pt_r 5 0), (1, pt_r 3 t), (2, pt_i l2), (3, pt_r 12 t), (4, pt_i l4), (5, pt_i l5), (6, pt_i (l6 + 1)), (7, pt_i l7)], [], M)).tr (pt_pick [0, 1, 2, 3, 4, 5, 6] (by with_unfolding_all rfl))
set_option maxRecDepth 100000 in
theorem gX0_offerRow12_39_1 (t : Nat) (l2 : Int32) (l4 : Int32) (l5 : Int32) (l6 : Int32) (l7 : Int32) (l8 : Int32)  (M : pt_M) (h1 : t < 7) (h2 : ¬ (pt_F M 3 0 t) ≤ l8) (h3 : ¬ (nI 120) ≤ l5) (h4 : pt_in l6 10) (h5 : pt_in l7 10) (h6 : pt_in l8 10) (h7 : pt_in (pt_A M 15 0 (pt_nt l6)) 10) (h8 : pt_in (pt_A M 15 0 (pt_nt l7)) 10) (h9 : ¬ (lb_F M t (pt_A M 15 0 (pt_nt l6)) (pt_A M 15 0 (pt_nt l7)) (pt_A M 15 0 (pt_nt l8))) = l2) (h10 : l4 = 0) (h11 : pt_in l5 120) (h12 : ¬ 1 ≤ (pt_A M 12 t (pt_nt l5))) :
    pt_Go YX0_offerRow (39, [(0, pt_r 5 0), (1, pt_r 3 t), (2, pt_i l2), (3, pt_r 12 t), (4, pt_i l4), (5, pt_i l5), (6, pt_i l6), (7, pt_i l7), (8, pt_i l8)], [], M)
      (117, [(0, pt_r 5 0), (1, pt_r 3 t), (2, pt_i l2), (3, pt_r 12 t), (4, pt_i l4), (5, pt_i l5), (6, pt_i l6), (7, pt_i l7), (8, pt_i l8), (9, pt_i 1), (10, pt_i 1)], [], M) :=
  pt_run_ok tX0_offerRow_ok 39 [.inl false, .inl false, .inr (4, some (pt_i (lb_F M t (pt_A M 15 0 (pt_nt l6)) (pt_A M 15 0 (pt_nt l7)) (pt_A M 15 0 (pt_nt l8)))), M), .inl false, .inl false, .inl false, .inl false] (P := (t < 7) ∧ (¬ (pt_F M 3 0 t) ≤ l8) ∧ (t < 7) ∧ (¬ (nI 120) ≤ l5) ∧ (pt_in l6 10) ∧ (pt_in l7 10) ∧ (pt_in l8 10) ∧ pt_Cal YX0_offerRow (.invokevirtual 83) [pt_r 3 t, pt_i (pt_A M 15 0 (pt_nt l6)), pt_i (pt_A M 15 0 (pt_nt l7)), pt_i (pt_A M 15 0 (pt_nt l8))] M (some (pt_i (lb_F M t (pt_A M 15 0 (pt_nt l6)) (pt_A M 15 0 (pt_nt l7)) (pt_A M 15 0 (pt_nt l8))))) M ∧ (¬ (lb_F M t (pt_A M 15 0 (pt_nt l6)) (pt_A M 15 0 (pt_nt l7)) (pt_A M 15 0 (pt_nt l8))) = l2) ∧ (¬ (1 : Int32) = (0 : Int32)) ∧ (l4 = 0) ∧ ((pt_in l5 120) ∧ (t < 7)) ∧ (¬ 1 ≤ (pt_A M 12 t (pt_nt l5))) ∧ True) (by with_unfolding_all rfl) ⟨h1, h2, h1, h3, h4, h5, h6, (pt_callV (i := t) kX0_offerRow_83 mX4_isLeft rfl h1 rfl (dX4_isLeft_v h1 h7 h8)), h9, (by decide), h10, ⟨h11, h1⟩, h12, trivial⟩
set_option maxRecDepth 100000 in
theorem gX0_offerRow12_39_2 (t : Nat) (l2 : Int32) (l4 : Int32) (l5 : Int32) (l6 : Int32) (l7 : Int32) (l8 : Int32)  (M : pt_M) (h1 : t < 7) (h2 : ¬ (pt_F M 3 0 t) ≤ l8) (h3 : ¬ (nI 120) ≤ l5) (h4 : pt_in l6 10) (h5 : pt_in l7 10) (h6 : pt_in l8 10) (h7 : pt_in (pt_A M 15 0 (pt_nt l6)) 10) (h8 : pt_in (pt_A M 15 0 (pt_nt l7)) 10) (h9 : ¬ (lb_F M t (pt_A M 15 0 (pt_nt l6)) (pt_A M 15 0 (pt_nt l7)) (pt_A M 15 0 (pt_nt l8))) = l2) (h10 : l4 = 0) (h11 : pt_in l5 120) (h12 : 1 ≤ (pt_A M 12 t (pt_nt l5))) (h13 : ¬ (pt_A M 12 t (pt_nt l5)) ≤ 1) :
    pt_Go YX0_offerRow (39, [(0, pt_r 5 0), (1, pt_r 3 t), (2, pt_i l2), (3, pt_r 12 t), (4, pt_i l4), (5, pt_i l5), (6, pt_i l6), (7, pt_i l7), (8, pt_i l8)], [], M)
      (39, [(0, pt_r 5 0), (1, pt_r 3 t), (2, pt_i l2), (3, pt_r 12 t), (4, pt_i 1), (5, pt_i (l5 + 1)), (6, pt_i l6), (7, pt_i l7), (8, pt_i (l8 + 1))], [], (pt_wA M 12 t (upd (pt_A M 12 t) (pt_nt l5) 1))) :=
  (pt_run_ok tX0_offerRow_ok 56 [.inl false, .inl false, .inr (4, some (pt_i (lb_F M t (pt_A M 15 0 (pt_nt l6)) (pt_A M 15 0 (pt_nt l7)) (pt_A M 15 0 (pt_nt l8)))), M), .inl false, .inl false, .inl false, .inl true, .inl false, .inl false] (P := (t < 7) ∧ (¬ (pt_F M 3 0 t) ≤ l8) ∧ (t < 7) ∧ (¬ (nI 120) ≤ l5) ∧ (pt_in l6 10) ∧ (pt_in l7 10) ∧ (pt_in l8 10) ∧ pt_Cal YX0_offerRow (.invokevirtual 83) [pt_r 3 t, pt_i (pt_A M 15 0 (pt_nt l6)), pt_i (pt_A M 15 0 (pt_nt l7)), pt_i (pt_A M 15 0 (pt_nt l8))] M (some (pt_i (lb_F M t (pt_A M 15 0 (pt_nt l6)) (pt_A M 15 0 (pt_nt l7)) (pt_A M 15 0 (pt_nt l8))))) M ∧ (¬ (lb_F M t (pt_A M 15 0 (pt_nt l6)) (pt_A M 15 0 (pt_nt l7)) (pt_A M 15 0 (pt_nt l8))) = l2) ∧ (¬ (1 : Int32) = (0 : Int32)) ∧ (l4 = 0) ∧ ((pt_in l5 120) ∧ (t < 7)) ∧ (1 ≤ (pt_A M 12 t (pt_nt l5))) ∧ (l4 = 0) ∧ ((pt_in l5 120) ∧ (t < 7)) ∧ (¬ (pt_A M 12 t (pt_nt l5)) ≤ 1) ∧ ((pt_in l5 120) ∧ (t < 7)) ∧ True) (by with_unfolding_all rfl) ⟨h1, h2, h1, h3, h4, h5, h6, (pt_callV (i := t) kX0_offerRow_83 mX4_isLeft rfl h1 rfl (dX4_isLeft_v h1 h7 h8)), h9, (by decide), h10, ⟨h11, h1⟩, h12, h10, ⟨h11, h1⟩, h13, ⟨h11, h1⟩, trivial⟩ : pt_Go YX0_offerRow _ (39, [(0, pt_r 5 0), (1, pt_r 3 t), (2, pt_i l2), (3, pt_r 12 t), (4, pt_i 1), (5, pt_i (l5 + 1)), (6, pt_i l6), (7, pt_i l7), (8, pt_i (l8 + 1)), (9, pt_i 1), (10, pt_i 1)], [], (pt_wA M 12 t (upd (pt_A M 12 t) (pt_nt l5) 1)))).tr (pt_pick [0, 1, 2, 3, 4, 5, 6, 7, 8] (by with_unfolding_all rfl))
set_option maxRecDepth 100000 in
theorem gX0_offerRow12_39_3 (t : Nat) (l2 : Int32) (l4 : Int32) (l5 : Int32) (l6 : Int32) (l7 : Int32) (l8 : Int32)  (M : pt_M) (h1 : t < 7) (h2 : ¬ (pt_F M 3 0 t) ≤ l8) (h3 : ¬ (nI 120) ≤ l5) (h4 : pt_in l6 10) (h5 : pt_in l7 10) (h6 : pt_in l8 10) (h7 : pt_in (pt_A M 15 0 (pt_nt l6)) 10) (h8 : pt_in (pt_A M 15 0 (pt_nt l7)) 10) (h9 : ¬ (lb_F M t (pt_A M 15 0 (pt_nt l6)) (pt_A M 15 0 (pt_nt l7)) (pt_A M 15 0 (pt_nt l8))) = l2) (h10 : l4 = 0) (h11 : pt_in l5 120) (h12 : 1 ≤ (pt_A M 12 t (pt_nt l5))) (h13 : (pt_A M 12 t (pt_nt l5)) ≤ 1) :
    pt_Go YX0_offerRow (39, [(0, pt_r 5 0), (1, pt_r 3 t), (2, pt_i l2), (3, pt_r 12 t), (4, pt_i l4), (5, pt_i l5), (6, pt_i l6), (7, pt_i l7), (8, pt_i l8)], [], M)
      (39, [(0, pt_r 5 0), (1, pt_r 3 t), (2, pt_i l2), (3, pt_r 12 t), (4, pt_i 0), (5, pt_i (l5 + 1)), (6, pt_i l6), (7, pt_i l7), (8, pt_i (l8 + 1))], [], (pt_wA M 12 t (upd (pt_A M 12 t) (pt_nt l5) 1))) :=
  (pt_run_ok tX0_offerRow_ok 55 [.inl false, .inl false, .inr (4, some (pt_i (lb_F M t (pt_A M 15 0 (pt_nt l6)) (pt_A M 15 0 (pt_nt l7)) (pt_A M 15 0 (pt_nt l8)))), M), .inl false, .inl false, .inl false, .inl true, .inl false, .inl true] (P := (t < 7) ∧ (¬ (pt_F M 3 0 t) ≤ l8) ∧ (t < 7) ∧ (¬ (nI 120) ≤ l5) ∧ (pt_in l6 10) ∧ (pt_in l7 10) ∧ (pt_in l8 10) ∧ pt_Cal YX0_offerRow (.invokevirtual 83) [pt_r 3 t, pt_i (pt_A M 15 0 (pt_nt l6)), pt_i (pt_A M 15 0 (pt_nt l7)), pt_i (pt_A M 15 0 (pt_nt l8))] M (some (pt_i (lb_F M t (pt_A M 15 0 (pt_nt l6)) (pt_A M 15 0 (pt_nt l7)) (pt_A M 15 0 (pt_nt l8))))) M ∧ (¬ (lb_F M t (pt_A M 15 0 (pt_nt l6)) (pt_A M 15 0 (pt_nt l7)) (pt_A M 15 0 (pt_nt l8))) = l2) ∧ (¬ (1 : Int32) = (0 : Int32)) ∧ (l4 = 0) ∧ ((pt_in l5 120) ∧ (t < 7)) ∧ (1 ≤ (pt_A M 12 t (pt_nt l5))) ∧ (l4 = 0) ∧ ((pt_in l5 120) ∧ (t < 7)) ∧ ((pt_A M 12 t (pt_nt l5)) ≤ 1) ∧ ((pt_in l5 120) ∧ (t < 7)) ∧ True) (by with_unfolding_all rfl) ⟨h1, h2, h1, h3, h4, h5, h6, (pt_callV (i := t) kX0_offerRow_83 mX4_isLeft rfl h1 rfl (dX4_isLeft_v h1 h7 h8)), h9, (by decide), h10, ⟨h11, h1⟩, h12, h10, ⟨h11, h1⟩, h13, ⟨h11, h1⟩, trivial⟩ : pt_Go YX0_offerRow _ (39, [(0, pt_r 5 0), (1, pt_r 3 t), (2, pt_i l2), (3, pt_r 12 t), (4, pt_i 0), (5, pt_i (l5 + 1)), (6, pt_i l6), (7, pt_i l7), (8, pt_i (l8 + 1)), (9, pt_i 1), (10, pt_i 1)], [], (pt_wA M 12 t (upd (pt_A M 12 t) (pt_nt l5) 1)))).tr (pt_pick [0, 1, 2, 3, 4, 5, 6, 7, 8] (by with_unfolding_all rfl))
set_option maxRecDepth 100000 in
theorem gX0_offerRow12_39_4 (t : Nat) (l2 : Int32) (l4 : Int32) (l5 : Int32) (l6 : Int32) (l7 : Int32) (l8 : Int32)  (M : pt_M) (h1 : t < 7) (h2 : ¬ (pt_F M 3 0 t) ≤ l8) (h3 : ¬ (nI 120) ≤ l5) (h4 : pt_in l6 10) (h5 : pt_in l7 10) (h6 : pt_in l8 10) (h7 : pt_in (pt_A M 15 0 (pt_nt l6)) 10) (h8 : pt_in (pt_A M 15 0 (pt_nt l7)) 10) (h9 : ¬ (lb_F M t (pt_A M 15 0 (pt_nt l6)) (pt_A M 15 0 (pt_nt l7)) (pt_A M 15 0 (pt_nt l8))) = l2) (h10 : ¬ l4 = 0) (h11 : pt_in l5 120) :
    pt_Go YX0_offerRow (39, [(0, pt_r 5 0), (1, pt_r 3 t), (2, pt_i l2), (3, pt_r 12 t), (4, pt_i l4), (5, pt_i l5), (6, pt_i l6), (7, pt_i l7), (8, pt_i l8)], [], M)
      (39, [(0, pt_r 5 0), (1, pt_r 3 t), (2, pt_i l2), (3, pt_r 12 t), (4, pt_i 1), (5, pt_i (l5 + 1)), (6, pt_i l6), (7, pt_i l7), (8, pt_i (l8 + 1))], [], (pt_wA M 12 t (upd (pt_A M 12 t) (pt_nt l5) 1))) :=
  (pt_run_ok tX0_offerRow_ok 46 [.inl false, .inl false, .inr (4, some (pt_i (lb_F M t (pt_A M 15 0 (pt_nt l6)) (pt_A M 15 0 (pt_nt l7)) (pt_A M 15 0 (pt_nt l8)))), M), .inl false, .inl false, .inl true, .inl true] (P := (t < 7) ∧ (¬ (pt_F M 3 0 t) ≤ l8) ∧ (t < 7) ∧ (¬ (nI 120) ≤ l5) ∧ (pt_in l6 10) ∧ (pt_in l7 10) ∧ (pt_in l8 10) ∧ pt_Cal YX0_offerRow (.invokevirtual 83) [pt_r 3 t, pt_i (pt_A M 15 0 (pt_nt l6)), pt_i (pt_A M 15 0 (pt_nt l7)), pt_i (pt_A M 15 0 (pt_nt l8))] M (some (pt_i (lb_F M t (pt_A M 15 0 (pt_nt l6)) (pt_A M 15 0 (pt_nt l7)) (pt_A M 15 0 (pt_nt l8))))) M ∧ (¬ (lb_F M t (pt_A M 15 0 (pt_nt l6)) (pt_A M 15 0 (pt_nt l7)) (pt_A M 15 0 (pt_nt l8))) = l2) ∧ (¬ (1 : Int32) = (0 : Int32)) ∧ (¬ l4 = 0) ∧ (¬ l4 = 0) ∧ ((pt_in l5 120) ∧ (t < 7)) ∧ True) (by with_unfolding_all rfl) ⟨h1, h2, h1, h3, h4, h5, h6, (pt_callV (i := t) kX0_offerRow_83 mX4_isLeft rfl h1 rfl (dX4_isLeft_v h1 h7 h8)), h9, (by decide), h10, h10, ⟨h11, h1⟩, trivial⟩ : pt_Go YX0_offerRow _ (39, [(0, pt_r 5 0), (1, pt_r 3 t), (2, pt_i l2), (3, pt_r 12 t), (4, pt_i 1), (5, pt_i (l5 + 1)), (6, pt_i l6), (7, pt_i l7), (8, pt_i (l8 + 1)), (9, pt_i 1), (10, pt_i 1)], [], (pt_wA M 12 t (upd (pt_A M 12 t) (pt_nt l5) 1)))).tr (pt_pick [0, 1, 2, 3, 4, 5, 6, 7, 8] (by with_unfolding_all rfl))
set_option maxRecDepth 100000 in
theorem gX0_offerRow12_39_5 (t : Nat) (l2 : Int32) (l4 : Int32) (l5 : Int32) (l6 : Int32) (l7 : Int32) (l8 : Int32)  (M : pt_M) (h1 : t < 7) (h2 : ¬ (pt_F M 3 0 t) ≤ l8) (h3 : ¬ (nI 120) ≤ l5) (h4 : pt_in l6 10) (h5 : pt_in l7 10) (h6 : pt_in l8 10) (h7 : pt_in (pt_A M 15 0 (pt_nt l6)) 10) (h8 : pt_in (pt_A M 15 0 (pt_nt l7)) 10) (h9 : (lb_F M t (pt_A M 15 0 (pt_nt l6)) (pt_A M 15 0 (pt_nt l7)) (pt_A M 15 0 (pt_nt l8))) = l2) (h10 : l4 = 0) (h11 : pt_in l5 120) (h12 : ¬ 2 ≤ (pt_A M 12 t (pt_nt l5))) :
    pt_Go YX0_offerRow (39, [(0, pt_r 5 0), (1, pt_r 3 t), (2, pt_i l2), (3, pt_r 12 t), (4, pt_i l4), (5, pt_i l5), (6, pt_i l6), (7, pt_i l7), (8, pt_i l8)], [], M)
      (117, [(0, pt_r 5 0), (1, pt_r 3 t), (2, pt_i l2), (3, pt_r 12 t), (4, pt_i l4), (5, pt_i l5), (6, pt_i l6), (7, pt_i l7), (8, pt_i l8), (9, pt_i 0), (10, pt_i 2)], [], M) :=
  pt_run_ok tX0_offerRow_ok 37 [.inl false, .inl false, .inr (4, some (pt_i (lb_F M t (pt_A M 15 0 (pt_nt l6)) (pt_A M 15 0 (pt_nt l7)) (pt_A M 15 0 (pt_nt l8)))), M), .inl true, .inl true, .inl false, .inl false] (P := (t < 7) ∧ (¬ (pt_F M 3 0 t) ≤ l8) ∧ (t < 7) ∧ (¬ (nI 120) ≤ l5) ∧ (pt_in l6 10) ∧ (pt_in l7 10) ∧ (pt_in l8 10) ∧ pt_Cal YX0_offerRow (.invokevirtual 83) [pt_r 3 t, pt_i (pt_A M 15 0 (pt_nt l6)), pt_i (pt_A M 15 0 (pt_nt l7)), pt_i (pt_A M 15 0 (pt_nt l8))] M (some (pt_i (lb_F M t (pt_A M 15 0 (pt_nt l6)) (pt_A M 15 0 (pt_nt l7)) (pt_A M 15 0 (pt_nt l8))))) M ∧ ((lb_F M t (pt_A M 15 0 (pt_nt l6)) (pt_A M 15 0 (pt_nt l7)) (pt_A M 15 0 (pt_nt l8))) = l2) ∧ ((0 : Int32) = (0 : Int32)) ∧ (l4 = 0) ∧ ((pt_in l5 120) ∧ (t < 7)) ∧ (¬ 2 ≤ (pt_A M 12 t (pt_nt l5))) ∧ True) (by with_unfolding_all rfl) ⟨h1, h2, h1, h3, h4, h5, h6, (pt_callV (i := t) kX0_offerRow_83 mX4_isLeft rfl h1 rfl (dX4_isLeft_v h1 h7 h8)), h9, (by decide), h10, ⟨h11, h1⟩, h12, trivial⟩
set_option maxRecDepth 100000 in
theorem gX0_offerRow12_39_6 (t : Nat) (l2 : Int32) (l4 : Int32) (l5 : Int32) (l6 : Int32) (l7 : Int32) (l8 : Int32)  (M : pt_M) (h1 : t < 7) (h2 : ¬ (pt_F M 3 0 t) ≤ l8) (h3 : ¬ (nI 120) ≤ l5) (h4 : pt_in l6 10) (h5 : pt_in l7 10) (h6 : pt_in l8 10) (h7 : pt_in (pt_A M 15 0 (pt_nt l6)) 10) (h8 : pt_in (pt_A M 15 0 (pt_nt l7)) 10) (h9 : (lb_F M t (pt_A M 15 0 (pt_nt l6)) (pt_A M 15 0 (pt_nt l7)) (pt_A M 15 0 (pt_nt l8))) = l2) (h10 : l4 = 0) (h11 : pt_in l5 120) (h12 : 2 ≤ (pt_A M 12 t (pt_nt l5))) (h13 : ¬ (pt_A M 12 t (pt_nt l5)) ≤ 2) :
    pt_Go YX0_offerRow (39, [(0, pt_r 5 0), (1, pt_r 3 t), (2, pt_i l2), (3, pt_r 12 t), (4, pt_i l4), (5, pt_i l5), (6, pt_i l6), (7, pt_i l7), (8, pt_i l8)], [], M)
      (39, [(0, pt_r 5 0), (1, pt_r 3 t), (2, pt_i l2), (3, pt_r 12 t), (4, pt_i 1), (5, pt_i (l5 + 1)), (6, pt_i l6), (7, pt_i l7), (8, pt_i (l8 + 1))], [], (pt_wA M 12 t (upd (pt_A M 12 t) (pt_nt l5) 2))) :=
  (pt_run_ok tX0_offerRow_ok 54 [.inl false, .inl false, .inr (4, some (pt_i (lb_F M t (pt_A M 15 0 (pt_nt l6)) (pt_A M 15 0 (pt_nt l7)) (pt_A M 15 0 (pt_nt l8)))), M), .inl true, .inl true, .inl false, .inl true, .inl false, .inl false] (P := (t < 7) ∧ (¬ (pt_F M 3 0 t) ≤ l8) ∧ (t < 7) ∧ (¬ (nI 120) ≤ l5) ∧ (pt_in l6 10) ∧ (pt_in l7 10) ∧ (pt_in l8 10) ∧ pt_Cal YX0_offerRow (.invokevirtual 83) [pt_r 3 t, pt_i (pt_A M 15 0 (pt_nt l6)), pt_i (pt_A M 15 0 (pt_nt l7)), pt_i (pt_A M 15 0 (pt_nt l8))] M (some (pt_i (lb_F M t (pt_A M 15 0 (pt_nt l6)) (pt_A M 15 0 (pt_nt l7)) (pt_A M 15 0 (pt_nt l8))))) M ∧ ((lb_F M t (pt_A M 15 0 (pt_nt l6)) (pt_A M 15 0 (pt_nt l7)) (pt_A M 15 0 (pt_nt l8))) = l2) ∧ ((0 : Int32) = (0 : Int32)) ∧ (l4 = 0) ∧ ((pt_in l5 120) ∧ (t < 7)) ∧ (2 ≤ (pt_A M 12 t (pt_nt l5))) ∧ (l4 = 0) ∧ ((pt_in l5 120) ∧ (t < 7)) ∧ (¬ (pt_A M 12 t (pt_nt l5)) ≤ 2) ∧ ((pt_in l5 120) ∧ (t < 7)) ∧ True) (by with_unfolding_all rfl) ⟨h1, h2, h1, h3, h4, h5, h6, (pt_callV (i := t) kX0_offerRow_83 mX4_isLeft rfl h1 rfl (dX4_isLeft_v h1 h7 h8)), h9, (by decide), h10, ⟨h11, h1⟩, h12, h10, ⟨h11, h1⟩, h13, ⟨h11, h1⟩, trivial⟩ : pt_Go YX0_offerRow _ (39, [(0, pt_r 5 0), (1, pt_r 3 t), (2, pt_i l2), (3, pt_r 12 t), (4, pt_i 1), (5, pt_i (l5 + 1)), (6, pt_i l6), (7, pt_i l7), (8, pt_i (l8 + 1)), (9, pt_i 0), (10, pt_i 2)], [], (pt_wA M 12 t (upd (pt_A M 12 t) (pt_nt l5) 2)))).tr (pt_pick [0, 1, 2, 3, 4, 5, 6, 7, 8] (by with_unfolding_all rfl))
set_option maxRecDepth 100000 in
theorem gX0_offerRow12_39_7 (t : Nat) (l2 : Int32) (l4 : Int32) (l5 : Int32) (l6 : Int32) (l7 : Int32) (l8 : Int32)  (M : pt_M) (h1 : t < 7) (h2 : ¬ (pt_F M 3 0 t) ≤ l8) (h3 : ¬ (nI 120) ≤ l5) (h4 : pt_in l6 10) (h5 : pt_in l7 10) (h6 : pt_in l8 10) (h7 : pt_in (pt_A M 15 0 (pt_nt l6)) 10) (h8 : pt_in (pt_A M 15 0 (pt_nt l7)) 10) (h9 : (lb_F M t (pt_A M 15 0 (pt_nt l6)) (pt_A M 15 0 (pt_nt l7)) (pt_A M 15 0 (pt_nt l8))) = l2) (h10 : l4 = 0) (h11 : pt_in l5 120) (h12 : 2 ≤ (pt_A M 12 t (pt_nt l5))) (h13 : (pt_A M 12 t (pt_nt l5)) ≤ 2) :
    pt_Go YX0_offerRow (39, [(0, pt_r 5 0), (1, pt_r 3 t), (2, pt_i l2), (3, pt_r 12 t), (4, pt_i l4), (5, pt_i l5), (6, pt_i l6), (7, pt_i l7), (8, pt_i l8)], [], M)
      (39, [(0, pt_r 5 0), (1, pt_r 3 t), (2, pt_i l2), (3, pt_r 12 t), (4, pt_i 0), (5, pt_i (l5 + 1)), (6, pt_i l6), (7, pt_i l7), (8, pt_i (l8 + 1))], [], (pt_wA M 12 t (upd (pt_A M 12 t) (pt_nt l5) 2))) :=
  (pt_run_ok tX0_offerRow_ok 53 [.inl false, .inl false, .inr (4, some (pt_i (lb_F M t (pt_A M 15 0 (pt_nt l6)) (pt_A M 15 0 (pt_nt l7)) (pt_A M 15 0 (pt_nt l8)))), M), .inl true, .inl true, .inl false, .inl true, .inl false, .inl true] (P := (t < 7) ∧ (¬ (pt_F M 3 0 t) ≤ l8) ∧ (t < 7) ∧ (¬ (nI 120) ≤ l5) ∧ (pt_in l6 10) ∧ (pt_in l7 10) ∧ (pt_in l8 10) ∧ pt_Cal YX0_offerRow (.invokevirtual 83) [pt_r 3 t, pt_i (pt_A M 15 0 (pt_nt l6)), pt_i (pt_A M 15 0 (pt_nt l7)), pt_i (pt_A M 15 0 (pt_nt l8))] M (some (pt_i (lb_F M t (pt_A M 15 0 (pt_nt l6)) (pt_A M 15 0 (pt_nt l7)) (pt_A M 15 0 (pt_nt l8))))) M ∧ ((lb_F M t (pt_A M 15 0 (pt_nt l6)) (pt_A M 15 0 (pt_nt l7)) (pt_A M 15 0 (pt_nt l8))) = l2) ∧ ((0 : Int32) = (0 : Int32)) ∧ (l4 = 0) ∧ ((pt_in l5 120) ∧ (t < 7)) ∧ (2 ≤ (pt_A M 12 t (pt_nt l5))) ∧ (l4 = 0) ∧ ((pt_in l5 120) ∧ (t < 7)) ∧ ((pt_A M 12 t (pt_nt l5)) ≤ 2) ∧ ((pt_in l5 120) ∧ (t < 7)) ∧ True) (by with_unfolding_all rfl) ⟨h1, h2, h1, h3, h4, h5, h6, (pt_callV (i := t) kX0_offerRow_83 mX4_isLeft rfl h1 rfl (dX4_isLeft_v h1 h7 h8)), h9, (by decide), h10, ⟨h11, h1⟩, h12, h10, ⟨h11, h1⟩, h13, ⟨h11, h1⟩, trivial⟩ : pt_Go YX0_offerRow _ (39, [(0, pt_r 5 0), (1, pt_r 3 t), (2, pt_i l2), (3, pt_r 12 t), (4, pt_i 0), (5, pt_i (l5 + 1)), (6, pt_i l6), (7, pt_i l7), (8, pt_i (l8 + 1)), (9, pt_i 0), (10, pt_i 2)], [], (pt_wA M 12 t (upd (pt_A M 12 t) (pt_nt l5) 2)))).tr (pt_pick [0, 1, 2, 3, 4, 5, 6, 7, 8] (by with_unfolding_all rfl))
set_option maxRecDepth 100000 in
theorem gX0_offerRow12_39_8 (t : Nat) (l2 : Int32) (l4 : Int32) (l5 : Int32) (l6 : Int32) (l7 : Int32) (l8 : Int32)  (M : pt_M) (h1 : t < 7) (h2 : ¬ (pt_F M 3 0 t) ≤ l8) (h3 : ¬ (nI 120) ≤ l5) (h4 : pt_in l6 10) (h5 : pt_in l7 10) (h6 : pt_in l8 10) (h7 : pt_in (pt_A M 15 0 (pt_nt l6)) 10) (h8 : pt_in (pt_A M 15 0 (pt_nt l7)) 10) (h9 : (lb_F M t (pt_A M 15 0 (pt_nt l6)) (pt_A M 15 0 (pt_nt l7)) (pt_A M 15 0 (pt_nt l8))) = l2) (h10 : ¬ l4 = 0) (h11 : pt_in l5 120) :
    pt_Go YX0_offerRow (39, [(0, pt_r 5 0), (1, pt_r 3 t), (2, pt_i l2), (3, pt_r 12 t), (4, pt_i l4), (5, pt_i l5), (6, pt_i l6), (7, pt_i l7), (8, pt_i l8)], [], M)
      (39, [(0, pt_r 5 0), (1, pt_r 3 t), (2, pt_i l2), (3, pt_r 12 t), (4, pt_i 1), (5, pt_i (l5 + 1)), (6, pt_i l6), (7, pt_i l7), (8, pt_i (l8 + 1))], [], (pt_wA M 12 t (upd (pt_A M 12 t) (pt_nt l5) 2))) :=
  (pt_run_ok tX0_offerRow_ok 44 [.inl false, .inl false, .inr (4, some (pt_i (lb_F M t (pt_A M 15 0 (pt_nt l6)) (pt_A M 15 0 (pt_nt l7)) (pt_A M 15 0 (pt_nt l8)))), M), .inl true, .inl true, .inl true, .inl true] (P := (t < 7) ∧ (¬ (pt_F M 3 0 t) ≤ l8) ∧ (t < 7) ∧ (¬ (nI 120) ≤ l5) ∧ (pt_in l6 10) ∧ (pt_in l7 10) ∧ (pt_in l8 10) ∧ pt_Cal YX0_offerRow (.invokevirtual 83) [pt_r 3 t, pt_i (pt_A M 15 0 (pt_nt l6)), pt_i (pt_A M 15 0 (pt_nt l7)), pt_i (pt_A M 15 0 (pt_nt l8))] M (some (pt_i (lb_F M t (pt_A M 15 0 (pt_nt l6)) (pt_A M 15 0 (pt_nt l7)) (pt_A M 15 0 (pt_nt l8))))) M ∧ ((lb_F M t (pt_A M 15 0 (pt_nt l6)) (pt_A M 15 0 (pt_nt l7)) (pt_A M 15 0 (pt_nt l8))) = l2) ∧ ((0 : Int32) = (0 : Int32)) ∧ (¬ l4 = 0) ∧ (¬ l4 = 0) ∧ ((pt_in l5 120) ∧ (t < 7)) ∧ True) (by with_unfolding_all rfl) ⟨h1, h2, h1, h3, h4, h5, h6, (pt_callV (i := t) kX0_offerRow_83 mX4_isLeft rfl h1 rfl (dX4_isLeft_v h1 h7 h8)), h9, (by decide), h10, h10, ⟨h11, h1⟩, trivial⟩ : pt_Go YX0_offerRow _ (39, [(0, pt_r 5 0), (1, pt_r 3 t), (2, pt_i l2), (3, pt_r 12 t), (4, pt_i 1), (5, pt_i (l5 + 1)), (6, pt_i l6), (7, pt_i l7), (8, pt_i (l8 + 1)), (9, pt_i 0), (10, pt_i 2)], [], (pt_wA M 12 t (upd (pt_A M 12 t) (pt_nt l5) 2)))).tr (pt_pick [0, 1, 2, 3, 4, 5, 6, 7, 8] (by with_unfolding_all rfl))
set_option maxRecDepth 100000 in
theorem gX0_offerRow12_39_9 (t : Nat) (l2 : Int32) (l4 : Int32) (l5 : Int32) (l6 : Int32) (l7 : Int32) (l8 : Int32)  (M : pt_M) (h1 : t < 7) (h2 : ¬ (pt_F M 3 0 t) ≤ l8) (h3 : (nI 120) ≤ l5) :
    pt_Go YX0_offerRow (39, [(0, pt_r 5 0), (1, pt_r 3 t), (2, pt_i l2), (3, pt_r 12 t), (4, pt_i l4), (5, pt_i l5), (6, pt_i l6), (7, pt_i l7), (8, pt_i l8)], [], M)
      (24, [(0, pt_r 5 0), (1, pt_r 3 t), (2, pt_i l2), (3, pt_r 12 t), (4, pt_i l4), (5, pt_i l5), (6, pt_i l6), (7, pt_i (l7 + 1))], [], M) :=
  (pt_run_ok tX0_offerRow_ok 10 [.inl false, .inl true] (P := (t < 7) ∧ (¬ (pt_F M 3 0 t) ≤ l8) ∧ (t < 7) ∧ ((nI 120) ≤ l5) ∧ True) (by with_unfolding_all rfl) ⟨h1, h2, h1, h3, trivial⟩ : pt_Go YX0_offerRow _ (24, [(0, pt_r 5 0), (1, pt_r 3 t), (2, pt_i l2), (3, pt_r 12 t), (4, pt_i l4), (5, pt_i l5), (6, pt_i l6), (7, pt_i (l7 + 1)), (8, pt_i l8)], [], M)).tr (pt_pick [0, 1, 2, 3, 4, 5, 6, 7] (by with_unfolding_all rfl))
set_option maxRecDepth 100000 in
theorem gX0_offerRow12_39_10 (t : Nat) (l2 : Int32) (l4 : Int32) (l5 : Int32) (l6 : Int32) (l7 : Int32) (l8 : Int32)  (M : pt_M) (h1 : t < 7) (h2 : (pt_F M 3 0 t) ≤ l8) :
    pt_Go YX0_offerRow (39, [(0, pt_r 5 0), (1, pt_r 3 t), (2, pt_i l2), (3, pt_r 12 t), (4, pt_i l4), (5, pt_i l5), (6, pt_i l6), (7, pt_i l7), (8, pt_i l8)], [], M)
      (24, [(0, pt_r 5 0), (1, pt_r 3 t), (2, pt_i l2), (3, pt_r 12 t), (4, pt_i l4), (5, pt_i l5), (6, pt_i l6), (7, pt_i (l7 + 1))], [], M) :=
  (pt_run_ok tX0_offerRow_ok 6 [.inl true] (P := (t < 7) ∧ ((pt_F M 3 0 t) ≤ l8) ∧ True) (by with_unfolding_all rfl) ⟨h1, h2, trivial⟩ : pt_Go YX0_offerRow _ (24, [(0, pt_r 5 0), (1, pt_r 3 t), (2, pt_i l2), (3, pt_r 12 t), (4, pt_i l4), (5, pt_i l5), (6, pt_i l6), (7, pt_i (l7 + 1)), (8, pt_i l8)], [], M)).tr (pt_pick [0, 1, 2, 3, 4, 5, 6, 7] (by with_unfolding_all rfl))
theorem of_step_12 {t n i j k p : Nat} {mr : Bool} {g : Nat → Nat} {B : Nat → Nat → Nat → Bool} {M : pt_M} {fst w : Nat → Int32} (h : tb_P M t n B) (hg : ∀ i, i < n → pt_A M 15 0 i = nI (g i) ∧ g i < 10) (hfe : pt_A M 12 t = fst) (hi : i < n) (hj : j < n) (hk : k < n) (hpl : p < 120) (hwp : w p = if B (g i) (g j) (g k) != mr then 1 else 2) : (∀ v : Unit, (if rt_F fst w p then some () else none) = some v → pt_Go YX0_offerRow (39, [(0, pt_r 5 0), (1, pt_r 3 t), (2, pt_i (pt_b mr)), (3, pt_r 12 t), (4, pt_i (pt_b (!eq_F fst w p))), (5, pt_i (nI p)), (6, pt_i (nI i)), (7, pt_i (nI j)), (8, pt_i (nI k))], [], pt_wA M 12 t (co_F fst w p)) (117, [], [], M)) ∧ ((if rt_F fst w p then some () else none) = none → pt_Go YX0_offerRow (39, [(0, pt_r 5 0), (1, pt_r 3 t), (2, pt_i (pt_b mr)), (3, pt_r 12 t), (4, pt_i (pt_b (!eq_F fst w p))), (5, pt_i (nI p)), (6, pt_i (nI i)), (7, pt_i (nI j)), (8, pt_i (nI k))], [], pt_wA M 12 t (co_F fst w p)) (39, [(0, pt_r 5 0), (1, pt_r 3 t), (2, pt_i (pt_b mr)), (3, pt_r 12 t), (4, pt_i (pt_b (!eq_F fst w (p + 1)))), (5, pt_i (nI (p + 1))), (6, pt_i (nI i)), (7, pt_i (nI j)), (8, pt_i (nI (k + 1)))], [], pt_wA M 12 t (co_F fst w (p + 1)))) := by
  obtain ⟨ht, hn, hs, hB⟩ := h
  have hlt : ∀ i, i < n → ¬ pt_F M 3 0 t ≤ nI i := fun i hi => by rw [hs]; exact nI_ge hi (by omega)
  have hp : ∀ i, i < n → pt_in (nI i) 10 := fun i hi => pt_in_nI (by omega) (by decide)
  have hA : ∀ a, a < n → pt_A (pt_wA M 12 t (co_F fst w p)) 15 0 (pt_nt (nI a)) = nI (g a) := fun a ha => by
    rw [pt_A_wA', if_neg (fun z => absurd z.1 (by decide)), pt_nt_nI (by omega)]
    exact (hg a ha).1
  have e1 := hA i hi
  have e2 := hA j hj
  have e3 := hA k hk
  have hB' : ct_B (pt_wA M 12 t (co_F fst w p)) t B := fun a c ha hc => by
    rw [pt_A_wA', if_neg (fun z => absurd z.1 (by decide))]
    exact hB a c ha hc
  have el : lb_F (pt_wA M 12 t (co_F fst w p)) t (nI (g i)) (nI (g j)) (nI (g k)) = pt_b (B (g i) (g j) (g k)) := lb_B hB' (hg i hi).2 (hg j hj).2 (hg k hk).2
  have ef : pt_A (pt_wA M 12 t (co_F fst w p)) 12 t (pt_nt (nI p)) = fst p := by
    rw [pt_A_wA, pt_nt_nI (by omega)]
    exact co_at fst w p
  have g1 : pt_in (pt_A (pt_wA M 12 t (co_F fst w p)) 15 0 (pt_nt (nI i))) 10 := by rw [e1]; exact pt_in_nI (hg i hi).2 (by decide)
  have g2 : pt_in (pt_A (pt_wA M 12 t (co_F fst w p)) 15 0 (pt_nt (nI j))) 10 := by rw [e2]; exact pt_in_nI (hg j hj).2 (by decide)
  have g5 : pt_in (nI p) 120 := pt_in_nI (by omega) (by decide)
  have g5' : ¬ nI 120 ≤ nI p := nI_ge (by omega) (by decide)
  have hF : ¬ pt_F (pt_wA M 12 t (co_F fst w p)) 3 0 t ≤ nI k := hlt k hk
  have hst : pt_wA (pt_wA M 12 t (co_F fst w p)) 12 t (upd (pt_A (pt_wA M 12 t (co_F fst w p)) 12 t) (pt_nt (nI p)) (w p)) = pt_wA M 12 t (co_F fst w (p + 1)) := by
    rw [pt_wA_wA, pt_A_wA, pt_nt_nI (by omega), co_step]
  have hM : eq_F fst w p = true → pt_wA M 12 t (co_F fst w p) = M := fun he => by rw [co_eq he, ← hfe, pt_wA_self]
  cases hbv : (B (g i) (g j) (g k) != mr)
  · rw [hbv] at hwp
    have hwp : w p = 2 := hwp
    have hl : lb_F (pt_wA M 12 t (co_F fst w p)) t (pt_A (pt_wA M 12 t (co_F fst w p)) 15 0 (pt_nt (nI i))) (pt_A (pt_wA M 12 t (co_F fst w p)) 15 0 (pt_nt (nI j))) (pt_A (pt_wA M 12 t (co_F fst w p)) 15 0 (pt_nt (nI k))) = pt_b mr := by
      rw [e1, e2, e3, el, pt_b_eq]
      simpa using hbv
    cases he : eq_F fst w p
    · refine ⟨fun v z => by simp [rt_F, he] at z, fun _ => (gX0_offerRow12_39_8 t (pt_b mr) _ (nI p) (nI i) (nI j) (nI k) (pt_wA M 12 t (co_F fst w p)) ht hF g5' (hp i hi) (hp j hj) (hp k hk) g1 g2 hl (by decide) g5).to ?_⟩
      rw [hwp] at hst
      rw [hst, nI_1, nI_1, eq_succ, he]
      rfl
    · by_cases c1 : w p ≤ fst p
      · by_cases c2 : fst p ≤ w p
        · refine ⟨fun v z => by simp [rt_F, Int32.not_lt.mpr c1] at z, fun _ => (gX0_offerRow12_39_7 t (pt_b mr) _ (nI p) (nI i) (nI j) (nI k) (pt_wA M 12 t (co_F fst w p)) ht hF g5' (hp i hi) (hp j hj) (hp k hk) g1 g2 hl rfl g5 (by rw [ef, ← hwp]; exact c1) (by rw [ef, ← hwp]; exact c2)).to ?_⟩
          have c3 : w p = fst p := Int32.le_antisymm c1 c2
          rw [hwp] at hst
          rw [hst, nI_1, nI_1, eq_succ, he, c3]
          simp
          rfl
        · refine ⟨fun v z => by simp [rt_F, Int32.not_lt.mpr c1] at z, fun _ => (gX0_offerRow12_39_6 t (pt_b mr) _ (nI p) (nI i) (nI j) (nI k) (pt_wA M 12 t (co_F fst w p)) ht hF g5' (hp i hi) (hp j hj) (hp k hk) g1 g2 hl rfl g5 (by rw [ef, ← hwp]; exact c1) (by rw [ef, ← hwp]; exact c2)).to ?_⟩
          have c3 : ¬ w p = fst p := fun z => c2 (by rw [z]; exact Int32.le_refl _)
          rw [hwp] at hst
          rw [hst, nI_1, nI_1, eq_succ, he, decide_eq_false c3]
          rfl
      · refine ⟨fun v z => ((gX0_offerRow12_39_5 t (pt_b mr) _ (nI p) (nI i) (nI j) (nI k) (pt_wA M 12 t (co_F fst w p)) ht hF g5' (hp i hi) (hp j hj) (hp k hk) g1 g2 hl rfl g5 (by rw [ef, ← hwp]; exact c1)).tr pt_dropA).toM (hM he), fun z => by simp [rt_F, he, Int32.not_le.mp c1] at z⟩
  · rw [hbv] at hwp
    have hwp : w p = 1 := hwp
    have hl : ¬ lb_F (pt_wA M 12 t (co_F fst w p)) t (pt_A (pt_wA M 12 t (co_F fst w p)) 15 0 (pt_nt (nI i))) (pt_A (pt_wA M 12 t (co_F fst w p)) 15 0 (pt_nt (nI j))) (pt_A (pt_wA M 12 t (co_F fst w p)) 15 0 (pt_nt (nI k))) = pt_b mr := by
      rw [e1, e2, e3, el, pt_b_eq]
      simpa using hbv
    cases he : eq_F fst w p
    · refine ⟨fun v z => by simp [rt_F, he] at z, fun _ => (gX0_offerRow12_39_4 t (pt_b mr) _ (nI p) (nI i) (nI j) (nI k) (pt_wA M 12 t (co_F fst w p)) ht hF g5' (hp i hi) (hp j hj) (hp k hk) g1 g2 hl (by decide) g5).to ?_⟩
      rw [hwp] at hst
      rw [hst, nI_1, nI_1, eq_succ, he]
      rfl
    · by_cases c1 : w p ≤ fst p
      · by_cases c2 : fst p ≤ w p
        · refine ⟨fun v z => by simp [rt_F, Int32.not_lt.mpr c1] at z, fun _ => (gX0_offerRow12_39_3 t (pt_b mr) _ (nI p) (nI i) (nI j) (nI k) (pt_wA M 12 t (co_F fst w p)) ht hF g5' (hp i hi) (hp j hj) (hp k hk) g1 g2 hl rfl g5 (by rw [ef, ← hwp]; exact c1) (by rw [ef, ← hwp]; exact c2)).to ?_⟩
          have c3 : w p = fst p := Int32.le_antisymm c1 c2
          rw [hwp] at hst
          rw [hst, nI_1, nI_1, eq_succ, he, c3]
          simp
          rfl
        · refine ⟨fun v z => by simp [rt_F, Int32.not_lt.mpr c1] at z, fun _ => (gX0_offerRow12_39_2 t (pt_b mr) _ (nI p) (nI i) (nI j) (nI k) (pt_wA M 12 t (co_F fst w p)) ht hF g5' (hp i hi) (hp j hj) (hp k hk) g1 g2 hl rfl g5 (by rw [ef, ← hwp]; exact c1) (by rw [ef, ← hwp]; exact c2)).to ?_⟩
          have c3 : ¬ w p = fst p := fun z => c2 (by rw [z]; exact Int32.le_refl _)
          rw [hwp] at hst
          rw [hst, nI_1, nI_1, eq_succ, he, decide_eq_false c3]
          rfl
      · refine ⟨fun v z => ((gX0_offerRow12_39_1 t (pt_b mr) _ (nI p) (nI i) (nI j) (nI k) (pt_wA M 12 t (co_F fst w p)) ht hF g5' (hp i hi) (hp j hj) (hp k hk) g1 g2 hl rfl g5 (by rw [ef, ← hwp]; exact c1)).tr pt_dropA).toM (hM he), fun z => by simp [rt_F, he, Int32.not_le.mp c1] at z⟩
theorem dX0_offerRow_12 {t n : Nat} {mr : Bool} {g : Nat → Nat} {B : Nat → Nat → Nat → Bool} {M : pt_M} (h : tb_P M t n B) (hg : ∀ i, i < n → pt_A M 15 0 i = nI (g i) ∧ g i < 10) : pt_Does yX0_offerRow YX0_offerRow [pt_r 5 0, pt_r 3 t, pt_i (pt_b mr), pt_r 12 t] M none (of_M M 12 t (rk_0 n n) (rw_F n B g mr)) := by
  obtain ⟨ht, hn, hs, hB⟩ := h
  have hlt : ∀ i, i < n → ¬ pt_F M 3 0 t ≤ nI i := fun i hi => by rw [hs]; exact nI_ge hi (by omega)
  have hle : pt_F M 3 0 t ≤ nI n := by rw [hs]; exact Int32.le_refl _
  have hp : ∀ i, i < n → pt_in (nI i) 10 := fun i hi => pt_in_nI (by omega) (by decide)
  generalize hw : rw_F n B g mr = w
  generalize hfe : pt_A M 12 t = fst
  have K := pt_nest (α := Unit) (Y := YX0_offerRow) (σ := (0, [(0, pt_r 5 0), (1, pt_r 3 t), (2, pt_i (pt_b mr)), (3, pt_r 12 t)], [], M)) (τ := (166, [], [], pt_wA M 12 t (co_F fst w (rk_F n n (n + 1) (n + 2))))) (R := fun _ => (117, [], [], M)) (n := n) (i := 0)
    (S := fun i => (9, [(0, pt_r 5 0), (1, pt_r 3 t), (2, pt_i (pt_b mr)), (3, pt_r 12 t), (4, pt_i (pt_b (!eq_F fst w (rk_F n i (i + 1) (i + 2))))), (5, pt_i (nI (rk_F n i (i + 1) (i + 2)))), (6, pt_i (nI i))], [], pt_wA M 12 t (co_F fst w (rk_F n i (i + 1) (i + 2)))))
    (f := fun i => fs_F (n - (i + 1)) (i + 1) fun j => fs_F (n - (j + 1)) (j + 1) fun k => if rt_F fst w (rk_F n i j k) then some () else none)
    (Nat.zero_le n) ((gX0_offerRow12_0_1 t (pt_b mr) M).to (by rw [← hfe, show rk_F n 0 (0 + 1) (0 + 2) = 0 from rfl, co_zero, pt_wA_self]; rfl)) ((gX0_offerRow12_9_2 t (pt_b mr) (pt_b (!eq_F fst w (rk_F n n (n + 1) (n + 2)))) (nI (rk_F n n (n + 1) (n + 2))) (nI n) (pt_wA M 12 t (co_F fst w (rk_F n n (n + 1) (n + 2)))) ht hle).tr pt_dropA) fun i _ hi =>
    pt_nest (S := fun j => (24, [(0, pt_r 5 0), (1, pt_r 3 t), (2, pt_i (pt_b mr)), (3, pt_r 12 t), (4, pt_i (pt_b (!eq_F fst w (rk_F n i j (j + 1))))), (5, pt_i (nI (rk_F n i j (j + 1)))), (6, pt_i (nI i)), (7, pt_i (nI j))], [], pt_wA M 12 t (co_F fst w (rk_F n i j (j + 1)))))
      (by omega) ((gX0_offerRow12_9_1 t (pt_b mr) (pt_b (!eq_F fst w (rk_F n i (i + 1) (i + 2)))) (nI (rk_F n i (i + 1) (i + 2))) (nI i) (pt_wA M 12 t (co_F fst w (rk_F n i (i + 1) (i + 2)))) ht (hlt i hi)).to (by rw [nI_1])) ((gX0_offerRow12_24_2 t (pt_b mr) (pt_b (!eq_F fst w (rk_F n i n (n + 1)))) (nI (rk_F n i n (n + 1))) (nI i) (nI n) (pt_wA M 12 t (co_F fst w (rk_F n i n (n + 1)))) ht hle).to (by rw [nI_1, rk_i (n + 1) (Nat.le_refl _)])) fun j hj0 hj =>
    pt_nest (S := fun k => (39, [(0, pt_r 5 0), (1, pt_r 3 t), (2, pt_i (pt_b mr)), (3, pt_r 12 t), (4, pt_i (pt_b (!eq_F fst w (rk_F n i j k)))), (5, pt_i (nI (rk_F n i j k))), (6, pt_i (nI i)), (7, pt_i (nI j)), (8, pt_i (nI k))], [], pt_wA M 12 t (co_F fst w (rk_F n i j k))))
      (by omega) ((gX0_offerRow12_24_1 t (pt_b mr) (pt_b (!eq_F fst w (rk_F n i j (j + 1)))) (nI (rk_F n i j (j + 1))) (nI i) (nI j) (pt_wA M 12 t (co_F fst w (rk_F n i j (j + 1)))) ht (hlt j hj)).to (by rw [nI_1])) ((gX0_offerRow12_39_10 t (pt_b mr) (pt_b (!eq_F fst w (rk_F n i j n))) (nI (rk_F n i j n)) (nI i) (nI j) (nI n) (pt_wA M 12 t (co_F fst w (rk_F n i j n))) ht hle).to (by rw [nI_1, rk_j (by omega) hj])) fun k hk0 hk => by
      obtain ⟨hr1, hr2⟩ := rk_lt n hn i hi j hj k hk (by omega) (by omega)
      have hwp : w (rk_F n i j k) = if B (g i) (g j) (g k) != mr then 1 else 2 := by rw [← hw]; exact rw_at hn (by omega) (by omega) hk
      have e := of_step_12 (mr := mr) (w := w) ⟨ht, hn, hs, hB⟩ hg hfe hi hj hk (show rk_F n i j k < 120 by omega) hwp
      rw [← rk_k (n := n) (i := i) (show j < k by omega)] at e
      exact e
  have hall := of_nest (fst := fst) (w := w) (n := n) hn
  have hend : rk_F n n (n + 1) (n + 2) = rk_0 n n := rk_end n
  unfold of_M
  rw [hfe]
  cases hq : (List.range (rk_0 n n)).all fun p => !rt_F fst w p
  · rw [if_neg (by simp)]
    cases hf : (fs_F (n - 0) 0 fun i => fs_F (n - (i + 1)) (i + 1) fun j => fs_F (n - (j + 1)) (j + 1) fun k => if rt_F fst w (rk_F n i j k) then some () else none) with
    | some v => exact rX0_offerRow_117 (Nat.le_of_ble_eq_true rfl) rfl (K.1 v hf)
    | none => rw [hall.mp hf] at hq; cases hq
  · rw [if_pos rfl]
    refine rX0_offerRow_166 (Nat.le_of_ble_eq_true rfl) rfl ((K.2 (hall.mpr hq)).toM ?_)
    rw [hend]
set_option maxRecDepth 100000 in
theorem gX0_offerRow13_0_1 (t : Nat) (x : Int32)  (M : pt_M) :
    pt_Go YX0_offerRow (0, [(0, pt_r 5 0), (1, pt_r 3 t), (2, pt_i x), (3, pt_r 13 t)], [], M)
      (9, [(0, pt_r 5 0), (1, pt_r 3 t), (2, pt_i x), (3, pt_r 13 t), (4, pt_i 0), (5, pt_i 0), (6, pt_i 0)], [], M) :=
  pt_run_ok tX0_offerRow_ok 6 [] (P := True) (by with_unfolding_all rfl) trivial
set_option maxRecDepth 100000 in
theorem gX0_offerRow13_9_1 (t : Nat) (l2 : Int32) (l4 : Int32) (l5 : Int32) (l6 : Int32)  (M : pt_M) (h1 : t < 7) (h2 : ¬ (pt_F M 3 0 t) ≤ l6) :
    pt_Go YX0_offerRow (9, [(0, pt_r 5 0), (1, pt_r 3 t), (2, pt_i l2), (3, pt_r 13 t), (4, pt_i l4), (5, pt_i l5), (6, pt_i l6)], [], M)
      (24, [(0, pt_r 5 0), (1, pt_r 3 t), (2, pt_i l2), (3, pt_r 13 t), (4, pt_i l4), (5, pt_i l5), (6, pt_i l6), (7, pt_i (l6 + 1))], [], M) :=
  pt_run_ok tX0_offerRow_ok 8 [.inl false] (P := (t < 7) ∧ (¬ (pt_F M 3 0 t) ≤ l6) ∧ True) (by with_unfolding_all rfl) ⟨h1, h2, trivial⟩
set_option maxRecDepth 100000 in
theorem gX0_offerRow13_9_2 (t : Nat) (l2 : Int32) (l4 : Int32) (l5 : Int32) (l6 : Int32)  (M : pt_M) (h1 : t < 7) (h2 : (pt_F M 3 0 t) ≤ l6) :
    pt_Go YX0_offerRow (9, [(0, pt_r 5 0), (1, pt_r 3 t), (2, pt_i l2), (3, pt_r 13 t), (4, pt_i l4), (5, pt_i l5), (6, pt_i l6)], [], M)
      (166, [(0, pt_r 5 0), (1, pt_r 3 t), (2, pt_i l2), (3, pt_r 13 t), (4, pt_i l4), (5, pt_i l5), (6, pt_i l6)], [], M) :=
  pt_run_ok tX0_offerRow_ok 4 [.inl true] (P := (t < 7) ∧ ((pt_F M 3 0 t) ≤ l6) ∧ True) (by with_unfolding_all rfl) ⟨h1, h2, trivial⟩
set_option maxRecDepth 100000 in
theorem gX0_offerRow13_24_1 (t : Nat) (l2 : Int32) (l4 : Int32) (l5 : Int32) (l6 : Int32) (l7 : Int32)  (M : pt_M) (h1 : t < 7) (h2 : ¬ (pt_F M 3 0 t) ≤ l7) :
    pt_Go YX0_offerRow (24, [(0, pt_r 5 0), (1, pt_r 3 t), (2, pt_i l2), (3, pt_r 13 t), (4, pt_i l4), (5, pt_i l5), (6, pt_i l6), (7, pt_i l7)], [], M)
      (39, [(0, pt_r 5 0), (1, pt_r 3 t), (2, pt_i l2), (3, pt_r 13 t), (4, pt_i l4), (5, pt_i l5), (6, pt_i l6), (7, pt_i l7), (8, pt_i (l7 + 1))], [], M) :=
  pt_run_ok tX0_offerRow_ok 8 [.inl false] (P := (t < 7) ∧ (¬ (pt_F M 3 0 t) ≤ l7) ∧ True) (by with_unfolding_all rfl) ⟨h1, h2, trivial⟩
set_option maxRecDepth 100000 in
theorem gX0_offerRow13_24_2 (t : Nat) (l2 : Int32) (l4 : Int32) (l5 : Int32) (l6 : Int32) (l7 : Int32)  (M : pt_M) (h1 : t < 7) (h2 : (pt_F M 3 0 t) ≤ l7) :
    pt_Go YX0_offerRow (24, [(0, pt_r 5 0), (1, pt_r 3 t), (2, pt_i l2), (3, pt_r 13 t), (4, pt_i l4), (5, pt_i l5), (6, pt_i l6), (7, pt_i l7)], [], M)
      (9, [(0, pt_r 5 0), (1, pt_r 3 t), (2, pt_i l2), (3, pt_r 13 t), (4, pt_i l4), (5, pt_i l5), (6, pt_i (l6 + 1))], [], M) :=
  (pt_run_ok tX0_offerRow_ok 6 [.inl true] (P := (t < 7) ∧ ((pt_F M 3 0 t) ≤ l7) ∧ True) (by with_unfolding_all rfl) ⟨h1, h2, trivial⟩ : pt_Go YX0_offerRow _ (9, [(0, pt_r 5 0), (1, pt_r 3 t), (2, pt_i l2), (3, pt_r 13 t), (4, pt_i l4), (5, pt_i l5), (6, pt_i (l6 + 1)), (7, pt_i l7)], [], M)).tr (pt_pick [0, 1, 2, 3, 4, 5, 6] (by with_unfolding_all rfl))
set_option maxRecDepth 100000 in
theorem gX0_offerRow13_39_1 (t : Nat) (l2 : Int32) (l4 : Int32) (l5 : Int32) (l6 : Int32) (l7 : Int32) (l8 : Int32)  (M : pt_M) (h1 : t < 7) (h2 : ¬ (pt_F M 3 0 t) ≤ l8) (h3 : ¬ (nI 120) ≤ l5) (h4 : pt_in l6 10) (h5 : pt_in l7 10) (h6 : pt_in l8 10) (h7 : pt_in (pt_A M 15 0 (pt_nt l6)) 10) (h8 : pt_in (pt_A M 15 0 (pt_nt l7)) 10) (h9 : ¬ (lb_F M t (pt_A M 15 0 (pt_nt l6)) (pt_A M 15 0 (pt_nt l7)) (pt_A M 15 0 (pt_nt l8))) = l2) (h10 : l4 = 0) (h11 : pt_in l5 120) (h12 : ¬ 1 ≤ (pt_A M 13 t (pt_nt l5))) :
    pt_Go YX0_offerRow (39, [(0, pt_r 5 0), (1, pt_r 3 t), (2, pt_i l2), (3, pt_r 13 t), (4, pt_i l4), (5, pt_i l5), (6, pt_i l6), (7, pt_i l7), (8, pt_i l8)], [], M)
      (117, [(0, pt_r 5 0), (1, pt_r 3 t), (2, pt_i l2), (3, pt_r 13 t), (4, pt_i l4), (5, pt_i l5), (6, pt_i l6), (7, pt_i l7), (8, pt_i l8), (9, pt_i 1), (10, pt_i 1)], [], M) :=
  pt_run_ok tX0_offerRow_ok 39 [.inl false, .inl false, .inr (4, some (pt_i (lb_F M t (pt_A M 15 0 (pt_nt l6)) (pt_A M 15 0 (pt_nt l7)) (pt_A M 15 0 (pt_nt l8)))), M), .inl false, .inl false, .inl false, .inl false] (P := (t < 7) ∧ (¬ (pt_F M 3 0 t) ≤ l8) ∧ (t < 7) ∧ (¬ (nI 120) ≤ l5) ∧ (pt_in l6 10) ∧ (pt_in l7 10) ∧ (pt_in l8 10) ∧ pt_Cal YX0_offerRow (.invokevirtual 83) [pt_r 3 t, pt_i (pt_A M 15 0 (pt_nt l6)), pt_i (pt_A M 15 0 (pt_nt l7)), pt_i (pt_A M 15 0 (pt_nt l8))] M (some (pt_i (lb_F M t (pt_A M 15 0 (pt_nt l6)) (pt_A M 15 0 (pt_nt l7)) (pt_A M 15 0 (pt_nt l8))))) M ∧ (¬ (lb_F M t (pt_A M 15 0 (pt_nt l6)) (pt_A M 15 0 (pt_nt l7)) (pt_A M 15 0 (pt_nt l8))) = l2) ∧ (¬ (1 : Int32) = (0 : Int32)) ∧ (l4 = 0) ∧ ((pt_in l5 120) ∧ (t < 7)) ∧ (¬ 1 ≤ (pt_A M 13 t (pt_nt l5))) ∧ True) (by with_unfolding_all rfl) ⟨h1, h2, h1, h3, h4, h5, h6, (pt_callV (i := t) kX0_offerRow_83 mX4_isLeft rfl h1 rfl (dX4_isLeft_v h1 h7 h8)), h9, (by decide), h10, ⟨h11, h1⟩, h12, trivial⟩
set_option maxRecDepth 100000 in
theorem gX0_offerRow13_39_2 (t : Nat) (l2 : Int32) (l4 : Int32) (l5 : Int32) (l6 : Int32) (l7 : Int32) (l8 : Int32)  (M : pt_M) (h1 : t < 7) (h2 : ¬ (pt_F M 3 0 t) ≤ l8) (h3 : ¬ (nI 120) ≤ l5) (h4 : pt_in l6 10) (h5 : pt_in l7 10) (h6 : pt_in l8 10) (h7 : pt_in (pt_A M 15 0 (pt_nt l6)) 10) (h8 : pt_in (pt_A M 15 0 (pt_nt l7)) 10) (h9 : ¬ (lb_F M t (pt_A M 15 0 (pt_nt l6)) (pt_A M 15 0 (pt_nt l7)) (pt_A M 15 0 (pt_nt l8))) = l2) (h10 : l4 = 0) (h11 : pt_in l5 120) (h12 : 1 ≤ (pt_A M 13 t (pt_nt l5))) (h13 : ¬ (pt_A M 13 t (pt_nt l5)) ≤ 1) :
    pt_Go YX0_offerRow (39, [(0, pt_r 5 0), (1, pt_r 3 t), (2, pt_i l2), (3, pt_r 13 t), (4, pt_i l4), (5, pt_i l5), (6, pt_i l6), (7, pt_i l7), (8, pt_i l8)], [], M)
      (39, [(0, pt_r 5 0), (1, pt_r 3 t), (2, pt_i l2), (3, pt_r 13 t), (4, pt_i 1), (5, pt_i (l5 + 1)), (6, pt_i l6), (7, pt_i l7), (8, pt_i (l8 + 1))], [], (pt_wA M 13 t (upd (pt_A M 13 t) (pt_nt l5) 1))) :=
  (pt_run_ok tX0_offerRow_ok 56 [.inl false, .inl false, .inr (4, some (pt_i (lb_F M t (pt_A M 15 0 (pt_nt l6)) (pt_A M 15 0 (pt_nt l7)) (pt_A M 15 0 (pt_nt l8)))), M), .inl false, .inl false, .inl false, .inl true, .inl false, .inl false] (P := (t < 7) ∧ (¬ (pt_F M 3 0 t) ≤ l8) ∧ (t < 7) ∧ (¬ (nI 120) ≤ l5) ∧ (pt_in l6 10) ∧ (pt_in l7 10) ∧ (pt_in l8 10) ∧ pt_Cal YX0_offerRow (.invokevirtual 83) [pt_r 3 t, pt_i (pt_A M 15 0 (pt_nt l6)), pt_i (pt_A M 15 0 (pt_nt l7)), pt_i (pt_A M 15 0 (pt_nt l8))] M (some (pt_i (lb_F M t (pt_A M 15 0 (pt_nt l6)) (pt_A M 15 0 (pt_nt l7)) (pt_A M 15 0 (pt_nt l8))))) M ∧ (¬ (lb_F M t (pt_A M 15 0 (pt_nt l6)) (pt_A M 15 0 (pt_nt l7)) (pt_A M 15 0 (pt_nt l8))) = l2) ∧ (¬ (1 : Int32) = (0 : Int32)) ∧ (l4 = 0) ∧ ((pt_in l5 120) ∧ (t < 7)) ∧ (1 ≤ (pt_A M 13 t (pt_nt l5))) ∧ (l4 = 0) ∧ ((pt_in l5 120) ∧ (t < 7)) ∧ (¬ (pt_A M 13 t (pt_nt l5)) ≤ 1) ∧ ((pt_in l5 120) ∧ (t < 7)) ∧ True) (by with_unfolding_all rfl) ⟨h1, h2, h1, h3, h4, h5, h6, (pt_callV (i := t) kX0_offerRow_83 mX4_isLeft rfl h1 rfl (dX4_isLeft_v h1 h7 h8)), h9, (by decide), h10, ⟨h11, h1⟩, h12, h10, ⟨h11, h1⟩, h13, ⟨h11, h1⟩, trivial⟩ : pt_Go YX0_offerRow _ (39, [(0, pt_r 5 0), (1, pt_r 3 t), (2, pt_i l2), (3, pt_r 13 t), (4, pt_i 1), (5, pt_i (l5 + 1)), (6, pt_i l6), (7, pt_i l7), (8, pt_i (l8 + 1)), (9, pt_i 1), (10, pt_i 1)], [], (pt_wA M 13 t (upd (pt_A M 13 t) (pt_nt l5) 1)))).tr (pt_pick [0, 1, 2, 3, 4, 5, 6, 7, 8] (by with_unfolding_all rfl))
set_option maxRecDepth 100000 in
theorem gX0_offerRow13_39_3 (t : Nat) (l2 : Int32) (l4 : Int32) (l5 : Int32) (l6 : Int32) (l7 : Int32) (l8 : Int32)  (M : pt_M) (h1 : t < 7) (h2 : ¬ (pt_F M 3 0 t) ≤ l8) (h3 : ¬ (nI 120) ≤ l5) (h4 : pt_in l6 10) (h5 : pt_in l7 10) (h6 : pt_in l8 10) (h7 : pt_in (pt_A M 15 0 (pt_nt l6)) 10) (h8 : pt_in (pt_A M 15 0 (pt_nt l7)) 10) (h9 : ¬ (lb_F M t (pt_A M 15 0 (pt_nt l6)) (pt_A M 15 0 (pt_nt l7)) (pt_A M 15 0 (pt_nt l8))) = l2) (h10 : l4 = 0) (h11 : pt_in l5 120) (h12 : 1 ≤ (pt_A M 13 t (pt_nt l5))) (h13 : (pt_A M 13 t (pt_nt l5)) ≤ 1) :
    pt_Go YX0_offerRow (39, [(0, pt_r 5 0), (1, pt_r 3 t), (2, pt_i l2), (3, pt_r 13 t), (4, pt_i l4), (5, pt_i l5), (6, pt_i l6), (7, pt_i l7), (8, pt_i l8)], [], M)
      (39, [(0, pt_r 5 0), (1, pt_r 3 t), (2, pt_i l2), (3, pt_r 13 t), (4, pt_i 0), (5, pt_i (l5 + 1)), (6, pt_i l6), (7, pt_i l7), (8, pt_i (l8 + 1))], [], (pt_wA M 13 t (upd (pt_A M 13 t) (pt_nt l5) 1))) :=
  (pt_run_ok tX0_offerRow_ok 55 [.inl false, .inl false, .inr (4, some (pt_i (lb_F M t (pt_A M 15 0 (pt_nt l6)) (pt_A M 15 0 (pt_nt l7)) (pt_A M 15 0 (pt_nt l8)))), M), .inl false, .inl false, .inl false, .inl true, .inl false, .inl true] (P := (t < 7) ∧ (¬ (pt_F M 3 0 t) ≤ l8) ∧ (t < 7) ∧ (¬ (nI 120) ≤ l5) ∧ (pt_in l6 10) ∧ (pt_in l7 10) ∧ (pt_in l8 10) ∧ pt_Cal YX0_offerRow (.invokevirtual 83) [pt_r 3 t, pt_i (pt_A M 15 0 (pt_nt l6)), pt_i (pt_A M 15 0 (pt_nt l7)), pt_i (pt_A M 15 0 (pt_nt l8))] M (some (pt_i (lb_F M t (pt_A M 15 0 (pt_nt l6)) (pt_A M 15 0 (pt_nt l7)) (pt_A M 15 0 (pt_nt l8))))) M ∧ (¬ (lb_F M t (pt_A M 15 0 (pt_nt l6)) (pt_A M 15 0 (pt_nt l7)) (pt_A M 15 0 (pt_nt l8))) = l2) ∧ (¬ (1 : Int32) = (0 : Int32)) ∧ (l4 = 0) ∧ ((pt_in l5 120) ∧ (t < 7)) ∧ (1 ≤ (pt_A M 13 t (pt_nt l5))) ∧ (l4 = 0) ∧ ((pt_in l5 120) ∧ (t < 7)) ∧ ((pt_A M 13 t (pt_nt l5)) ≤ 1) ∧ ((pt_in l5 120) ∧ (t < 7)) ∧ True) (by with_unfolding_all rfl) ⟨h1, h2, h1, h3, h4, h5, h6, (pt_callV (i := t) kX0_offerRow_83 mX4_isLeft rfl h1 rfl (dX4_isLeft_v h1 h7 h8)), h9, (by decide), h10, ⟨h11, h1⟩, h12, h10, ⟨h11, h1⟩, h13, ⟨h11, h1⟩, trivial⟩ : pt_Go YX0_offerRow _ (39, [(0, pt_r 5 0), (1, pt_r 3 t), (2, pt_i l2), (3, pt_r 13 t), (4, pt_i 0), (5, pt_i (l5 + 1)), (6, pt_i l6), (7, pt_i l7), (8, pt_i (l8 + 1)), (9, pt_i 1), (10, pt_i 1)], [], (pt_wA M 13 t (upd (pt_A M 13 t) (pt_nt l5) 1)))).tr (pt_pick [0, 1, 2, 3, 4, 5, 6, 7, 8] (by with_unfolding_all rfl))
set_option maxRecDepth 100000 in
theorem gX0_offerRow13_39_4 (t : Nat) (l2 : Int32) (l4 : Int32) (l5 : Int32) (l6 : Int32) (l7 : Int32) (l8 : Int32)  (M : pt_M) (h1 : t < 7) (h2 : ¬ (pt_F M 3 0 t) ≤ l8) (h3 : ¬ (nI 120) ≤ l5) (h4 : pt_in l6 10) (h5 : pt_in l7 10) (h6 : pt_in l8 10) (h7 : pt_in (pt_A M 15 0 (pt_nt l6)) 10) (h8 : pt_in (pt_A M 15 0 (pt_nt l7)) 10) (h9 : ¬ (lb_F M t (pt_A M 15 0 (pt_nt l6)) (pt_A M 15 0 (pt_nt l7)) (pt_A M 15 0 (pt_nt l8))) = l2) (h10 : ¬ l4 = 0) (h11 : pt_in l5 120) :
    pt_Go YX0_offerRow (39, [(0, pt_r 5 0), (1, pt_r 3 t), (2, pt_i l2), (3, pt_r 13 t), (4, pt_i l4), (5, pt_i l5), (6, pt_i l6), (7, pt_i l7), (8, pt_i l8)], [], M)
      (39, [(0, pt_r 5 0), (1, pt_r 3 t), (2, pt_i l2), (3, pt_r 13 t), (4, pt_i 1), (5, pt_i (l5 + 1)), (6, pt_i l6), (7, pt_i l7), (8, pt_i (l8 + 1))], [], (pt_wA M 13 t (upd (pt_A M 13 t) (pt_nt l5) 1))) :=
  (pt_run_ok tX0_offerRow_ok 46 [.inl false, .inl false, .inr (4, some (pt_i (lb_F M t (pt_A M 15 0 (pt_nt l6)) (pt_A M 15 0 (pt_nt l7)) (pt_A M 15 0 (pt_nt l8)))), M), .inl false, .inl false, .inl true, .inl true] (P := (t < 7) ∧ (¬ (pt_F M 3 0 t) ≤ l8) ∧ (t < 7) ∧ (¬ (nI 120) ≤ l5) ∧ (pt_in l6 10) ∧ (pt_in l7 10) ∧ (pt_in l8 10) ∧ pt_Cal YX0_offerRow (.invokevirtual 83) [pt_r 3 t, pt_i (pt_A M 15 0 (pt_nt l6)), pt_i (pt_A M 15 0 (pt_nt l7)), pt_i (pt_A M 15 0 (pt_nt l8))] M (some (pt_i (lb_F M t (pt_A M 15 0 (pt_nt l6)) (pt_A M 15 0 (pt_nt l7)) (pt_A M 15 0 (pt_nt l8))))) M ∧ (¬ (lb_F M t (pt_A M 15 0 (pt_nt l6)) (pt_A M 15 0 (pt_nt l7)) (pt_A M 15 0 (pt_nt l8))) = l2) ∧ (¬ (1 : Int32) = (0 : Int32)) ∧ (¬ l4 = 0) ∧ (¬ l4 = 0) ∧ ((pt_in l5 120) ∧ (t < 7)) ∧ True) (by with_unfolding_all rfl) ⟨h1, h2, h1, h3, h4, h5, h6, (pt_callV (i := t) kX0_offerRow_83 mX4_isLeft rfl h1 rfl (dX4_isLeft_v h1 h7 h8)), h9, (by decide), h10, h10, ⟨h11, h1⟩, trivial⟩ : pt_Go YX0_offerRow _ (39, [(0, pt_r 5 0), (1, pt_r 3 t), (2, pt_i l2), (3, pt_r 13 t), (4, pt_i 1), (5, pt_i (l5 + 1)), (6, pt_i l6), (7, pt_i l7), (8, pt_i (l8 + 1)), (9, pt_i 1), (10, pt_i 1)], [], (pt_wA M 13 t (upd (pt_A M 13 t) (pt_nt l5) 1)))).tr (pt_pick [0, 1, 2, 3, 4, 5, 6, 7, 8] (by with_unfolding_all rfl))
set_option maxRecDepth 100000 in
theorem gX0_offerRow13_39_5 (t : Nat) (l2 : Int32) (l4 : Int32) (l5 : Int32) (l6 : Int32) (l7 : Int32) (l8 : Int32)  (M : pt_M) (h1 : t < 7) (h2 : ¬ (pt_F M 3 0 t) ≤ l8) (h3 : ¬ (nI 120) ≤ l5) (h4 : pt_in l6 10) (h5 : pt_in l7 10) (h6 : pt_in l8 10) (h7 : pt_in (pt_A M 15 0 (pt_nt l6)) 10) (h8 : pt_in (pt_A M 15 0 (pt_nt l7)) 10) (h9 : (lb_F M t (pt_A M 15 0 (pt_nt l6)) (pt_A M 15 0 (pt_nt l7)) (pt_A M 15 0 (pt_nt l8))) = l2) (h10 : l4 = 0) (h11 : pt_in l5 120) (h12 : ¬ 2 ≤ (pt_A M 13 t (pt_nt l5))) :
    pt_Go YX0_offerRow (39, [(0, pt_r 5 0), (1, pt_r 3 t), (2, pt_i l2), (3, pt_r 13 t), (4, pt_i l4), (5, pt_i l5), (6, pt_i l6), (7, pt_i l7), (8, pt_i l8)], [], M)
      (117, [(0, pt_r 5 0), (1, pt_r 3 t), (2, pt_i l2), (3, pt_r 13 t), (4, pt_i l4), (5, pt_i l5), (6, pt_i l6), (7, pt_i l7), (8, pt_i l8), (9, pt_i 0), (10, pt_i 2)], [], M) :=
  pt_run_ok tX0_offerRow_ok 37 [.inl false, .inl false, .inr (4, some (pt_i (lb_F M t (pt_A M 15 0 (pt_nt l6)) (pt_A M 15 0 (pt_nt l7)) (pt_A M 15 0 (pt_nt l8)))), M), .inl true, .inl true, .inl false, .inl false] (P := (t < 7) ∧ (¬ (pt_F M 3 0 t) ≤ l8) ∧ (t < 7) ∧ (¬ (nI 120) ≤ l5) ∧ (pt_in l6 10) ∧ (pt_in l7 10) ∧ (pt_in l8 10) ∧ pt_Cal YX0_offerRow (.invokevirtual 83) [pt_r 3 t, pt_i (pt_A M 15 0 (pt_nt l6)), pt_i (pt_A M 15 0 (pt_nt l7)), pt_i (pt_A M 15 0 (pt_nt l8))] M (some (pt_i (lb_F M t (pt_A M 15 0 (pt_nt l6)) (pt_A M 15 0 (pt_nt l7)) (pt_A M 15 0 (pt_nt l8))))) M ∧ ((lb_F M t (pt_A M 15 0 (pt_nt l6)) (pt_A M 15 0 (pt_nt l7)) (pt_A M 15 0 (pt_nt l8))) = l2) ∧ ((0 : Int32) = (0 : Int32)) ∧ (l4 = 0) ∧ ((pt_in l5 120) ∧ (t < 7)) ∧ (¬ 2 ≤ (pt_A M 13 t (pt_nt l5))) ∧ True) (by with_unfolding_all rfl) ⟨h1, h2, h1, h3, h4, h5, h6, (pt_callV (i := t) kX0_offerRow_83 mX4_isLeft rfl h1 rfl (dX4_isLeft_v h1 h7 h8)), h9, (by decide), h10, ⟨h11, h1⟩, h12, trivial⟩
set_option maxRecDepth 100000 in
theorem gX0_offerRow13_39_6 (t : Nat) (l2 : Int32) (l4 : Int32) (l5 : Int32) (l6 : Int32) (l7 : Int32) (l8 : Int32)  (M : pt_M) (h1 : t < 7) (h2 : ¬ (pt_F M 3 0 t) ≤ l8) (h3 : ¬ (nI 120) ≤ l5) (h4 : pt_in l6 10) (h5 : pt_in l7 10) (h6 : pt_in l8 10) (h7 : pt_in (pt_A M 15 0 (pt_nt l6)) 10) (h8 : pt_in (pt_A M 15 0 (pt_nt l7)) 10) (h9 : (lb_F M t (pt_A M 15 0 (pt_nt l6)) (pt_A M 15 0 (pt_nt l7)) (pt_A M 15 0 (pt_nt l8))) = l2) (h10 : l4 = 0) (h11 : pt_in l5 120) (h12 : 2 ≤ (pt_A M 13 t (pt_nt l5))) (h13 : ¬ (pt_A M 13 t (pt_nt l5)) ≤ 2) :
    pt_Go YX0_offerRow (39, [(0, pt_r 5 0), (1, pt_r 3 t), (2, pt_i l2), (3, pt_r 13 t), (4, pt_i l4), (5, pt_i l5), (6, pt_i l6), (7, pt_i l7), (8, pt_i l8)], [], M)
      (39, [(0, pt_r 5 0), (1, pt_r 3 t), (2, pt_i l2), (3, pt_r 13 t), (4, pt_i 1), (5, pt_i (l5 + 1)), (6, pt_i l6), (7, pt_i l7), (8, pt_i (l8 + 1))], [], (pt_wA M 13 t (upd (pt_A M 13 t) (pt_nt l5) 2))) :=
  (pt_run_ok tX0_offerRow_ok 54 [.inl false, .inl false, .inr (4, some (pt_i (lb_F M t (pt_A M 15 0 (pt_nt l6)) (pt_A M 15 0 (pt_nt l7)) (pt_A M 15 0 (pt_nt l8)))), M), .inl true, .inl true, .inl false, .inl true, .inl false, .inl false] (P := (t < 7) ∧ (¬ (pt_F M 3 0 t) ≤ l8) ∧ (t < 7) ∧ (¬ (nI 120) ≤ l5) ∧ (pt_in l6 10) ∧ (pt_in l7 10) ∧ (pt_in l8 10) ∧ pt_Cal YX0_offerRow (.invokevirtual 83) [pt_r 3 t, pt_i (pt_A M 15 0 (pt_nt l6)), pt_i (pt_A M 15 0 (pt_nt l7)), pt_i (pt_A M 15 0 (pt_nt l8))] M (some (pt_i (lb_F M t (pt_A M 15 0 (pt_nt l6)) (pt_A M 15 0 (pt_nt l7)) (pt_A M 15 0 (pt_nt l8))))) M ∧ ((lb_F M t (pt_A M 15 0 (pt_nt l6)) (pt_A M 15 0 (pt_nt l7)) (pt_A M 15 0 (pt_nt l8))) = l2) ∧ ((0 : Int32) = (0 : Int32)) ∧ (l4 = 0) ∧ ((pt_in l5 120) ∧ (t < 7)) ∧ (2 ≤ (pt_A M 13 t (pt_nt l5))) ∧ (l4 = 0) ∧ ((pt_in l5 120) ∧ (t < 7)) ∧ (¬ (pt_A M 13 t (pt_nt l5)) ≤ 2) ∧ ((pt_in l5 120) ∧ (t < 7)) ∧ True) (by with_unfolding_all rfl) ⟨h1, h2, h1, h3, h4, h5, h6, (pt_callV (i := t) kX0_offerRow_83 mX4_isLeft rfl h1 rfl (dX4_isLeft_v h1 h7 h8)), h9, (by decide), h10, ⟨h11, h1⟩, h12, h10, ⟨h11, h1⟩, h13, ⟨h11, h1⟩, trivial⟩ : pt_Go YX0_offerRow _ (39, [(0, pt_r 5 0), (1, pt_r 3 t), (2, pt_i l2), (3, pt_r 13 t), (4, pt_i 1), (5, pt_i (l5 + 1)), (6, pt_i l6), (7, pt_i l7), (8, pt_i (l8 + 1)), (9, pt_i 0), (10, pt_i 2)], [], (pt_wA M 13 t (upd (pt_A M 13 t) (pt_nt l5) 2)))).tr (pt_pick [0, 1, 2, 3, 4, 5, 6, 7, 8] (by with_unfolding_all rfl))
set_option maxRecDepth 100000 in
theorem gX0_offerRow13_39_7 (t : Nat) (l2 : Int32) (l4 : Int32) (l5 : Int32) (l6 : Int32) (l7 : Int32) (l8 : Int32)  (M : pt_M) (h1 : t < 7) (h2 : ¬ (pt_F M 3 0 t) ≤ l8) (h3 : ¬ (nI 120) ≤ l5) (h4 : pt_in l6 10) (h5 : pt_in l7 10) (h6 : pt_in l8 10) (h7 : pt_in (pt_A M 15 0 (pt_nt l6)) 10) (h8 : pt_in (pt_A M 15 0 (pt_nt l7)) 10) (h9 : (lb_F M t (pt_A M 15 0 (pt_nt l6)) (pt_A M 15 0 (pt_nt l7)) (pt_A M 15 0 (pt_nt l8))) = l2) (h10 : l4 = 0) (h11 : pt_in l5 120) (h12 : 2 ≤ (pt_A M 13 t (pt_nt l5))) (h13 : (pt_A M 13 t (pt_nt l5)) ≤ 2) :
    pt_Go YX0_offerRow (39, [(0, pt_r 5 0), (1, pt_r 3 t), (2, pt_i l2), (3, pt_r 13 t), (4, pt_i l4), (5, pt_i l5), (6, pt_i l6), (7, pt_i l7), (8, pt_i l8)], [], M)
      (39, [(0, pt_r 5 0), (1, pt_r 3 t), (2, pt_i l2), (3, pt_r 13 t), (4, pt_i 0), (5, pt_i (l5 + 1)), (6, pt_i l6), (7, pt_i l7), (8, pt_i (l8 + 1))], [], (pt_wA M 13 t (upd (pt_A M 13 t) (pt_nt l5) 2))) :=
  (pt_run_ok tX0_offerRow_ok 53 [.inl false, .inl false, .inr (4, some (pt_i (lb_F M t (pt_A M 15 0 (pt_nt l6)) (pt_A M 15 0 (pt_nt l7)) (pt_A M 15 0 (pt_nt l8)))), M), .inl true, .inl true, .inl false, .inl true, .inl false, .inl true] (P := (t < 7) ∧ (¬ (pt_F M 3 0 t) ≤ l8) ∧ (t < 7) ∧ (¬ (nI 120) ≤ l5) ∧ (pt_in l6 10) ∧ (pt_in l7 10) ∧ (pt_in l8 10) ∧ pt_Cal YX0_offerRow (.invokevirtual 83) [pt_r 3 t, pt_i (pt_A M 15 0 (pt_nt l6)), pt_i (pt_A M 15 0 (pt_nt l7)), pt_i (pt_A M 15 0 (pt_nt l8))] M (some (pt_i (lb_F M t (pt_A M 15 0 (pt_nt l6)) (pt_A M 15 0 (pt_nt l7)) (pt_A M 15 0 (pt_nt l8))))) M ∧ ((lb_F M t (pt_A M 15 0 (pt_nt l6)) (pt_A M 15 0 (pt_nt l7)) (pt_A M 15 0 (pt_nt l8))) = l2) ∧ ((0 : Int32) = (0 : Int32)) ∧ (l4 = 0) ∧ ((pt_in l5 120) ∧ (t < 7)) ∧ (2 ≤ (pt_A M 13 t (pt_nt l5))) ∧ (l4 = 0) ∧ ((pt_in l5 120) ∧ (t < 7)) ∧ ((pt_A M 13 t (pt_nt l5)) ≤ 2) ∧ ((pt_in l5 120) ∧ (t < 7)) ∧ True) (by with_unfolding_all rfl) ⟨h1, h2, h1, h3, h4, h5, h6, (pt_callV (i := t) kX0_offerRow_83 mX4_isLeft rfl h1 rfl (dX4_isLeft_v h1 h7 h8)), h9, (by decide), h10, ⟨h11, h1⟩, h12, h10, ⟨h11, h1⟩, h13, ⟨h11, h1⟩, trivial⟩ : pt_Go YX0_offerRow _ (39, [(0, pt_r 5 0), (1, pt_r 3 t), (2, pt_i l2), (3, pt_r 13 t), (4, pt_i 0), (5, pt_i (l5 + 1)), (6, pt_i l6), (7, pt_i l7), (8, pt_i (l8 + 1)), (9, pt_i 0), (10, pt_i 2)], [], (pt_wA M 13 t (upd (pt_A M 13 t) (pt_nt l5) 2)))).tr (pt_pick [0, 1, 2, 3, 4, 5, 6, 7, 8] (by with_unfolding_all rfl))
set_option maxRecDepth 100000 in
theorem gX0_offerRow13_39_8 (t : Nat) (l2 : Int32) (l4 : Int32) (l5 : Int32) (l6 : Int32) (l7 : Int32) (l8 : Int32)  (M : pt_M) (h1 : t < 7) (h2 : ¬ (pt_F M 3 0 t) ≤ l8) (h3 : ¬ (nI 120) ≤ l5) (h4 : pt_in l6 10) (h5 : pt_in l7 10) (h6 : pt_in l8 10) (h7 : pt_in (pt_A M 15 0 (pt_nt l6)) 10) (h8 : pt_in (pt_A M 15 0 (pt_nt l7)) 10) (h9 : (lb_F M t (pt_A M 15 0 (pt_nt l6)) (pt_A M 15 0 (pt_nt l7)) (pt_A M 15 0 (pt_nt l8))) = l2) (h10 : ¬ l4 = 0) (h11 : pt_in l5 120) :
    pt_Go YX0_offerRow (39, [(0, pt_r 5 0), (1, pt_r 3 t), (2, pt_i l2), (3, pt_r 13 t), (4, pt_i l4), (5, pt_i l5), (6, pt_i l6), (7, pt_i l7), (8, pt_i l8)], [], M)
      (39, [(0, pt_r 5 0), (1, pt_r 3 t), (2, pt_i l2), (3, pt_r 13 t), (4, pt_i 1), (5, pt_i (l5 + 1)), (6, pt_i l6), (7, pt_i l7), (8, pt_i (l8 + 1))], [], (pt_wA M 13 t (upd (pt_A M 13 t) (pt_nt l5) 2))) :=
  (pt_run_ok tX0_offerRow_ok 44 [.inl false, .inl false, .inr (4, some (pt_i (lb_F M t (pt_A M 15 0 (pt_nt l6)) (pt_A M 15 0 (pt_nt l7)) (pt_A M 15 0 (pt_nt l8)))), M), .inl true, .inl true, .inl true, .inl true] (P := (t < 7) ∧ (¬ (pt_F M 3 0 t) ≤ l8) ∧ (t < 7) ∧ (¬ (nI 120) ≤ l5) ∧ (pt_in l6 10) ∧ (pt_in l7 10) ∧ (pt_in l8 10) ∧ pt_Cal YX0_offerRow (.invokevirtual 83) [pt_r 3 t, pt_i (pt_A M 15 0 (pt_nt l6)), pt_i (pt_A M 15 0 (pt_nt l7)), pt_i (pt_A M 15 0 (pt_nt l8))] M (some (pt_i (lb_F M t (pt_A M 15 0 (pt_nt l6)) (pt_A M 15 0 (pt_nt l7)) (pt_A M 15 0 (pt_nt l8))))) M ∧ ((lb_F M t (pt_A M 15 0 (pt_nt l6)) (pt_A M 15 0 (pt_nt l7)) (pt_A M 15 0 (pt_nt l8))) = l2) ∧ ((0 : Int32) = (0 : Int32)) ∧ (¬ l4 = 0) ∧ (¬ l4 = 0) ∧ ((pt_in l5 120) ∧ (t < 7)) ∧ True) (by with_unfolding_all rfl) ⟨h1, h2, h1, h3, h4, h5, h6, (pt_callV (i := t) kX0_offerRow_83 mX4_isLeft rfl h1 rfl (dX4_isLeft_v h1 h7 h8)), h9, (by decide), h10, h10, ⟨h11, h1⟩, trivial⟩ : pt_Go YX0_offerRow _ (39, [(0, pt_r 5 0), (1, pt_r 3 t), (2, pt_i l2), (3, pt_r 13 t), (4, pt_i 1), (5, pt_i (l5 + 1)), (6, pt_i l6), (7, pt_i l7), (8, pt_i (l8 + 1)), (9, pt_i 0), (10, pt_i 2)], [], (pt_wA M 13 t (upd (pt_A M 13 t) (pt_nt l5) 2)))).tr (pt_pick [0, 1, 2, 3, 4, 5, 6, 7, 8] (by with_unfolding_all rfl))
set_option maxRecDepth 100000 in
theorem gX0_offerRow13_39_9 (t : Nat) (l2 : Int32) (l4 : Int32) (l5 : Int32) (l6 : Int32) (l7 : Int32) (l8 : Int32)  (M : pt_M) (h1 : t < 7) (h2 : ¬ (pt_F M 3 0 t) ≤ l8) (h3 : (nI 120) ≤ l5) :
    pt_Go YX0_offerRow (39, [(0, pt_r 5 0), (1, pt_r 3 t), (2, pt_i l2), (3, pt_r 13 t), (4, pt_i l4), (5, pt_i l5), (6, pt_i l6), (7, pt_i l7), (8, pt_i l8)], [], M)
      (24, [(0, pt_r 5 0), (1, pt_r 3 t), (2, pt_i l2), (3, pt_r 13 t), (4, pt_i l4), (5, pt_i l5), (6, pt_i l6), (7, pt_i (l7 + 1))], [], M) :=
  (pt_run_ok tX0_offerRow_ok 10 [.inl false, .inl true] (P := (t < 7) ∧ (¬ (pt_F M 3 0 t) ≤ l8) ∧ (t < 7) ∧ ((nI 120) ≤ l5) ∧ True) (by with_unfolding_all rfl) ⟨h1, h2, h1, h3, trivial⟩ : pt_Go YX0_offerRow _ (24, [(0, pt_r 5 0), (1, pt_r 3 t), (2, pt_i l2), (3, pt_r 13 t), (4, pt_i l4), (5, pt_i l5), (6, pt_i l6), (7, pt_i (l7 + 1)), (8, pt_i l8)], [], M)).tr (pt_pick [0, 1, 2, 3, 4, 5, 6, 7] (by with_unfolding_all rfl))
set_option maxRecDepth 100000 in
theorem gX0_offerRow13_39_10 (t : Nat) (l2 : Int32) (l4 : Int32) (l5 : Int32) (l6 : Int32) (l7 : Int32) (l8 : Int32)  (M : pt_M) (h1 : t < 7) (h2 : (pt_F M 3 0 t) ≤ l8) :
    pt_Go YX0_offerRow (39, [(0, pt_r 5 0), (1, pt_r 3 t), (2, pt_i l2), (3, pt_r 13 t), (4, pt_i l4), (5, pt_i l5), (6, pt_i l6), (7, pt_i l7), (8, pt_i l8)], [], M)
      (24, [(0, pt_r 5 0), (1, pt_r 3 t), (2, pt_i l2), (3, pt_r 13 t), (4, pt_i l4), (5, pt_i l5), (6, pt_i l6), (7, pt_i (l7 + 1))], [], M) :=
  (pt_run_ok tX0_offerRow_ok 6 [.inl true] (P := (t < 7) ∧ ((pt_F M 3 0 t) ≤ l8) ∧ True) (by with_unfolding_all rfl) ⟨h1, h2, trivial⟩ : pt_Go YX0_offerRow _ (24, [(0, pt_r 5 0), (1, pt_r 3 t), (2, pt_i l2), (3, pt_r 13 t), (4, pt_i l4), (5, pt_i l5), (6, pt_i l6), (7, pt_i (l7 + 1)), (8, pt_i l8)], [], M)).tr (pt_pick [0, 1, 2, 3, 4, 5, 6, 7] (by with_unfolding_all rfl))
theorem of_step_13 {t n i j k p : Nat} {mr : Bool} {g : Nat → Nat} {B : Nat → Nat → Nat → Bool} {M : pt_M} {fst w : Nat → Int32} (h : tb_P M t n B) (hg : ∀ i, i < n → pt_A M 15 0 i = nI (g i) ∧ g i < 10) (hfe : pt_A M 13 t = fst) (hi : i < n) (hj : j < n) (hk : k < n) (hpl : p < 120) (hwp : w p = if B (g i) (g j) (g k) != mr then 1 else 2) : (∀ v : Unit, (if rt_F fst w p then some () else none) = some v → pt_Go YX0_offerRow (39, [(0, pt_r 5 0), (1, pt_r 3 t), (2, pt_i (pt_b mr)), (3, pt_r 13 t), (4, pt_i (pt_b (!eq_F fst w p))), (5, pt_i (nI p)), (6, pt_i (nI i)), (7, pt_i (nI j)), (8, pt_i (nI k))], [], pt_wA M 13 t (co_F fst w p)) (117, [], [], M)) ∧ ((if rt_F fst w p then some () else none) = none → pt_Go YX0_offerRow (39, [(0, pt_r 5 0), (1, pt_r 3 t), (2, pt_i (pt_b mr)), (3, pt_r 13 t), (4, pt_i (pt_b (!eq_F fst w p))), (5, pt_i (nI p)), (6, pt_i (nI i)), (7, pt_i (nI j)), (8, pt_i (nI k))], [], pt_wA M 13 t (co_F fst w p)) (39, [(0, pt_r 5 0), (1, pt_r 3 t), (2, pt_i (pt_b mr)), (3, pt_r 13 t), (4, pt_i (pt_b (!eq_F fst w (p + 1)))), (5, pt_i (nI (p + 1))), (6, pt_i (nI i)), (7, pt_i (nI j)), (8, pt_i (nI (k + 1)))], [], pt_wA M 13 t (co_F fst w (p + 1)))) := by
  obtain ⟨ht, hn, hs, hB⟩ := h
  have hlt : ∀ i, i < n → ¬ pt_F M 3 0 t ≤ nI i := fun i hi => by rw [hs]; exact nI_ge hi (by omega)
  have hp : ∀ i, i < n → pt_in (nI i) 10 := fun i hi => pt_in_nI (by omega) (by decide)
  have hA : ∀ a, a < n → pt_A (pt_wA M 13 t (co_F fst w p)) 15 0 (pt_nt (nI a)) = nI (g a) := fun a ha => by
    rw [pt_A_wA', if_neg (fun z => absurd z.1 (by decide)), pt_nt_nI (by omega)]
    exact (hg a ha).1
  have e1 := hA i hi
  have e2 := hA j hj
  have e3 := hA k hk
  have hB' : ct_B (pt_wA M 13 t (co_F fst w p)) t B := fun a c ha hc => by
    rw [pt_A_wA', if_neg (fun z => absurd z.1 (by decide))]
    exact hB a c ha hc
  have el : lb_F (pt_wA M 13 t (co_F fst w p)) t (nI (g i)) (nI (g j)) (nI (g k)) = pt_b (B (g i) (g j) (g k)) := lb_B hB' (hg i hi).2 (hg j hj).2 (hg k hk).2
  have ef : pt_A (pt_wA M 13 t (co_F fst w p)) 13 t (pt_nt (nI p)) = fst p := by
    rw [pt_A_wA, pt_nt_nI (by omega)]
    exact co_at fst w p
  have g1 : pt_in (pt_A (pt_wA M 13 t (co_F fst w p)) 15 0 (pt_nt (nI i))) 10 := by rw [e1]; exact pt_in_nI (hg i hi).2 (by decide)
  have g2 : pt_in (pt_A (pt_wA M 13 t (co_F fst w p)) 15 0 (pt_nt (nI j))) 10 := by rw [e2]; exact pt_in_nI (hg j hj).2 (by decide)
  have g5 : pt_in (nI p) 120 := pt_in_nI (by omega) (by decide)
  have g5' : ¬ nI 120 ≤ nI p := nI_ge (by omega) (by decide)
  have hF : ¬ pt_F (pt_wA M 13 t (co_F fst w p)) 3 0 t ≤ nI k := hlt k hk
  have hst : pt_wA (pt_wA M 13 t (co_F fst w p)) 13 t (upd (pt_A (pt_wA M 13 t (co_F fst w p)) 13 t) (pt_nt (nI p)) (w p)) = pt_wA M 13 t (co_F fst w (p + 1)) := by
    rw [pt_wA_wA, pt_A_wA, pt_nt_nI (by omega), co_step]
  have hM : eq_F fst w p = true → pt_wA M 13 t (co_F fst w p) = M := fun he => by rw [co_eq he, ← hfe, pt_wA_self]
  cases hbv : (B (g i) (g j) (g k) != mr)
  · rw [hbv] at hwp
    have hwp : w p = 2 := hwp
    have hl : lb_F (pt_wA M 13 t (co_F fst w p)) t (pt_A (pt_wA M 13 t (co_F fst w p)) 15 0 (pt_nt (nI i))) (pt_A (pt_wA M 13 t (co_F fst w p)) 15 0 (pt_nt (nI j))) (pt_A (pt_wA M 13 t (co_F fst w p)) 15 0 (pt_nt (nI k))) = pt_b mr := by
      rw [e1, e2, e3, el, pt_b_eq]
      simpa using hbv
    cases he : eq_F fst w p
    · refine ⟨fun v z => by simp [rt_F, he] at z, fun _ => (gX0_offerRow13_39_8 t (pt_b mr) _ (nI p) (nI i) (nI j) (nI k) (pt_wA M 13 t (co_F fst w p)) ht hF g5' (hp i hi) (hp j hj) (hp k hk) g1 g2 hl (by decide) g5).to ?_⟩
      rw [hwp] at hst
      rw [hst, nI_1, nI_1, eq_succ, he]
      rfl
    · by_cases c1 : w p ≤ fst p
      · by_cases c2 : fst p ≤ w p
        · refine ⟨fun v z => by simp [rt_F, Int32.not_lt.mpr c1] at z, fun _ => (gX0_offerRow13_39_7 t (pt_b mr) _ (nI p) (nI i) (nI j) (nI k) (pt_wA M 13 t (co_F fst w p)) ht hF g5' (hp i hi) (hp j hj) (hp k hk) g1 g2 hl rfl g5 (by rw [ef, ← hwp]; exact c1) (by rw [ef, ← hwp]; exact c2)).to ?_⟩
          have c3 : w p = fst p := Int32.le_antisymm c1 c2
          rw [hwp] at hst
          rw [hst, nI_1, nI_1, eq_succ, he, c3]
          simp
          rfl
        · refine ⟨fun v z => by simp [rt_F, Int32.not_lt.mpr c1] at z, fun _ => (gX0_offerRow13_39_6 t (pt_b mr) _ (nI p) (nI i) (nI j) (nI k) (pt_wA M 13 t (co_F fst w p)) ht hF g5' (hp i hi) (hp j hj) (hp k hk) g1 g2 hl rfl g5 (by rw [ef, ← hwp]; exact c1) (by rw [ef, ← hwp]; exact c2)).to ?_⟩
          have c3 : ¬ w p = fst p := fun z => c2 (by rw [z]; exact Int32.le_refl _)
          rw [hwp] at hst
          rw [hst, nI_1, nI_1, eq_succ, he, decide_eq_false c3]
          rfl
      · refine ⟨fun v z => ((gX0_offerRow13_39_5 t (pt_b mr) _ (nI p) (nI i) (nI j) (nI k) (pt_wA M 13 t (co_F fst w p)) ht hF g5' (hp i hi) (hp j hj) (hp k hk) g1 g2 hl rfl g5 (by rw [ef, ← hwp]; exact c1)).tr pt_dropA).toM (hM he), fun z => by simp [rt_F, he, Int32.not_le.mp c1] at z⟩
  · rw [hbv] at hwp
    have hwp : w p = 1 := hwp
    have hl : ¬ lb_F (pt_wA M 13 t (co_F fst w p)) t (pt_A (pt_wA M 13 t (co_F fst w p)) 15 0 (pt_nt (nI i))) (pt_A (pt_wA M 13 t (co_F fst w p)) 15 0 (pt_nt (nI j))) (pt_A (pt_wA M 13 t (co_F fst w p)) 15 0 (pt_nt (nI k))) = pt_b mr := by
      rw [e1, e2, e3, el, pt_b_eq]
      simpa using hbv
    cases he : eq_F fst w p
    · refine ⟨fun v z => by simp [rt_F, he] at z, fun _ => (gX0_offerRow13_39_4 t (pt_b mr) _ (nI p) (nI i) (nI j) (nI k) (pt_wA M 13 t (co_F fst w p)) ht hF g5' (hp i hi) (hp j hj) (hp k hk) g1 g2 hl (by decide) g5).to ?_⟩
      rw [hwp] at hst
      rw [hst, nI_1, nI_1, eq_succ, he]
      rfl
    · by_cases c1 : w p ≤ fst p
      · by_cases c2 : fst p ≤ w p
        · refine ⟨fun v z => by simp [rt_F, Int32.not_lt.mpr c1] at z, fun _ => (gX0_offerRow13_39_3 t (pt_b mr) _ (nI p) (nI i) (nI j) (nI k) (pt_wA M 13 t (co_F fst w p)) ht hF g5' (hp i hi) (hp j hj) (hp k hk) g1 g2 hl rfl g5 (by rw [ef, ← hwp]; exact c1) (by rw [ef, ← hwp]; exact c2)).to ?_⟩
          have c3 : w p = fst p := Int32.le_antisymm c1 c2
          rw [hwp] at hst
          rw [hst, nI_1, nI_1, eq_succ, he, c3]
          simp
          rfl
        · refine ⟨fun v z => by simp [rt_F, Int32.not_lt.mpr c1] at z, fun _ => (gX0_offerRow13_39_2 t (pt_b mr) _ (nI p) (nI i) (nI j) (nI k) (pt_wA M 13 t (co_F fst w p)) ht hF g5' (hp i hi) (hp j hj) (hp k hk) g1 g2 hl rfl g5 (by rw [ef, ← hwp]; exact c1) (by rw [ef, ← hwp]; exact c2)).to ?_⟩
          have c3 : ¬ w p = fst p := fun z => c2 (by rw [z]; exact Int32.le_refl _)
          rw [hwp] at hst
          rw [hst, nI_1, nI_1, eq_succ, he, decide_eq_false c3]
          rfl
      · refine ⟨fun v z => ((gX0_offerRow13_39_1 t (pt_b mr) _ (nI p) (nI i) (nI j) (nI k) (pt_wA M 13 t (co_F fst w p)) ht hF g5' (hp i hi) (hp j hj) (hp k hk) g1 g2 hl rfl g5 (by rw [ef, ← hwp]; exact c1)).tr pt_dropA).toM (hM he), fun z => by simp [rt_F, he, Int32.not_le.mp c1] at z⟩
theorem dX0_offerRow_13 {t n : Nat} {mr : Bool} {g : Nat → Nat} {B : Nat → Nat → Nat → Bool} {M : pt_M} (h : tb_P M t n B) (hg : ∀ i, i < n → pt_A M 15 0 i = nI (g i) ∧ g i < 10) : pt_Does yX0_offerRow YX0_offerRow [pt_r 5 0, pt_r 3 t, pt_i (pt_b mr), pt_r 13 t] M none (of_M M 13 t (rk_0 n n) (rw_F n B g mr)) := by
  obtain ⟨ht, hn, hs, hB⟩ := h
  have hlt : ∀ i, i < n → ¬ pt_F M 3 0 t ≤ nI i := fun i hi => by rw [hs]; exact nI_ge hi (by omega)
  have hle : pt_F M 3 0 t ≤ nI n := by rw [hs]; exact Int32.le_refl _
  have hp : ∀ i, i < n → pt_in (nI i) 10 := fun i hi => pt_in_nI (by omega) (by decide)
  generalize hw : rw_F n B g mr = w
  generalize hfe : pt_A M 13 t = fst
  have K := pt_nest (α := Unit) (Y := YX0_offerRow) (σ := (0, [(0, pt_r 5 0), (1, pt_r 3 t), (2, pt_i (pt_b mr)), (3, pt_r 13 t)], [], M)) (τ := (166, [], [], pt_wA M 13 t (co_F fst w (rk_F n n (n + 1) (n + 2))))) (R := fun _ => (117, [], [], M)) (n := n) (i := 0)
    (S := fun i => (9, [(0, pt_r 5 0), (1, pt_r 3 t), (2, pt_i (pt_b mr)), (3, pt_r 13 t), (4, pt_i (pt_b (!eq_F fst w (rk_F n i (i + 1) (i + 2))))), (5, pt_i (nI (rk_F n i (i + 1) (i + 2)))), (6, pt_i (nI i))], [], pt_wA M 13 t (co_F fst w (rk_F n i (i + 1) (i + 2)))))
    (f := fun i => fs_F (n - (i + 1)) (i + 1) fun j => fs_F (n - (j + 1)) (j + 1) fun k => if rt_F fst w (rk_F n i j k) then some () else none)
    (Nat.zero_le n) ((gX0_offerRow13_0_1 t (pt_b mr) M).to (by rw [← hfe, show rk_F n 0 (0 + 1) (0 + 2) = 0 from rfl, co_zero, pt_wA_self]; rfl)) ((gX0_offerRow13_9_2 t (pt_b mr) (pt_b (!eq_F fst w (rk_F n n (n + 1) (n + 2)))) (nI (rk_F n n (n + 1) (n + 2))) (nI n) (pt_wA M 13 t (co_F fst w (rk_F n n (n + 1) (n + 2)))) ht hle).tr pt_dropA) fun i _ hi =>
    pt_nest (S := fun j => (24, [(0, pt_r 5 0), (1, pt_r 3 t), (2, pt_i (pt_b mr)), (3, pt_r 13 t), (4, pt_i (pt_b (!eq_F fst w (rk_F n i j (j + 1))))), (5, pt_i (nI (rk_F n i j (j + 1)))), (6, pt_i (nI i)), (7, pt_i (nI j))], [], pt_wA M 13 t (co_F fst w (rk_F n i j (j + 1)))))
      (by omega) ((gX0_offerRow13_9_1 t (pt_b mr) (pt_b (!eq_F fst w (rk_F n i (i + 1) (i + 2)))) (nI (rk_F n i (i + 1) (i + 2))) (nI i) (pt_wA M 13 t (co_F fst w (rk_F n i (i + 1) (i + 2)))) ht (hlt i hi)).to (by rw [nI_1])) ((gX0_offerRow13_24_2 t (pt_b mr) (pt_b (!eq_F fst w (rk_F n i n (n + 1)))) (nI (rk_F n i n (n + 1))) (nI i) (nI n) (pt_wA M 13 t (co_F fst w (rk_F n i n (n + 1)))) ht hle).to (by rw [nI_1, rk_i (n + 1) (Nat.le_refl _)])) fun j hj0 hj =>
    pt_nest (S := fun k => (39, [(0, pt_r 5 0), (1, pt_r 3 t), (2, pt_i (pt_b mr)), (3, pt_r 13 t), (4, pt_i (pt_b (!eq_F fst w (rk_F n i j k)))), (5, pt_i (nI (rk_F n i j k))), (6, pt_i (nI i)), (7, pt_i (nI j)), (8, pt_i (nI k))], [], pt_wA M 13 t (co_F fst w (rk_F n i j k))))
      (by omega) ((gX0_offerRow13_24_1 t (pt_b mr) (pt_b (!eq_F fst w (rk_F n i j (j + 1)))) (nI (rk_F n i j (j + 1))) (nI i) (nI j) (pt_wA M 13 t (co_F fst w (rk_F n i j (j + 1)))) ht (hlt j hj)).to (by rw [nI_1])) ((gX0_offerRow13_39_10 t (pt_b mr) (pt_b (!eq_F fst w (rk_F n i j n))) (nI (rk_F n i j n)) (nI i) (nI j) (nI n) (pt_wA M 13 t (co_F fst w (rk_F n i j n))) ht hle).to (by rw [nI_1, rk_j (by omega) hj])) fun k hk0 hk => by
      obtain ⟨hr1, hr2⟩ := rk_lt n hn i hi j hj k hk (by omega) (by omega)
      have hwp : w (rk_F n i j k) = if B (g i) (g j) (g k) != mr then 1 else 2 := by rw [← hw]; exact rw_at hn (by omega) (by omega) hk
      have e := of_step_13 (mr := mr) (w := w) ⟨ht, hn, hs, hB⟩ hg hfe hi hj hk (show rk_F n i j k < 120 by omega) hwp
      rw [← rk_k (n := n) (i := i) (show j < k by omega)] at e
      exact e
  have hall := of_nest (fst := fst) (w := w) (n := n) hn
  have hend : rk_F n n (n + 1) (n + 2) = rk_0 n n := rk_end n
  unfold of_M
  rw [hfe]
  cases hq : (List.range (rk_0 n n)).all fun p => !rt_F fst w p
  · rw [if_neg (by simp)]
    cases hf : (fs_F (n - 0) 0 fun i => fs_F (n - (i + 1)) (i + 1) fun j => fs_F (n - (j + 1)) (j + 1) fun k => if rt_F fst w (rk_F n i j k) then some () else none) with
    | some v => exact rX0_offerRow_117 (Nat.le_of_ble_eq_true rfl) rfl (K.1 v hf)
    | none => rw [hall.mp hf] at hq; cases hq
  · rw [if_pos rfl]
    refine rX0_offerRow_166 (Nat.le_of_ble_eq_true rfl) rfl ((K.2 (hall.mpr hq)).toM ?_)
    rw [hend]
end
section
/-! names -/
def nm_F (n : Nat) (B : Nat → Nat → Nat → Bool) (r : Nat) (mr : Bool) (p : Nat) : Nat := if mr then pc_F (pb_s 10 fun k => B r p k) + 1 else n - 1 - pc_F (pb_s 10 fun k => B r p k)
def na_F (f : Nat → Int32) (n : Nat) (B : Nat → Nat → Nat → Bool) (r : Nat) (mr : Bool) : Nat → Nat → Int32
  | 0 => upd f 0 (nI r)
  | p + 1 => if p = r then na_F f n B r mr p else upd (na_F f n B r mr p) (nm_F n B r mr p) (nI p)
def nb_M (M : pt_M) (n : Nat) (B : Nat → Nat → Nat → Bool) (x : Int32) (mr : Bool) : pt_M := pt_wA M 15 0 (na_F (pt_A M 15 0) n B (pt_nt x) mr n)
/-- few enough to the left of a line -/
def lq_P (n : Nat) (B : Nat → Nat → Nat → Bool) : Prop := ∀ r p, r < n → p < n → p ≠ r → pc_F (pb_s 10 fun k => B r p k) + 2 ≤ n
theorem wA_2 (M : pt_M) (k i : Nat) (f : Nat → Int32) {x : Nat} (hx : x < 2 ^ 31) (v : Int32) : pt_wA (pt_wA M k i f) k i (upd (pt_A (pt_wA M k i f) k i) (pt_nt (nI x)) v) = pt_wA M k i (upd f x v) := by
  rw [pt_wA_wA, pt_A_wA, pt_nt_nI hx]
theorem rX0_nameBy_89 {vs : List pt_V} {M M' : pt_M} {L : List (Nat × pt_V)} (hvs : (vs.map pt_w).sum ≤ 7) (hX : M'.2.2.2.2 = M.2.2.2.2) (h : pt_Go YX0_nameBy (0, pt_en 0 vs, [], M) (89, L, [], M')) : pt_Does yX0_nameBy YX0_nameBy vs M none M' := pt_does_go tX0_nameBy_ok nX0_nameBy hvs hX ⟨_, by with_unfolding_all rfl, rfl, rfl⟩ h
set_option maxRecDepth 100000 in
theorem gX0_nameBy_0_1 (t : Nat) (r : Int32) (mr : Bool) (M : pt_M) :
    pt_Go YX0_nameBy (0, [(0, pt_r 5 0), (1, pt_r 3 t), (2, pt_i r), (3, pt_i (pt_b mr))], [], M)
      (10, [(0, pt_r 5 0), (1, pt_r 3 t), (2, pt_i r), (3, pt_i (pt_b mr)), (4, pt_i 0)], [], (pt_wA M 15 0 (upd (pt_A M 15 0) (pt_nt 0) r))) :=
  pt_run_ok tX0_nameBy_ok 7 [] (P := (pt_in 0 10) ∧ True) (by with_unfolding_all rfl) ⟨(by unfold pt_in; decide), trivial⟩
set_option maxRecDepth 100000 in
theorem gX0_nameBy_10_1 (t : Nat) (l2 : Int32) (l4 : Int32) (mr : Bool) (M : pt_M) (h1 : t < 7) (h2 : ¬ (pt_F M 3 0 t) ≤ l4) (h3 : ¬ l4 = l2) (h4 : pt_in l2 10) (h5 : pt_in l4 10) (h6 : ¬ (pt_b mr) = 0) (h7 : ¬ ((bc_F (lo_F M t l2 l4)) + 1) ≤ 0) (h8 : ¬ (nI 10) ≤ ((bc_F (lo_F M t l2 l4)) + 1)) (h9 : pt_in ((bc_F (lo_F M t l2 l4)) + 1) 10) :
    pt_Go YX0_nameBy (10, [(0, pt_r 5 0), (1, pt_r 3 t), (2, pt_i l2), (3, pt_i (pt_b mr)), (4, pt_i l4)], [], M)
      (10, [(0, pt_r 5 0), (1, pt_r 3 t), (2, pt_i l2), (3, pt_i (pt_b mr)), (4, pt_i (l4 + 1))], [], (pt_wA M 15 0 (upd (pt_A M 15 0) (pt_nt ((bc_F (lo_F M t l2 l4)) + 1)) l4))) :=
  (pt_run_ok tX0_nameBy_ok 34 [.inl false, .inl false, .inr (3, some (pt_i (lo_F M t l2 l4)), M), .inr (1, some (pt_i (bc_F (lo_F M t l2 l4))), M), .inl false, .inl false, .inl false] (P := (t < 7) ∧ (¬ (pt_F M 3 0 t) ≤ l4) ∧ (¬ l4 = l2) ∧ pt_Cal YX0_nameBy (.invokevirtual 74) [pt_r 3 t, pt_i l2, pt_i l4] M (some (pt_i (lo_F M t l2 l4))) M ∧ pt_Cal YX0_nameBy (.invokestatic 78) [pt_i (lo_F M t l2 l4)] M (some (pt_i (bc_F (lo_F M t l2 l4)))) M ∧ (¬ (pt_b mr) = 0) ∧ (¬ ((bc_F (lo_F M t l2 l4)) + 1) ≤ 0) ∧ (¬ (nI 10) ≤ ((bc_F (lo_F M t l2 l4)) + 1)) ∧ (pt_in ((bc_F (lo_F M t l2 l4)) + 1) 10) ∧ True) (by with_unfolding_all rfl) ⟨h1, h2, h3, (pt_callV (i := t) kX0_nameBy_74 mX4_leftOf rfl h1 rfl (dX4_leftOf_v h1 h4 h5)), (pt_callS kX0_nameBy_78 mJ6_bitCount_0f7a4 rfl (dJ6_bitCount (lo_F M t l2 l4) M)), h6, h7, h8, h9, trivial⟩ : pt_Go YX0_nameBy _ (10, [(0, pt_r 5 0), (1, pt_r 3 t), (2, pt_i l2), (3, pt_i (pt_b mr)), (4, pt_i (l4 + 1)), (5, pt_i (bc_F (lo_F M t l2 l4))), (6, pt_i ((bc_F (lo_F M t l2 l4)) + 1))], [], (pt_wA M 15 0 (upd (pt_A M 15 0) (pt_nt ((bc_F (lo_F M t l2 l4)) + 1)) l4)))).tr (pt_pick [0, 1, 2, 3, 4] (by with_unfolding_all rfl))
set_option maxRecDepth 100000 in
theorem gX0_nameBy_10_2 (t : Nat) (l2 : Int32) (l4 : Int32) (mr : Bool) (M : pt_M) (h1 : t < 7) (h2 : ¬ (pt_F M 3 0 t) ≤ l4) (h3 : ¬ l4 = l2) (h4 : pt_in l2 10) (h5 : pt_in l4 10) (h6 : ¬ (pt_b mr) = 0) (h7 : ¬ ((bc_F (lo_F M t l2 l4)) + 1) ≤ 0) (h8 : (nI 10) ≤ ((bc_F (lo_F M t l2 l4)) + 1)) :
    pt_Go YX0_nameBy (10, [(0, pt_r 5 0), (1, pt_r 3 t), (2, pt_i l2), (3, pt_i (pt_b mr)), (4, pt_i l4)], [], M)
      (10, [(0, pt_r 5 0), (1, pt_r 3 t), (2, pt_i l2), (3, pt_i (pt_b mr)), (4, pt_i (l4 + 1))], [], M) :=
  (pt_run_ok tX0_nameBy_ok 29 [.inl false, .inl false, .inr (3, some (pt_i (lo_F M t l2 l4)), M), .inr (1, some (pt_i (bc_F (lo_F M t l2 l4))), M), .inl false, .inl false, .inl true] (P := (t < 7) ∧ (¬ (pt_F M 3 0 t) ≤ l4) ∧ (¬ l4 = l2) ∧ pt_Cal YX0_nameBy (.invokevirtual 74) [pt_r 3 t, pt_i l2, pt_i l4] M (some (pt_i (lo_F M t l2 l4))) M ∧ pt_Cal YX0_nameBy (.invokestatic 78) [pt_i (lo_F M t l2 l4)] M (some (pt_i (bc_F (lo_F M t l2 l4)))) M ∧ (¬ (pt_b mr) = 0) ∧ (¬ ((bc_F (lo_F M t l2 l4)) + 1) ≤ 0) ∧ ((nI 10) ≤ ((bc_F (lo_F M t l2 l4)) + 1)) ∧ True) (by with_unfolding_all rfl) ⟨h1, h2, h3, (pt_callV (i := t) kX0_nameBy_74 mX4_leftOf rfl h1 rfl (dX4_leftOf_v h1 h4 h5)), (pt_callS kX0_nameBy_78 mJ6_bitCount_0f7a4 rfl (dJ6_bitCount (lo_F M t l2 l4) M)), h6, h7, h8, trivial⟩ : pt_Go YX0_nameBy _ (10, [(0, pt_r 5 0), (1, pt_r 3 t), (2, pt_i l2), (3, pt_i (pt_b mr)), (4, pt_i (l4 + 1)), (5, pt_i (bc_F (lo_F M t l2 l4))), (6, pt_i ((bc_F (lo_F M t l2 l4)) + 1))], [], M)).tr (pt_pick [0, 1, 2, 3, 4] (by with_unfolding_all rfl))
set_option maxRecDepth 100000 in
theorem gX0_nameBy_10_3 (t : Nat) (l2 : Int32) (l4 : Int32) (mr : Bool) (M : pt_M) (h1 : t < 7) (h2 : ¬ (pt_F M 3 0 t) ≤ l4) (h3 : ¬ l4 = l2) (h4 : pt_in l2 10) (h5 : pt_in l4 10) (h6 : ¬ (pt_b mr) = 0) (h7 : ((bc_F (lo_F M t l2 l4)) + 1) ≤ 0) :
    pt_Go YX0_nameBy (10, [(0, pt_r 5 0), (1, pt_r 3 t), (2, pt_i l2), (3, pt_i (pt_b mr)), (4, pt_i l4)], [], M)
      (10, [(0, pt_r 5 0), (1, pt_r 3 t), (2, pt_i l2), (3, pt_i (pt_b mr)), (4, pt_i (l4 + 1))], [], M) :=
  (pt_run_ok tX0_nameBy_ok 24 [.inl false, .inl false, .inr (3, some (pt_i (lo_F M t l2 l4)), M), .inr (1, some (pt_i (bc_F (lo_F M t l2 l4))), M), .inl false, .inl true] (P := (t < 7) ∧ (¬ (pt_F M 3 0 t) ≤ l4) ∧ (¬ l4 = l2) ∧ pt_Cal YX0_nameBy (.invokevirtual 74) [pt_r 3 t, pt_i l2, pt_i l4] M (some (pt_i (lo_F M t l2 l4))) M ∧ pt_Cal YX0_nameBy (.invokestatic 78) [pt_i (lo_F M t l2 l4)] M (some (pt_i (bc_F (lo_F M t l2 l4)))) M ∧ (¬ (pt_b mr) = 0) ∧ (((bc_F (lo_F M t l2 l4)) + 1) ≤ 0) ∧ True) (by with_unfolding_all rfl) ⟨h1, h2, h3, (pt_callV (i := t) kX0_nameBy_74 mX4_leftOf rfl h1 rfl (dX4_leftOf_v h1 h4 h5)), (pt_callS kX0_nameBy_78 mJ6_bitCount_0f7a4 rfl (dJ6_bitCount (lo_F M t l2 l4) M)), h6, h7, trivial⟩ : pt_Go YX0_nameBy _ (10, [(0, pt_r 5 0), (1, pt_r 3 t), (2, pt_i l2), (3, pt_i (pt_b mr)), (4, pt_i (l4 + 1)), (5, pt_i (bc_F (lo_F M t l2 l4))), (6, pt_i ((bc_F (lo_F M t l2 l4)) + 1))], [], M)).tr (pt_pick [0, 1, 2, 3, 4] (by with_unfolding_all rfl))
set_option maxRecDepth 100000 in
theorem gX0_nameBy_10_4 (t : Nat) (l2 : Int32) (l4 : Int32) (mr : Bool) (M : pt_M) (h1 : t < 7) (h2 : ¬ (pt_F M 3 0 t) ≤ l4) (h3 : ¬ l4 = l2) (h4 : pt_in l2 10) (h5 : pt_in l4 10) (h6 : (pt_b mr) = 0) (h7 : ¬ (((pt_F M 3 0 t) - 1) - (bc_F (lo_F M t l2 l4))) ≤ 0) (h8 : ¬ (nI 10) ≤ (((pt_F M 3 0 t) - 1) - (bc_F (lo_F M t l2 l4)))) (h9 : pt_in (((pt_F M 3 0 t) - 1) - (bc_F (lo_F M t l2 l4))) 10) :
    pt_Go YX0_nameBy (10, [(0, pt_r 5 0), (1, pt_r 3 t), (2, pt_i l2), (3, pt_i (pt_b mr)), (4, pt_i l4)], [], M)
      (10, [(0, pt_r 5 0), (1, pt_r 3 t), (2, pt_i l2), (3, pt_i (pt_b mr)), (4, pt_i (l4 + 1))], [], (pt_wA M 15 0 (upd (pt_A M 15 0) (pt_nt (((pt_F M 3 0 t) - 1) - (bc_F (lo_F M t l2 l4)))) l4))) :=
  (pt_run_ok tX0_nameBy_ok 36 [.inl false, .inl false, .inr (3, some (pt_i (lo_F M t l2 l4)), M), .inr (1, some (pt_i (bc_F (lo_F M t l2 l4))), M), .inl true, .inl false, .inl false] (P := (t < 7) ∧ (¬ (pt_F M 3 0 t) ≤ l4) ∧ (¬ l4 = l2) ∧ pt_Cal YX0_nameBy (.invokevirtual 74) [pt_r 3 t, pt_i l2, pt_i l4] M (some (pt_i (lo_F M t l2 l4))) M ∧ pt_Cal YX0_nameBy (.invokestatic 78) [pt_i (lo_F M t l2 l4)] M (some (pt_i (bc_F (lo_F M t l2 l4)))) M ∧ ((pt_b mr) = 0) ∧ (t < 7) ∧ (¬ (((pt_F M 3 0 t) - 1) - (bc_F (lo_F M t l2 l4))) ≤ 0) ∧ (¬ (nI 10) ≤ (((pt_F M 3 0 t) - 1) - (bc_F (lo_F M t l2 l4)))) ∧ (pt_in (((pt_F M 3 0 t) - 1) - (bc_F (lo_F M t l2 l4))) 10) ∧ True) (by with_unfolding_all rfl) ⟨h1, h2, h3, (pt_callV (i := t) kX0_nameBy_74 mX4_leftOf rfl h1 rfl (dX4_leftOf_v h1 h4 h5)), (pt_callS kX0_nameBy_78 mJ6_bitCount_0f7a4 rfl (dJ6_bitCount (lo_F M t l2 l4) M)), h6, h1, h7, h8, h9, trivial⟩ : pt_Go YX0_nameBy _ (10, [(0, pt_r 5 0), (1, pt_r 3 t), (2, pt_i l2), (3, pt_i (pt_b mr)), (4, pt_i (l4 + 1)), (5, pt_i (bc_F (lo_F M t l2 l4))), (6, pt_i (((pt_F M 3 0 t) - 1) - (bc_F (lo_F M t l2 l4))))], [], (pt_wA M 15 0 (upd (pt_A M 15 0) (pt_nt (((pt_F M 3 0 t) - 1) - (bc_F (lo_F M t l2 l4)))) l4)))).tr (pt_pick [0, 1, 2, 3, 4] (by with_unfolding_all rfl))
set_option maxRecDepth 100000 in
theorem gX0_nameBy_10_5 (t : Nat) (l2 : Int32) (l4 : Int32) (mr : Bool) (M : pt_M) (h1 : t < 7) (h2 : ¬ (pt_F M 3 0 t) ≤ l4) (h3 : ¬ l4 = l2) (h4 : pt_in l2 10) (h5 : pt_in l4 10) (h6 : (pt_b mr) = 0) (h7 : ¬ (((pt_F M 3 0 t) - 1) - (bc_F (lo_F M t l2 l4))) ≤ 0) (h8 : (nI 10) ≤ (((pt_F M 3 0 t) - 1) - (bc_F (lo_F M t l2 l4)))) :
    pt_Go YX0_nameBy (10, [(0, pt_r 5 0), (1, pt_r 3 t), (2, pt_i l2), (3, pt_i (pt_b mr)), (4, pt_i l4)], [], M)
      (10, [(0, pt_r 5 0), (1, pt_r 3 t), (2, pt_i l2), (3, pt_i (pt_b mr)), (4, pt_i (l4 + 1))], [], M) :=
  (pt_run_ok tX0_nameBy_ok 31 [.inl false, .inl false, .inr (3, some (pt_i (lo_F M t l2 l4)), M), .inr (1, some (pt_i (bc_F (lo_F M t l2 l4))), M), .inl true, .inl false, .inl true] (P := (t < 7) ∧ (¬ (pt_F M 3 0 t) ≤ l4) ∧ (¬ l4 = l2) ∧ pt_Cal YX0_nameBy (.invokevirtual 74) [pt_r 3 t, pt_i l2, pt_i l4] M (some (pt_i (lo_F M t l2 l4))) M ∧ pt_Cal YX0_nameBy (.invokestatic 78) [pt_i (lo_F M t l2 l4)] M (some (pt_i (bc_F (lo_F M t l2 l4)))) M ∧ ((pt_b mr) = 0) ∧ (t < 7) ∧ (¬ (((pt_F M 3 0 t) - 1) - (bc_F (lo_F M t l2 l4))) ≤ 0) ∧ ((nI 10) ≤ (((pt_F M 3 0 t) - 1) - (bc_F (lo_F M t l2 l4)))) ∧ True) (by with_unfolding_all rfl) ⟨h1, h2, h3, (pt_callV (i := t) kX0_nameBy_74 mX4_leftOf rfl h1 rfl (dX4_leftOf_v h1 h4 h5)), (pt_callS kX0_nameBy_78 mJ6_bitCount_0f7a4 rfl (dJ6_bitCount (lo_F M t l2 l4) M)), h6, h1, h7, h8, trivial⟩ : pt_Go YX0_nameBy _ (10, [(0, pt_r 5 0), (1, pt_r 3 t), (2, pt_i l2), (3, pt_i (pt_b mr)), (4, pt_i (l4 + 1)), (5, pt_i (bc_F (lo_F M t l2 l4))), (6, pt_i (((pt_F M 3 0 t) - 1) - (bc_F (lo_F M t l2 l4))))], [], M)).tr (pt_pick [0, 1, 2, 3, 4] (by with_unfolding_all rfl))
set_option maxRecDepth 100000 in
theorem gX0_nameBy_10_6 (t : Nat) (l2 : Int32) (l4 : Int32) (mr : Bool) (M : pt_M) (h1 : t < 7) (h2 : ¬ (pt_F M 3 0 t) ≤ l4) (h3 : ¬ l4 = l2) (h4 : pt_in l2 10) (h5 : pt_in l4 10) (h6 : (pt_b mr) = 0) (h7 : (((pt_F M 3 0 t) - 1) - (bc_F (lo_F M t l2 l4))) ≤ 0) :
    pt_Go YX0_nameBy (10, [(0, pt_r 5 0), (1, pt_r 3 t), (2, pt_i l2), (3, pt_i (pt_b mr)), (4, pt_i l4)], [], M)
      (10, [(0, pt_r 5 0), (1, pt_r 3 t), (2, pt_i l2), (3, pt_i (pt_b mr)), (4, pt_i (l4 + 1))], [], M) :=
  (pt_run_ok tX0_nameBy_ok 26 [.inl false, .inl false, .inr (3, some (pt_i (lo_F M t l2 l4)), M), .inr (1, some (pt_i (bc_F (lo_F M t l2 l4))), M), .inl true, .inl true] (P := (t < 7) ∧ (¬ (pt_F M 3 0 t) ≤ l4) ∧ (¬ l4 = l2) ∧ pt_Cal YX0_nameBy (.invokevirtual 74) [pt_r 3 t, pt_i l2, pt_i l4] M (some (pt_i (lo_F M t l2 l4))) M ∧ pt_Cal YX0_nameBy (.invokestatic 78) [pt_i (lo_F M t l2 l4)] M (some (pt_i (bc_F (lo_F M t l2 l4)))) M ∧ ((pt_b mr) = 0) ∧ (t < 7) ∧ ((((pt_F M 3 0 t) - 1) - (bc_F (lo_F M t l2 l4))) ≤ 0) ∧ True) (by with_unfolding_all rfl) ⟨h1, h2, h3, (pt_callV (i := t) kX0_nameBy_74 mX4_leftOf rfl h1 rfl (dX4_leftOf_v h1 h4 h5)), (pt_callS kX0_nameBy_78 mJ6_bitCount_0f7a4 rfl (dJ6_bitCount (lo_F M t l2 l4) M)), h6, h1, h7, trivial⟩ : pt_Go YX0_nameBy _ (10, [(0, pt_r 5 0), (1, pt_r 3 t), (2, pt_i l2), (3, pt_i (pt_b mr)), (4, pt_i (l4 + 1)), (5, pt_i (bc_F (lo_F M t l2 l4))), (6, pt_i (((pt_F M 3 0 t) - 1) - (bc_F (lo_F M t l2 l4))))], [], M)).tr (pt_pick [0, 1, 2, 3, 4] (by with_unfolding_all rfl))
set_option maxRecDepth 100000 in
theorem gX0_nameBy_10_7 (t : Nat) (l2 : Int32) (l4 : Int32) (mr : Bool) (M : pt_M) (h1 : t < 7) (h2 : ¬ (pt_F M 3 0 t) ≤ l4) (h3 : l4 = l2) :
    pt_Go YX0_nameBy (10, [(0, pt_r 5 0), (1, pt_r 3 t), (2, pt_i l2), (3, pt_i (pt_b mr)), (4, pt_i l4)], [], M)
      (10, [(0, pt_r 5 0), (1, pt_r 3 t), (2, pt_i l2), (3, pt_i (pt_b mr)), (4, pt_i (l4 + 1))], [], M) :=
  pt_run_ok tX0_nameBy_ok 9 [.inl false, .inl true] (P := (t < 7) ∧ (¬ (pt_F M 3 0 t) ≤ l4) ∧ (l4 = l2) ∧ True) (by with_unfolding_all rfl) ⟨h1, h2, h3, trivial⟩
set_option maxRecDepth 100000 in
theorem gX0_nameBy_10_8 (t : Nat) (l2 : Int32) (l4 : Int32) (mr : Bool) (M : pt_M) (h1 : t < 7) (h2 : (pt_F M 3 0 t) ≤ l4) :
    pt_Go YX0_nameBy (10, [(0, pt_r 5 0), (1, pt_r 3 t), (2, pt_i l2), (3, pt_i (pt_b mr)), (4, pt_i l4)], [], M)
      (89, [(0, pt_r 5 0), (1, pt_r 3 t), (2, pt_i l2), (3, pt_i (pt_b mr)), (4, pt_i l4)], [], M) :=
  pt_run_ok tX0_nameBy_ok 4 [.inl true] (P := (t < 7) ∧ ((pt_F M 3 0 t) ≤ l4) ∧ True) (by with_unfolding_all rfl) ⟨h1, h2, trivial⟩
theorem dX0_nameBy {t n : Nat} {x : Int32} {mr : Bool} {B : Nat → Nat → Nat → Bool} {M : pt_M} (h : tb_P M t n B) (hq : lq_P n B) (hx : pt_in x n) : pt_Does yX0_nameBy YX0_nameBy [pt_r 5 0, pt_r 3 t, pt_i x, pt_i (pt_b mr)] M none (nb_M M n B x mr) := by
  obtain ⟨ht, hn, hs, hB⟩ := h
  obtain ⟨r, hr, rfl⟩ := vp_in_of (pt_in_vp hx) (by omega)
  unfold nb_M
  rw [pt_nt_nI (by omega)]
  have hlt : ∀ i, i < n → ¬ pt_F M 3 0 t ≤ nI i := fun i hi => by rw [hs]; exact nI_ge hi (by omega)
  have hle : pt_F M 3 0 t ≤ nI n := by rw [hs]; exact Int32.le_refl _
  have hp : ∀ i, i < n → pt_in (nI i) 10 := fun i hi => pt_in_nI (by omega) (by decide)
  generalize hf : pt_A M 15 0 = f
  have K := pt_for0 (Y := YX0_nameBy) (fun p => (10, [(0, pt_r 5 0), (1, pt_r 3 t), (2, pt_i (nI r)), (3, pt_i (pt_b mr)), (4, pt_i (nI p))], [], pt_wA M 15 0 (na_F f n B r mr p))) (n := n) fun p hpn => by
    by_cases e : p = r
    · refine (gX0_nameBy_10_7 t (nI r) (nI p) mr (pt_wA M 15 0 (na_F f n B r mr p)) ht (hlt p hpn) (by rw [e])).to ?_
      show _ = (10, [(0, pt_r 5 0), (1, pt_r 3 t), (2, pt_i (nI r)), (3, pt_i (pt_b mr)), (4, pt_i (nI (p + 1)))], [], pt_wA M 15 0 (if p = r then na_F f n B r mr p else upd (na_F f n B r mr p) (nm_F n B r mr p) (nI p)))
      rw [nI_1, if_pos e]
    · have hB' : ct_B (pt_wA M 15 0 (na_F f n B r mr p)) t B := fun a c ha hc => by
        rw [pt_A_wA', if_neg (fun z => absurd z.1 (by decide))]
        exact hB a c ha hc
      have hc := hq r p hr hpn e
      have hm : pb_s 10 (fun k => B r p k) < 1024 := pb_lt _ 10
      have eb : bc_F (lo_F (pt_wA M 15 0 (na_F f n B r mr p)) t (nI r) (nI p)) = nI (pc_F (pb_s 10 fun k => B r p k)) := by
        rw [lo_B hB' (by omega) (by omega), bc_nI hm]
      have en : ¬ nI p = nI r := fun z => e ((nI_eq (by omega) (by omega)).mp z)
      have hna : na_F f n B r mr (p + 1) = upd (na_F f n B r mr p) (nm_F n B r mr p) (nI p) := if_neg e
      cases mr
      · have ex : ((pt_F (pt_wA M 15 0 (na_F f n B r false p)) 3 0 t) - 1) - (bc_F (lo_F (pt_wA M 15 0 (na_F f n B r false p)) t (nI r) (nI p))) = nI (nm_F n B r false p) := by
          rw [eb, pt_F_wA, hs, show (1 : Int32) = nI 1 from rfl, pk_sub (by omega), pk_sub (by omega)]
          rfl
        have hnm : 0 < nm_F n B r false p ∧ nm_F n B r false p < 10 := by
          show 0 < n - 1 - _ ∧ n - 1 - _ < 10
          omega
        refine (gX0_nameBy_10_4 t (nI r) (nI p) false (pt_wA M 15 0 (na_F f n B r false p)) ht (hlt p hpn) en (hp r hr) (hp p hpn) rfl (by rw [ex]; exact nI_nle hnm.1 (by omega)) (by rw [ex]; exact nI_ge hnm.2 (by decide)) (by rw [ex]; exact pt_in_nI hnm.2 (by decide))).to ?_
        rw [ex, wA_2 _ _ _ _ (by omega), nI_1, hna]
      · have ex : (bc_F (lo_F (pt_wA M 15 0 (na_F f n B r true p)) t (nI r) (nI p))) + 1 = nI (nm_F n B r true p) := by
          rw [eb, nI_1]
          rfl
        have hnm : 0 < nm_F n B r true p ∧ nm_F n B r true p < 10 := by
          show 0 < pc_F _ + 1 ∧ pc_F _ + 1 < 10
          omega
        refine (gX0_nameBy_10_1 t (nI r) (nI p) true (pt_wA M 15 0 (na_F f n B r true p)) ht (hlt p hpn) en (hp r hr) (hp p hpn) (by decide) (by rw [ex]; exact nI_nle hnm.1 (by omega)) (by rw [ex]; exact nI_ge hnm.2 (by decide)) (by rw [ex]; exact pt_in_nI hnm.2 (by decide))).to ?_
        rw [ex, wA_2 _ _ _ _ (by omega), nI_1, hna]
  refine rX0_nameBy_89 (Nat.le_of_ble_eq_true rfl) rfl (((gX0_nameBy_0_1 t (nI r) mr M).to ?_).tr (K.tr (gX0_nameBy_10_8 t (nI r) (nI n) mr (pt_wA M 15 0 (na_F f n B r mr n)) ht hle)))
  rw [← hf]
  rfl
theorem na_ok {f : Nat → Int32} {n r : Nat} {B : Nat → Nat → Nat → Bool} {mr : Bool} (hn : n ≤ 10) (hr : r < n) (hf : ∀ i, i < 10 → pt_in (f i) 10) : ∀ p, p ≤ n → ∀ i, i < 10 → pt_in (na_F f n B r mr p i) 10
  | 0, _, i, hi => by
    show pt_in (if i = 0 then nI r else f i) 10
    split
    · exact pt_in_nI (by omega) (by decide)
    · exact hf i hi
  | p + 1, h, i, hi => by
    show pt_in ((if p = r then na_F f n B r mr p else upd (na_F f n B r mr p) (nm_F n B r mr p) (nI p)) i) 10
    split
    · exact na_ok hn hr hf p (by omega) i hi
    · show pt_in (if i = _ then nI p else _) 10
      split
      · exact pt_in_nI (by omega) (by decide)
      · exact na_ok hn hr hf p (by omega) i hi
def gm_F (M : pt_M) (i : Nat) : Nat := pt_nt (pt_A M 15 0 i)
theorem gm_ok {M : pt_M} {i : Nat} (h : pt_in (pt_A M 15 0 i) 10) : pt_A M 15 0 i = nI (gm_F M i) ∧ gm_F M i < 10 := by
  obtain ⟨v, hv, e⟩ := vp_in_of (pt_in_vp h) (by decide)
  unfold gm_F
  rw [e, pt_nt_nI (by omega)]
  exact ⟨rfl, hv⟩
/-! the first rows -/
def fr_M (M : pt_M) (k t n : Nat) (B : Nat → Nat → Nat → Bool) (mr : Bool) : Nat → pt_M
  | 0 => fi_F M k t 120 3
  | r + 1 => if (ri_F n B (2 ^ n - 1)).testBit r then of_M (nb_M (fr_M M k t n B mr r) n B (nI r) mr) k t (rk_0 n n) (rw_F n B (gm_F (nb_M (fr_M M k t n B mr r) n B (nI r) mr)) mr) else fr_M M k t n B mr r
/-- what stays under the coder's work: all but its names and the rows -/
def ke_P (M M' : pt_M) : Prop := pt_F M' = pt_F M ∧ (∀ k i, k ≠ 12 → k ≠ 13 → k ≠ 15 → pt_A M' k i = pt_A M k i) ∧ ((∀ i, i < 10 → pt_in (pt_A M 15 0 i) 10) → ∀ i, i < 10 → pt_in (pt_A M' 15 0 i) 10) ∧ M'.2.2 = M.2.2
theorem ke_P.rf {M : pt_M} : ke_P M M := ⟨rfl, fun _ _ _ _ _ => rfl, fun h => h, rfl⟩
theorem ke_P.tr {M M' M'' : pt_M} (h : ke_P M M') (h' : ke_P M' M'') : ke_P M M'' := ⟨h'.1.trans h.1, fun k i a b c => (h'.2.1 k i a b c).trans (h.2.1 k i a b c), fun h0 => h'.2.2.1 (h.2.2.1 h0), h'.2.2.2.trans h.2.2.2⟩
theorem ke_P.x5 {M M' : pt_M} (h : ke_P M M') : M'.2.2.2.2 = M.2.2.2.2 := by rw [h.2.2.2]
theorem tb_P.ke {M M' : pt_M} {t n : Nat} {B : Nat → Nat → Nat → Bool} (h : tb_P M t n B) (hk : ke_P M M') : tb_P M' t n B := ⟨h.1, h.2.1, by rw [hk.1]; exact h.2.2.1, fun i j hi hj => by rw [hk.2.1 11 t (by decide) (by decide) (by decide)]; exact h.2.2.2 i j hi hj⟩
theorem ke_row {M : pt_M} {k t : Nat} {g : Nat → Int32} (h : k = 12 ∨ k = 13) : ke_P M (pt_wA M k t g) := ⟨rfl, fun k' i a b _ => if_neg (fun z => by rcases h with rfl | rfl <;> (first | exact a z.1 | exact b z.1)), fun h0 i hi => by
  rw [pt_A_wA', if_neg (fun z => by rcases h with rfl | rfl <;> exact absurd z.1 (by decide))]
  exact h0 i hi, rfl⟩
theorem nb_ke {M : pt_M} {n r : Nat} {B : Nat → Nat → Nat → Bool} {mr : Bool} (hn : n ≤ 10) (hr : r < n) : ke_P M (nb_M M n B (nI r) mr) := by
  refine ⟨rfl, fun k i _ _ c => if_neg (fun z => c z.1), fun h0 i hi => ?_, rfl⟩
  unfold nb_M
  rw [pt_A_wA, pt_nt_nI (by omega)]
  exact na_ok hn hr h0 n (Nat.le_refl n) i hi
theorem of_ke {M : pt_M} {k t N : Nat} {w : Nat → Int32} (h : k = 12 ∨ k = 13) : ke_P M (of_M M k t N w) := by
  unfold of_M
  split
  · exact ke_row h
  · exact ke_P.rf
def of_H (M : pt_M) (t n : Nat) (B : Nat → Nat → Nat → Bool) : Prop := tb_P M t n B ∧ ∀ i, i < 10 → pt_in (pt_A M 15 0 i) 10
def fr_H (M : pt_M) (t n : Nat) (B : Nat → Nat → Nat → Bool) : Prop := tb_P M t n B ∧ lq_P n B ∧ ∀ i, i < 10 → pt_in (pt_A M 15 0 i) 10
def cq_F (f w : Nat → Int32) (N : Nat) : Int32 := match fs_F (N - 0) 0 (fun p => if f p = w p then none else some p) with
  | some p => cp_F (f p) (w p)
  | none => 0
theorem rX0_compareRows_37 {vs : List pt_V} {M M' : pt_M} {x : Int32} {L : List (Nat × pt_V)} (hvs : (vs.map pt_w).sum ≤ 4) (hX : M'.2.2.2.2 = M.2.2.2.2) (h : pt_Go YX0_compareRows (0, pt_en 0 vs, [], M) (37, L, [pt_i x], M')) : pt_Does yX0_compareRows YX0_compareRows vs M (some (pt_i x)) M' := pt_does_go tX0_compareRows_ok nX0_compareRows hvs hX ⟨_, by with_unfolding_all rfl, rfl, _, rfl, rfl⟩ h
theorem rX0_compareRows_45 {vs : List pt_V} {M M' : pt_M} {x : Int32} {L : List (Nat × pt_V)} (hvs : (vs.map pt_w).sum ≤ 4) (hX : M'.2.2.2.2 = M.2.2.2.2) (h : pt_Go YX0_compareRows (0, pt_en 0 vs, [], M) (45, L, [pt_i x], M')) : pt_Does yX0_compareRows YX0_compareRows vs M (some (pt_i x)) M' := pt_does_go tX0_compareRows_ok nX0_compareRows hvs hX ⟨_, by with_unfolding_all rfl, rfl, _, rfl, rfl⟩ h
set_option maxRecDepth 100000 in
theorem gX0_compareRowsA_0_1 (t : Nat) (x : Int32)  (M : pt_M) :
    pt_Go YX0_compareRows (0, [(0, pt_r 12 t), (1, pt_r 13 t), (2, pt_i x)], [], M)
      (2, [(0, pt_r 12 t), (1, pt_r 13 t), (2, pt_i x), (3, pt_i 0)], [], M) :=
  pt_run_ok tX0_compareRows_ok 2 [] (P := True) (by with_unfolding_all rfl) trivial
set_option maxRecDepth 100000 in
theorem gX0_compareRowsA_2_1 (t : Nat) (l2 : Int32) (l3 : Int32)  (M : pt_M) (h1 : ¬ l2 ≤ l3) (h2 : t < 7) (h3 : ¬ (nI 120) ≤ l3) (h4 : pt_in l3 120) (h5 : ¬ (pt_A M 12 t (pt_nt l3)) = (pt_A M 13 t (pt_nt l3))) :
    pt_Go YX0_compareRows (2, [(0, pt_r 12 t), (1, pt_r 13 t), (2, pt_i l2), (3, pt_i l3)], [], M)
      (37, [(0, pt_r 12 t), (1, pt_r 13 t), (2, pt_i l2), (3, pt_i l3)], [pt_i (cp_F (pt_A M 12 t (pt_nt l3)) (pt_A M 13 t (pt_nt l3)))], M) :=
  pt_run_ok tX0_compareRows_ok 25 [.inl false, .inl false, .inl false, .inl false, .inr (2, some (pt_i (cp_F (pt_A M 12 t (pt_nt l3)) (pt_A M 13 t (pt_nt l3)))), M)] (P := (¬ l2 ≤ l3) ∧ (t < 7) ∧ (¬ (nI 120) ≤ l3) ∧ (t < 7) ∧ (¬ (nI 120) ≤ l3) ∧ ((pt_in l3 120) ∧ (t < 7)) ∧ ((pt_in l3 120) ∧ (t < 7)) ∧ (¬ (pt_A M 12 t (pt_nt l3)) = (pt_A M 13 t (pt_nt l3))) ∧ ((pt_in l3 120) ∧ (t < 7)) ∧ ((pt_in l3 120) ∧ (t < 7)) ∧ pt_Cal YX0_compareRows (.invokestatic 87) [pt_i (pt_A M 12 t (pt_nt l3)), pt_i (pt_A M 13 t (pt_nt l3))] M (some (pt_i (cp_F (pt_A M 12 t (pt_nt l3)) (pt_A M 13 t (pt_nt l3))))) M ∧ True) (by with_unfolding_all rfl) ⟨h1, h2, h3, h2, h3, ⟨h4, h2⟩, ⟨h4, h2⟩, h5, ⟨h4, h2⟩, ⟨h4, h2⟩, (pt_callS kX0_compareRows_87 mJ6_compare_7cf53 rfl (dJ6_compare (pt_A M 12 t (pt_nt l3)) (pt_A M 13 t (pt_nt l3)) M)), trivial⟩
set_option maxRecDepth 100000 in
theorem gX0_compareRowsA_2_2 (t : Nat) (l2 : Int32) (l3 : Int32)  (M : pt_M) (h1 : ¬ l2 ≤ l3) (h2 : t < 7) (h3 : ¬ (nI 120) ≤ l3) (h4 : pt_in l3 120) (h5 : (pt_A M 12 t (pt_nt l3)) = (pt_A M 13 t (pt_nt l3))) :
    pt_Go YX0_compareRows (2, [(0, pt_r 12 t), (1, pt_r 13 t), (2, pt_i l2), (3, pt_i l3)], [], M)
      (2, [(0, pt_r 12 t), (1, pt_r 13 t), (2, pt_i l2), (3, pt_i (l3 + 1))], [], M) :=
  pt_run_ok tX0_compareRows_ok 20 [.inl false, .inl false, .inl false, .inl true] (P := (¬ l2 ≤ l3) ∧ (t < 7) ∧ (¬ (nI 120) ≤ l3) ∧ (t < 7) ∧ (¬ (nI 120) ≤ l3) ∧ ((pt_in l3 120) ∧ (t < 7)) ∧ ((pt_in l3 120) ∧ (t < 7)) ∧ ((pt_A M 12 t (pt_nt l3)) = (pt_A M 13 t (pt_nt l3))) ∧ True) (by with_unfolding_all rfl) ⟨h1, h2, h3, h2, h3, ⟨h4, h2⟩, ⟨h4, h2⟩, h5, trivial⟩
set_option maxRecDepth 100000 in
theorem gX0_compareRowsA_2_3 (t : Nat) (l2 : Int32) (l3 : Int32)  (M : pt_M) (h1 : ¬ l2 ≤ l3) (h2 : t < 7) (h3 : (nI 120) ≤ l3) :
    pt_Go YX0_compareRows (2, [(0, pt_r 12 t), (1, pt_r 13 t), (2, pt_i l2), (3, pt_i l3)], [], M)
      (45, [(0, pt_r 12 t), (1, pt_r 13 t), (2, pt_i l2), (3, pt_i l3)], [pt_i 0], M) :=
  pt_run_ok tX0_compareRows_ok 8 [.inl false, .inl true] (P := (¬ l2 ≤ l3) ∧ (t < 7) ∧ ((nI 120) ≤ l3) ∧ True) (by with_unfolding_all rfl) ⟨h1, h2, h3, trivial⟩
set_option maxRecDepth 100000 in
theorem gX0_compareRowsA_2_4 (t : Nat) (l2 : Int32) (l3 : Int32)  (M : pt_M) (h1 : l2 ≤ l3) :
    pt_Go YX0_compareRows (2, [(0, pt_r 12 t), (1, pt_r 13 t), (2, pt_i l2), (3, pt_i l3)], [], M)
      (45, [(0, pt_r 12 t), (1, pt_r 13 t), (2, pt_i l2), (3, pt_i l3)], [pt_i 0], M) :=
  pt_run_ok tX0_compareRows_ok 4 [.inl true] (P := (l2 ≤ l3) ∧ True) (by with_unfolding_all rfl) ⟨h1, trivial⟩
theorem dX0_compareRows_A {t N : Nat} {M : pt_M} (ht : t < 7) (hN : N ≤ 120) : pt_Does yX0_compareRows YX0_compareRows [pt_r 12 t, pt_r 13 t, pt_i (nI N)] M (some (pt_i (cq_F (pt_A M 12 t) (pt_A M 13 t) N))) M := by
  have K := pt_nest (Y := YX0_compareRows) (σ := (0, [(0, pt_r 12 t), (1, pt_r 13 t), (2, pt_i (nI N))], [], M)) (τ := (45, [], [pt_i 0], M)) (R := fun p => (37, [], [pt_i (cp_F (pt_A M 12 t p) (pt_A M 13 t p))], M)) (n := N) (i := 0)
    (S := fun p => (2, [(0, pt_r 12 t), (1, pt_r 13 t), (2, pt_i (nI N)), (3, pt_i (nI p))], [], M)) (f := fun p => if pt_A M 12 t p = pt_A M 13 t p then none else some p)
    (Nat.zero_le N) (gX0_compareRowsA_0_1 t (nI N) M) ((gX0_compareRowsA_2_4 t (nI N) (nI N) M (Int32.le_refl _)).tr pt_dropA) fun p _ hp => by
      have e : pt_nt (nI p) = p := pt_nt_nI (by omega)
      by_cases hv : pt_A M 12 t p = pt_A M 13 t p
      · refine ⟨fun v z => by simp [hv] at z, fun _ => (gX0_compareRowsA_2_2 t (nI N) (nI p) M (nI_ge hp (by omega)) ht (nI_ge (by omega) (by decide)) (pt_in_nI (by omega) (by decide)) (by rw [e]; exact hv)).to (by rw [nI_1])⟩
      · refine ⟨fun v z => ?_, fun z => by simp [hv] at z⟩
        simp only [if_neg hv, Option.some.injEq] at z
        subst z
        refine ((gX0_compareRowsA_2_1 t (nI N) (nI p) M (nI_ge hp (by omega)) ht (nI_ge (by omega) (by decide)) (pt_in_nI (by omega) (by decide)) (by rw [e]; exact hv)).tr pt_dropA).to ?_
        rw [e]
  unfold cq_F
  cases hf : fs_F (N - 0) 0 (fun p => if pt_A M 12 t p = pt_A M 13 t p then none else some p) with
  | none => exact rX0_compareRows_45 (Nat.le_of_ble_eq_true rfl) rfl (K.2 hf)
  | some v => exact rX0_compareRows_37 (Nat.le_of_ble_eq_true rfl) rfl (K.1 v hf)
set_option maxRecDepth 100000 in
theorem gX0_compareRowsB_0_1 (t : Nat) (u : Nat) (x : Int32)  (M : pt_M) :
    pt_Go YX0_compareRows (0, [(0, pt_r 12 t), (1, pt_r 12 u), (2, pt_i x)], [], M)
      (2, [(0, pt_r 12 t), (1, pt_r 12 u), (2, pt_i x), (3, pt_i 0)], [], M) :=
  pt_run_ok tX0_compareRows_ok 2 [] (P := True) (by with_unfolding_all rfl) trivial
set_option maxRecDepth 100000 in
theorem gX0_compareRowsB_2_1 (t : Nat) (u : Nat) (l2 : Int32) (l3 : Int32)  (M : pt_M) (h1 : ¬ l2 ≤ l3) (h2 : t < 7) (h3 : ¬ (nI 120) ≤ l3) (h4 : u < 7) (h5 : pt_in l3 120) (h6 : ¬ (pt_A M 12 t (pt_nt l3)) = (pt_A M 12 u (pt_nt l3))) :
    pt_Go YX0_compareRows (2, [(0, pt_r 12 t), (1, pt_r 12 u), (2, pt_i l2), (3, pt_i l3)], [], M)
      (37, [(0, pt_r 12 t), (1, pt_r 12 u), (2, pt_i l2), (3, pt_i l3)], [pt_i (cp_F (pt_A M 12 t (pt_nt l3)) (pt_A M 12 u (pt_nt l3)))], M) :=
  pt_run_ok tX0_compareRows_ok 25 [.inl false, .inl false, .inl false, .inl false, .inr (2, some (pt_i (cp_F (pt_A M 12 t (pt_nt l3)) (pt_A M 12 u (pt_nt l3)))), M)] (P := (¬ l2 ≤ l3) ∧ (t < 7) ∧ (¬ (nI 120) ≤ l3) ∧ (u < 7) ∧ (¬ (nI 120) ≤ l3) ∧ ((pt_in l3 120) ∧ (t < 7)) ∧ ((pt_in l3 120) ∧ (u < 7)) ∧ (¬ (pt_A M 12 t (pt_nt l3)) = (pt_A M 12 u (pt_nt l3))) ∧ ((pt_in l3 120) ∧ (t < 7)) ∧ ((pt_in l3 120) ∧ (u < 7)) ∧ pt_Cal YX0_compareRows (.invokestatic 87) [pt_i (pt_A M 12 t (pt_nt l3)), pt_i (pt_A M 12 u (pt_nt l3))] M (some (pt_i (cp_F (pt_A M 12 t (pt_nt l3)) (pt_A M 12 u (pt_nt l3))))) M ∧ True) (by with_unfolding_all rfl) ⟨h1, h2, h3, h4, h3, ⟨h5, h2⟩, ⟨h5, h4⟩, h6, ⟨h5, h2⟩, ⟨h5, h4⟩, (pt_callS kX0_compareRows_87 mJ6_compare_7cf53 rfl (dJ6_compare (pt_A M 12 t (pt_nt l3)) (pt_A M 12 u (pt_nt l3)) M)), trivial⟩
set_option maxRecDepth 100000 in
theorem gX0_compareRowsB_2_2 (t : Nat) (u : Nat) (l2 : Int32) (l3 : Int32)  (M : pt_M) (h1 : ¬ l2 ≤ l3) (h2 : t < 7) (h3 : ¬ (nI 120) ≤ l3) (h4 : u < 7) (h5 : pt_in l3 120) (h6 : (pt_A M 12 t (pt_nt l3)) = (pt_A M 12 u (pt_nt l3))) :
    pt_Go YX0_compareRows (2, [(0, pt_r 12 t), (1, pt_r 12 u), (2, pt_i l2), (3, pt_i l3)], [], M)
      (2, [(0, pt_r 12 t), (1, pt_r 12 u), (2, pt_i l2), (3, pt_i (l3 + 1))], [], M) :=
  pt_run_ok tX0_compareRows_ok 20 [.inl false, .inl false, .inl false, .inl true] (P := (¬ l2 ≤ l3) ∧ (t < 7) ∧ (¬ (nI 120) ≤ l3) ∧ (u < 7) ∧ (¬ (nI 120) ≤ l3) ∧ ((pt_in l3 120) ∧ (t < 7)) ∧ ((pt_in l3 120) ∧ (u < 7)) ∧ ((pt_A M 12 t (pt_nt l3)) = (pt_A M 12 u (pt_nt l3))) ∧ True) (by with_unfolding_all rfl) ⟨h1, h2, h3, h4, h3, ⟨h5, h2⟩, ⟨h5, h4⟩, h6, trivial⟩
set_option maxRecDepth 100000 in
theorem gX0_compareRowsB_2_3 (t : Nat) (u : Nat) (l2 : Int32) (l3 : Int32)  (M : pt_M) (h1 : ¬ l2 ≤ l3) (h2 : t < 7) (h3 : (nI 120) ≤ l3) :
    pt_Go YX0_compareRows (2, [(0, pt_r 12 t), (1, pt_r 12 u), (2, pt_i l2), (3, pt_i l3)], [], M)
      (45, [(0, pt_r 12 t), (1, pt_r 12 u), (2, pt_i l2), (3, pt_i l3)], [pt_i 0], M) :=
  pt_run_ok tX0_compareRows_ok 8 [.inl false, .inl true] (P := (¬ l2 ≤ l3) ∧ (t < 7) ∧ ((nI 120) ≤ l3) ∧ True) (by with_unfolding_all rfl) ⟨h1, h2, h3, trivial⟩
set_option maxRecDepth 100000 in
theorem gX0_compareRowsB_2_4 (t : Nat) (u : Nat) (l2 : Int32) (l3 : Int32)  (M : pt_M) (h1 : l2 ≤ l3) :
    pt_Go YX0_compareRows (2, [(0, pt_r 12 t), (1, pt_r 12 u), (2, pt_i l2), (3, pt_i l3)], [], M)
      (45, [(0, pt_r 12 t), (1, pt_r 12 u), (2, pt_i l2), (3, pt_i l3)], [pt_i 0], M) :=
  pt_run_ok tX0_compareRows_ok 4 [.inl true] (P := (l2 ≤ l3) ∧ True) (by with_unfolding_all rfl) ⟨h1, trivial⟩
theorem dX0_compareRows_B {t u N : Nat} {M : pt_M} (ht : t < 7) (hu : u < 7) (hN : N ≤ 120) : pt_Does yX0_compareRows YX0_compareRows [pt_r 12 t, pt_r 12 u, pt_i (nI N)] M (some (pt_i (cq_F (pt_A M 12 t) (pt_A M 12 u) N))) M := by
  have K := pt_nest (Y := YX0_compareRows) (σ := (0, [(0, pt_r 12 t), (1, pt_r 12 u), (2, pt_i (nI N))], [], M)) (τ := (45, [], [pt_i 0], M)) (R := fun p => (37, [], [pt_i (cp_F (pt_A M 12 t p) (pt_A M 12 u p))], M)) (n := N) (i := 0)
    (S := fun p => (2, [(0, pt_r 12 t), (1, pt_r 12 u), (2, pt_i (nI N)), (3, pt_i (nI p))], [], M)) (f := fun p => if pt_A M 12 t p = pt_A M 12 u p then none else some p)
    (Nat.zero_le N) (gX0_compareRowsB_0_1 t u (nI N) M) ((gX0_compareRowsB_2_4 t u (nI N) (nI N) M (Int32.le_refl _)).tr pt_dropA) fun p _ hp => by
      have e : pt_nt (nI p) = p := pt_nt_nI (by omega)
      by_cases hv : pt_A M 12 t p = pt_A M 12 u p
      · refine ⟨fun v z => by simp [hv] at z, fun _ => (gX0_compareRowsB_2_2 t u (nI N) (nI p) M (nI_ge hp (by omega)) ht (nI_ge (by omega) (by decide)) hu (pt_in_nI (by omega) (by decide)) (by rw [e]; exact hv)).to (by rw [nI_1])⟩
      · refine ⟨fun v z => ?_, fun z => by simp [hv] at z⟩
        simp only [if_neg hv, Option.some.injEq] at z
        subst z
        refine ((gX0_compareRowsB_2_1 t u (nI N) (nI p) M (nI_ge hp (by omega)) ht (nI_ge (by omega) (by decide)) hu (pt_in_nI (by omega) (by decide)) (by rw [e]; exact hv)).tr pt_dropA).to ?_
        rw [e]
  unfold cq_F
  cases hf : fs_F (N - 0) 0 (fun p => if pt_A M 12 t p = pt_A M 12 u p then none else some p) with
  | none => exact rX0_compareRows_45 (Nat.le_of_ble_eq_true rfl) rfl (K.2 hf)
  | some v => exact rX0_compareRows_37 (Nat.le_of_ble_eq_true rfl) rfl (K.1 v hf)
set_option maxRecDepth 100000 in
theorem gX0_compareRowsC_0_1 (t : Nat) (u : Nat) (x : Int32)  (M : pt_M) :
    pt_Go YX0_compareRows (0, [(0, pt_r 13 t), (1, pt_r 12 u), (2, pt_i x)], [], M)
      (2, [(0, pt_r 13 t), (1, pt_r 12 u), (2, pt_i x), (3, pt_i 0)], [], M) :=
  pt_run_ok tX0_compareRows_ok 2 [] (P := True) (by with_unfolding_all rfl) trivial
set_option maxRecDepth 100000 in
theorem gX0_compareRowsC_2_1 (t : Nat) (u : Nat) (l2 : Int32) (l3 : Int32)  (M : pt_M) (h1 : ¬ l2 ≤ l3) (h2 : t < 7) (h3 : ¬ (nI 120) ≤ l3) (h4 : u < 7) (h5 : pt_in l3 120) (h6 : ¬ (pt_A M 13 t (pt_nt l3)) = (pt_A M 12 u (pt_nt l3))) :
    pt_Go YX0_compareRows (2, [(0, pt_r 13 t), (1, pt_r 12 u), (2, pt_i l2), (3, pt_i l3)], [], M)
      (37, [(0, pt_r 13 t), (1, pt_r 12 u), (2, pt_i l2), (3, pt_i l3)], [pt_i (cp_F (pt_A M 13 t (pt_nt l3)) (pt_A M 12 u (pt_nt l3)))], M) :=
  pt_run_ok tX0_compareRows_ok 25 [.inl false, .inl false, .inl false, .inl false, .inr (2, some (pt_i (cp_F (pt_A M 13 t (pt_nt l3)) (pt_A M 12 u (pt_nt l3)))), M)] (P := (¬ l2 ≤ l3) ∧ (t < 7) ∧ (¬ (nI 120) ≤ l3) ∧ (u < 7) ∧ (¬ (nI 120) ≤ l3) ∧ ((pt_in l3 120) ∧ (t < 7)) ∧ ((pt_in l3 120) ∧ (u < 7)) ∧ (¬ (pt_A M 13 t (pt_nt l3)) = (pt_A M 12 u (pt_nt l3))) ∧ ((pt_in l3 120) ∧ (t < 7)) ∧ ((pt_in l3 120) ∧ (u < 7)) ∧ pt_Cal YX0_compareRows (.invokestatic 87) [pt_i (pt_A M 13 t (pt_nt l3)), pt_i (pt_A M 12 u (pt_nt l3))] M (some (pt_i (cp_F (pt_A M 13 t (pt_nt l3)) (pt_A M 12 u (pt_nt l3))))) M ∧ True) (by with_unfolding_all rfl) ⟨h1, h2, h3, h4, h3, ⟨h5, h2⟩, ⟨h5, h4⟩, h6, ⟨h5, h2⟩, ⟨h5, h4⟩, (pt_callS kX0_compareRows_87 mJ6_compare_7cf53 rfl (dJ6_compare (pt_A M 13 t (pt_nt l3)) (pt_A M 12 u (pt_nt l3)) M)), trivial⟩
set_option maxRecDepth 100000 in
theorem gX0_compareRowsC_2_2 (t : Nat) (u : Nat) (l2 : Int32) (l3 : Int32)  (M : pt_M) (h1 : ¬ l2 ≤ l3) (h2 : t < 7) (h3 : ¬ (nI 120) ≤ l3) (h4 : u < 7) (h5 : pt_in l3 120) (h6 : (pt_A M 13 t (pt_nt l3)) = (pt_A M 12 u (pt_nt l3))) :
    pt_Go YX0_compareRows (2, [(0, pt_r 13 t), (1, pt_r 12 u), (2, pt_i l2), (3, pt_i l3)], [], M)
      (2, [(0, pt_r 13 t), (1, pt_r 12 u), (2, pt_i l2), (3, pt_i (l3 + 1))], [], M) :=
  pt_run_ok tX0_compareRows_ok 20 [.inl false, .inl false, .inl false, .inl true] (P := (¬ l2 ≤ l3) ∧ (t < 7) ∧ (¬ (nI 120) ≤ l3) ∧ (u < 7) ∧ (¬ (nI 120) ≤ l3) ∧ ((pt_in l3 120) ∧ (t < 7)) ∧ ((pt_in l3 120) ∧ (u < 7)) ∧ ((pt_A M 13 t (pt_nt l3)) = (pt_A M 12 u (pt_nt l3))) ∧ True) (by with_unfolding_all rfl) ⟨h1, h2, h3, h4, h3, ⟨h5, h2⟩, ⟨h5, h4⟩, h6, trivial⟩
set_option maxRecDepth 100000 in
theorem gX0_compareRowsC_2_3 (t : Nat) (u : Nat) (l2 : Int32) (l3 : Int32)  (M : pt_M) (h1 : ¬ l2 ≤ l3) (h2 : t < 7) (h3 : (nI 120) ≤ l3) :
    pt_Go YX0_compareRows (2, [(0, pt_r 13 t), (1, pt_r 12 u), (2, pt_i l2), (3, pt_i l3)], [], M)
      (45, [(0, pt_r 13 t), (1, pt_r 12 u), (2, pt_i l2), (3, pt_i l3)], [pt_i 0], M) :=
  pt_run_ok tX0_compareRows_ok 8 [.inl false, .inl true] (P := (¬ l2 ≤ l3) ∧ (t < 7) ∧ ((nI 120) ≤ l3) ∧ True) (by with_unfolding_all rfl) ⟨h1, h2, h3, trivial⟩
set_option maxRecDepth 100000 in
theorem gX0_compareRowsC_2_4 (t : Nat) (u : Nat) (l2 : Int32) (l3 : Int32)  (M : pt_M) (h1 : l2 ≤ l3) :
    pt_Go YX0_compareRows (2, [(0, pt_r 13 t), (1, pt_r 12 u), (2, pt_i l2), (3, pt_i l3)], [], M)
      (45, [(0, pt_r 13 t), (1, pt_r 12 u), (2, pt_i l2), (3, pt_i l3)], [pt_i 0], M) :=
  pt_run_ok tX0_compareRows_ok 4 [.inl true] (P := (l2 ≤ l3) ∧ True) (by with_unfolding_all rfl) ⟨h1, trivial⟩
theorem dX0_compareRows_C {t u N : Nat} {M : pt_M} (ht : t < 7) (hu : u < 7) (hN : N ≤ 120) : pt_Does yX0_compareRows YX0_compareRows [pt_r 13 t, pt_r 12 u, pt_i (nI N)] M (some (pt_i (cq_F (pt_A M 13 t) (pt_A M 12 u) N))) M := by
  have K := pt_nest (Y := YX0_compareRows) (σ := (0, [(0, pt_r 13 t), (1, pt_r 12 u), (2, pt_i (nI N))], [], M)) (τ := (45, [], [pt_i 0], M)) (R := fun p => (37, [], [pt_i (cp_F (pt_A M 13 t p) (pt_A M 12 u p))], M)) (n := N) (i := 0)
    (S := fun p => (2, [(0, pt_r 13 t), (1, pt_r 12 u), (2, pt_i (nI N)), (3, pt_i (nI p))], [], M)) (f := fun p => if pt_A M 13 t p = pt_A M 12 u p then none else some p)
    (Nat.zero_le N) (gX0_compareRowsC_0_1 t u (nI N) M) ((gX0_compareRowsC_2_4 t u (nI N) (nI N) M (Int32.le_refl _)).tr pt_dropA) fun p _ hp => by
      have e : pt_nt (nI p) = p := pt_nt_nI (by omega)
      by_cases hv : pt_A M 13 t p = pt_A M 12 u p
      · refine ⟨fun v z => by simp [hv] at z, fun _ => (gX0_compareRowsC_2_2 t u (nI N) (nI p) M (nI_ge hp (by omega)) ht (nI_ge (by omega) (by decide)) hu (pt_in_nI (by omega) (by decide)) (by rw [e]; exact hv)).to (by rw [nI_1])⟩
      · refine ⟨fun v z => ?_, fun z => by simp [hv] at z⟩
        simp only [if_neg hv, Option.some.injEq] at z
        subst z
        refine ((gX0_compareRowsC_2_1 t u (nI N) (nI p) M (nI_ge hp (by omega)) ht (nI_ge (by omega) (by decide)) hu (pt_in_nI (by omega) (by decide)) (by rw [e]; exact hv)).tr pt_dropA).to ?_
        rw [e]
  unfold cq_F
  cases hf : fs_F (N - 0) 0 (fun p => if pt_A M 13 t p = pt_A M 12 u p then none else some p) with
  | none => exact rX0_compareRows_45 (Nat.le_of_ble_eq_true rfl) rfl (K.2 hf)
  | some v => exact rX0_compareRows_37 (Nat.le_of_ble_eq_true rfl) rfl (K.1 v hf)
theorem fr_ke {M : pt_M} {k t n : Nat} {B : Nat → Nat → Nat → Bool} {mr : Bool} (h : k = 12 ∨ k = 13) (hn : n ≤ 10) : ∀ r, r ≤ n → ke_P M (fr_M M k t n B mr r)
  | 0, _ => ke_row h
  | r + 1, hr => by
    have ih := fr_ke (M := M) (t := t) (B := B) (mr := mr) h hn r (by omega)
    show ke_P M (if _ then _ else _)
    split
    · exact ih.tr ((nb_ke hn (by omega)).tr (of_ke h))
    · exact ih
theorem dX0_offer_12 {t n : Nat} {mr : Bool} {B : Nat → Nat → Nat → Bool} {M : pt_M} (h : of_H M t n B) : pt_Does yX0_offerRow YX0_offerRow [pt_r 5 0, pt_r 3 t, pt_i (pt_b mr), pt_r 12 t] M none (of_M M 12 t (rk_0 n n) (rw_F n B (gm_F M) mr)) := dX0_offerRow_12 h.1 (fun i hi => gm_ok (h.2 i (Nat.lt_of_lt_of_le hi h.1.2.1)))
theorem rX0_findFirstRow_58 {vs : List pt_V} {M M' : pt_M} {L : List (Nat × pt_V)} (hvs : (vs.map pt_w).sum ≤ 6) (hX : M'.2.2.2.2 = M.2.2.2.2) (h : pt_Go YX0_findFirstRow (0, pt_en 0 vs, [], M) (58, L, [], M')) : pt_Does yX0_findFirstRow YX0_findFirstRow vs M none M' := pt_does_go tX0_findFirstRow_ok nX0_findFirstRow hvs hX ⟨_, by with_unfolding_all rfl, rfl, rfl⟩ h
set_option maxRecDepth 100000 in
theorem gX0_findFirstRow12_0_1 (t : Nat) (n : Nat) (B : Nat → Nat → Nat → Bool) (mr : Bool) (M : pt_M) (h1 : t < 7) (h2 : tb_P (fi_F M 12 t 120 3) t n B) (h3 : st_P (ep_F (fi_F M 12 t 120 3) t) n) :
    pt_Go YX0_findFirstRow (0, [(0, pt_r 5 0), (1, pt_r 3 t), (2, pt_i (pt_b mr)), (3, pt_r 12 t)], [], M)
      (18, [(0, pt_r 5 0), (1, pt_r 3 t), (2, pt_i (pt_b mr)), (3, pt_r 12 t), (4, pt_i (ri_I n B (ep_F (fi_F M 12 t 120 3) t))), (5, pt_i 0)], [], (fi_F M 12 t 120 3)) :=
  pt_run_ok tX0_findFirstRow_ok 10 [.inr (2, none, (fi_F M 12 t 120 3)), .inr (1, some (pt_i (ep_F (fi_F M 12 t 120 3) t)), (fi_F M 12 t 120 3)), .inr (2, some (pt_i (ri_I n B (ep_F (fi_F M 12 t 120 3) t))), (fi_F M 12 t 120 3))] (P := pt_Cal YX0_findFirstRow (.invokestatic 47) [pt_r 12 t, pt_i 3] M none (fi_F M 12 t 120 3) ∧ pt_Cal YX0_findFirstRow (.invokevirtual 53) [pt_r 3 t] (fi_F M 12 t 120 3) (some (pt_i (ep_F (fi_F M 12 t 120 3) t))) (fi_F M 12 t 120 3) ∧ pt_Cal YX0_findFirstRow (.invokestatic 57) [pt_r 3 t, pt_i (ep_F (fi_F M 12 t 120 3) t)] (fi_F M 12 t 120 3) (some (pt_i (ri_I n B (ep_F (fi_F M 12 t 120 3) t)))) (fi_F M 12 t 120 3) ∧ True) (by with_unfolding_all rfl) ⟨(pt_callS kX0_findFirstRow_47 mJ7_fill_53178 rfl (dJ7_fill_12 h1)), (pt_callV (i := t) kX0_findFirstRow_53 mX4_everyPoint rfl h1 rfl (dX4_everyPoint h1)), (pt_callS kX0_findFirstRow_57 mX2_rimOf rfl (dX2_rimOf h2 h3)), trivial⟩
set_option maxRecDepth 100000 in
theorem gX0_findFirstRow12_18_1 (t : Nat) (l4 : Int32) (l5 : Int32) (n : Nat) (B : Nat → Nat → Nat → Bool) (mr : Bool) (M : pt_M) (h1 : t < 7) (h2 : ¬ (pt_F M 3 0 t) ≤ l5) (h3 : in_P l4 l5) (h4 : tb_P M t n B) (h5 : lq_P n B) (h6 : pt_in l5 n) (h7 : of_H (nb_M M n B l5 mr) t n B) :
    pt_Go YX0_findFirstRow (18, [(0, pt_r 5 0), (1, pt_r 3 t), (2, pt_i (pt_b mr)), (3, pt_r 12 t), (4, pt_i l4), (5, pt_i l5)], [], M)
      (18, [(0, pt_r 5 0), (1, pt_r 3 t), (2, pt_i (pt_b mr)), (3, pt_r 12 t), (4, pt_i l4), (5, pt_i (l5 + 1))], [], (of_M (nb_M M n B l5 mr) 12 t (rk_0 n n) (rw_F n B (gm_F (nb_M M n B l5 mr)) mr))) :=
  pt_run_ok tX0_findFirstRow_ok 20 [.inl false, .inr (2, some (pt_i 1), M), .inl false, .inr (4, none, (nb_M M n B l5 mr)), .inr (4, none, (of_M (nb_M M n B l5 mr) 12 t (rk_0 n n) (rw_F n B (gm_F (nb_M M n B l5 mr)) mr)))] (P := (t < 7) ∧ (¬ (pt_F M 3 0 t) ≤ l5) ∧ pt_Cal YX0_findFirstRow (.invokestatic 63) [pt_i l4, pt_i l5] M (some (pt_i 1)) M ∧ (¬ (1 : Int32) = (0 : Int32)) ∧ pt_Cal YX0_findFirstRow (.invokevirtual 67) [pt_r 5 0, pt_r 3 t, pt_i l5, pt_i (pt_b mr)] M none (nb_M M n B l5 mr) ∧ pt_Cal YX0_findFirstRow (.invokevirtual 71) [pt_r 5 0, pt_r 3 t, pt_i (pt_b mr), pt_r 12 t] (nb_M M n B l5 mr) none (of_M (nb_M M n B l5 mr) 12 t (rk_0 n n) (rw_F n B (gm_F (nb_M M n B l5 mr)) mr)) ∧ True) (by with_unfolding_all rfl) ⟨h1, h2, (pt_callS kX0_findFirstRow_63 mX2_isIn rfl (dX2_isIn_1 h3)), (by decide), (pt_callV (i := 0) kX0_findFirstRow_67 mX0_nameBy rfl (by decide) rfl (dX0_nameBy h4 h5 h6)), (pt_callV (i := 0) kX0_findFirstRow_71 mX0_offerRow rfl (by decide) rfl (dX0_offer_12 h7)), trivial⟩
set_option maxRecDepth 100000 in
theorem gX0_findFirstRow12_18_2 (t : Nat) (l4 : Int32) (l5 : Int32) (n : Nat) (B : Nat → Nat → Nat → Bool) (mr : Bool) (M : pt_M) (h1 : t < 7) (h2 : ¬ (pt_F M 3 0 t) ≤ l5) (h3 : ¬ in_P l4 l5) :
    pt_Go YX0_findFirstRow (18, [(0, pt_r 5 0), (1, pt_r 3 t), (2, pt_i (pt_b mr)), (3, pt_r 12 t), (4, pt_i l4), (5, pt_i l5)], [], M)
      (18, [(0, pt_r 5 0), (1, pt_r 3 t), (2, pt_i (pt_b mr)), (3, pt_r 12 t), (4, pt_i l4), (5, pt_i (l5 + 1))], [], M) :=
  pt_run_ok tX0_findFirstRow_ok 10 [.inl false, .inr (2, some (pt_i 0), M), .inl true] (P := (t < 7) ∧ (¬ (pt_F M 3 0 t) ≤ l5) ∧ pt_Cal YX0_findFirstRow (.invokestatic 63) [pt_i l4, pt_i l5] M (some (pt_i 0)) M ∧ ((0 : Int32) = (0 : Int32)) ∧ True) (by with_unfolding_all rfl) ⟨h1, h2, (pt_callS kX0_findFirstRow_63 mX2_isIn rfl (dX2_isIn_0 h3)), (by decide), trivial⟩
set_option maxRecDepth 100000 in
theorem gX0_findFirstRow12_18_3 (t : Nat) (l4 : Int32) (l5 : Int32) (n : Nat) (B : Nat → Nat → Nat → Bool) (mr : Bool) (M : pt_M) (h1 : t < 7) (h2 : (pt_F M 3 0 t) ≤ l5) :
    pt_Go YX0_findFirstRow (18, [(0, pt_r 5 0), (1, pt_r 3 t), (2, pt_i (pt_b mr)), (3, pt_r 12 t), (4, pt_i l4), (5, pt_i l5)], [], M)
      (58, [(0, pt_r 5 0), (1, pt_r 3 t), (2, pt_i (pt_b mr)), (3, pt_r 12 t), (4, pt_i l4), (5, pt_i l5)], [], M) :=
  pt_run_ok tX0_findFirstRow_ok 4 [.inl true] (P := (t < 7) ∧ ((pt_F M 3 0 t) ≤ l5) ∧ True) (by with_unfolding_all rfl) ⟨h1, h2, trivial⟩
theorem dX0_findFirstRow_12 {t n : Nat} {mr : Bool} {B : Nat → Nat → Nat → Bool} {M : pt_M} (h : fr_H M t n B) : pt_Does yX0_findFirstRow YX0_findFirstRow [pt_r 5 0, pt_r 3 t, pt_i (pt_b mr), pt_r 12 t] M none (fr_M M 12 t n B mr n) := by
  obtain ⟨htb, hq, hna⟩ := h
  have ht := htb.1
  have hn := htb.2.1
  have hs := htb.2.2.1
  have hm : 2 ^ n - 1 < 1024 := by have := pb_p2 hn; omega
  have hke : ∀ r, r ≤ n → ke_P M (fr_M M 12 t n B mr r) := fun r hr => fr_ke (by decide) hn r hr
  have hrl := ri_lt (B := B) hn hm
  have K := pt_for0 (Y := YX0_findFirstRow) (fun r => (18, [(0, pt_r 5 0), (1, pt_r 3 t), (2, pt_i (pt_b mr)), (3, pt_r 12 t), (4, pt_i (nI (ri_F n B (2 ^ n - 1)))), (5, pt_i (nI r))], [], fr_M M 12 t n B mr r)) (n := n) fun r hr => by
    have hk := hke r (by omega)
    have hin := in_nI (i := r) hrl (by omega)
    have hlt : ¬ pt_F (fr_M M 12 t n B mr r) 3 0 t ≤ nI r := by rw [hk.1, hs]; exact nI_ge hr (by omega)
    cases hv : (ri_F n B (2 ^ n - 1)).testBit r
    · refine (gX0_findFirstRow12_18_2 t (nI (ri_F n B (2 ^ n - 1))) (nI r) n B mr (fr_M M 12 t n B mr r) ht hlt (fun z => by rw [hin, hv] at z; cases z)).to ?_
      have : fr_M M 12 t n B mr (r + 1) = fr_M M 12 t n B mr r := if_neg (by rw [hv]; decide)
      rw [nI_1, this]
    · have htb' := htb.ke hk
      have hk2 := nb_ke (M := fr_M M 12 t n B mr r) (B := B) (mr := mr) hn hr
      have hk3 := hk.tr hk2
      refine (gX0_findFirstRow12_18_1 t (nI (ri_F n B (2 ^ n - 1))) (nI r) n B mr (fr_M M 12 t n B mr r) ht hlt (hin.mpr hv) htb' hq (pt_in_nI hr (by omega)) ⟨htb.ke hk3, hk3.2.2.1 hna⟩).to ?_
      have : fr_M M 12 t n B mr (r + 1) = of_M (nb_M (fr_M M 12 t n B mr r) n B (nI r) mr) 12 t (rk_0 n n) (rw_F n B (gm_F (nb_M (fr_M M 12 t n B mr r) n B (nI r) mr)) mr) := if_pos hv
      rw [nI_1, this]
  have hk0 := hke 0 (by omega)
  have e0 : ep_F (fi_F M 12 t 120 3) t = nI (2 ^ n - 1) := ep_nI hn hs
  refine rX0_findFirstRow_58 (Nat.le_of_ble_eq_true rfl) (hke n (Nat.le_refl n)).x5 (((gX0_findFirstRow12_0_1 t n B mr M ht (htb.ke hk0) ⟨_, e0, hm⟩).to ?_).tr (K.tr (gX0_findFirstRow12_18_3 t (nI (ri_F n B (2 ^ n - 1))) (nI n) n B mr (fr_M M 12 t n B mr n) ht (by rw [(hke n (Nat.le_refl n)).1, hs]; exact Int32.le_refl _))))
  rw [e0, ri_nI hm]
  rfl
theorem dX0_offer_13 {t n : Nat} {mr : Bool} {B : Nat → Nat → Nat → Bool} {M : pt_M} (h : of_H M t n B) : pt_Does yX0_offerRow YX0_offerRow [pt_r 5 0, pt_r 3 t, pt_i (pt_b mr), pt_r 13 t] M none (of_M M 13 t (rk_0 n n) (rw_F n B (gm_F M) mr)) := dX0_offerRow_13 h.1 (fun i hi => gm_ok (h.2 i (Nat.lt_of_lt_of_le hi h.1.2.1)))
set_option maxRecDepth 100000 in
theorem gX0_findFirstRow13_0_1 (t : Nat) (n : Nat) (B : Nat → Nat → Nat → Bool) (mr : Bool) (M : pt_M) (h1 : t < 7) (h2 : tb_P (fi_F M 13 t 120 3) t n B) (h3 : st_P (ep_F (fi_F M 13 t 120 3) t) n) :
    pt_Go YX0_findFirstRow (0, [(0, pt_r 5 0), (1, pt_r 3 t), (2, pt_i (pt_b mr)), (3, pt_r 13 t)], [], M)
      (18, [(0, pt_r 5 0), (1, pt_r 3 t), (2, pt_i (pt_b mr)), (3, pt_r 13 t), (4, pt_i (ri_I n B (ep_F (fi_F M 13 t 120 3) t))), (5, pt_i 0)], [], (fi_F M 13 t 120 3)) :=
  pt_run_ok tX0_findFirstRow_ok 10 [.inr (2, none, (fi_F M 13 t 120 3)), .inr (1, some (pt_i (ep_F (fi_F M 13 t 120 3) t)), (fi_F M 13 t 120 3)), .inr (2, some (pt_i (ri_I n B (ep_F (fi_F M 13 t 120 3) t))), (fi_F M 13 t 120 3))] (P := pt_Cal YX0_findFirstRow (.invokestatic 47) [pt_r 13 t, pt_i 3] M none (fi_F M 13 t 120 3) ∧ pt_Cal YX0_findFirstRow (.invokevirtual 53) [pt_r 3 t] (fi_F M 13 t 120 3) (some (pt_i (ep_F (fi_F M 13 t 120 3) t))) (fi_F M 13 t 120 3) ∧ pt_Cal YX0_findFirstRow (.invokestatic 57) [pt_r 3 t, pt_i (ep_F (fi_F M 13 t 120 3) t)] (fi_F M 13 t 120 3) (some (pt_i (ri_I n B (ep_F (fi_F M 13 t 120 3) t)))) (fi_F M 13 t 120 3) ∧ True) (by with_unfolding_all rfl) ⟨(pt_callS kX0_findFirstRow_47 mJ7_fill_53178 rfl (dJ7_fill_13 h1)), (pt_callV (i := t) kX0_findFirstRow_53 mX4_everyPoint rfl h1 rfl (dX4_everyPoint h1)), (pt_callS kX0_findFirstRow_57 mX2_rimOf rfl (dX2_rimOf h2 h3)), trivial⟩
set_option maxRecDepth 100000 in
theorem gX0_findFirstRow13_18_1 (t : Nat) (l4 : Int32) (l5 : Int32) (n : Nat) (B : Nat → Nat → Nat → Bool) (mr : Bool) (M : pt_M) (h1 : t < 7) (h2 : ¬ (pt_F M 3 0 t) ≤ l5) (h3 : in_P l4 l5) (h4 : tb_P M t n B) (h5 : lq_P n B) (h6 : pt_in l5 n) (h7 : of_H (nb_M M n B l5 mr) t n B) :
    pt_Go YX0_findFirstRow (18, [(0, pt_r 5 0), (1, pt_r 3 t), (2, pt_i (pt_b mr)), (3, pt_r 13 t), (4, pt_i l4), (5, pt_i l5)], [], M)
      (18, [(0, pt_r 5 0), (1, pt_r 3 t), (2, pt_i (pt_b mr)), (3, pt_r 13 t), (4, pt_i l4), (5, pt_i (l5 + 1))], [], (of_M (nb_M M n B l5 mr) 13 t (rk_0 n n) (rw_F n B (gm_F (nb_M M n B l5 mr)) mr))) :=
  pt_run_ok tX0_findFirstRow_ok 20 [.inl false, .inr (2, some (pt_i 1), M), .inl false, .inr (4, none, (nb_M M n B l5 mr)), .inr (4, none, (of_M (nb_M M n B l5 mr) 13 t (rk_0 n n) (rw_F n B (gm_F (nb_M M n B l5 mr)) mr)))] (P := (t < 7) ∧ (¬ (pt_F M 3 0 t) ≤ l5) ∧ pt_Cal YX0_findFirstRow (.invokestatic 63) [pt_i l4, pt_i l5] M (some (pt_i 1)) M ∧ (¬ (1 : Int32) = (0 : Int32)) ∧ pt_Cal YX0_findFirstRow (.invokevirtual 67) [pt_r 5 0, pt_r 3 t, pt_i l5, pt_i (pt_b mr)] M none (nb_M M n B l5 mr) ∧ pt_Cal YX0_findFirstRow (.invokevirtual 71) [pt_r 5 0, pt_r 3 t, pt_i (pt_b mr), pt_r 13 t] (nb_M M n B l5 mr) none (of_M (nb_M M n B l5 mr) 13 t (rk_0 n n) (rw_F n B (gm_F (nb_M M n B l5 mr)) mr)) ∧ True) (by with_unfolding_all rfl) ⟨h1, h2, (pt_callS kX0_findFirstRow_63 mX2_isIn rfl (dX2_isIn_1 h3)), (by decide), (pt_callV (i := 0) kX0_findFirstRow_67 mX0_nameBy rfl (by decide) rfl (dX0_nameBy h4 h5 h6)), (pt_callV (i := 0) kX0_findFirstRow_71 mX0_offerRow rfl (by decide) rfl (dX0_offer_13 h7)), trivial⟩
set_option maxRecDepth 100000 in
theorem gX0_findFirstRow13_18_2 (t : Nat) (l4 : Int32) (l5 : Int32) (n : Nat) (B : Nat → Nat → Nat → Bool) (mr : Bool) (M : pt_M) (h1 : t < 7) (h2 : ¬ (pt_F M 3 0 t) ≤ l5) (h3 : ¬ in_P l4 l5) :
    pt_Go YX0_findFirstRow (18, [(0, pt_r 5 0), (1, pt_r 3 t), (2, pt_i (pt_b mr)), (3, pt_r 13 t), (4, pt_i l4), (5, pt_i l5)], [], M)
      (18, [(0, pt_r 5 0), (1, pt_r 3 t), (2, pt_i (pt_b mr)), (3, pt_r 13 t), (4, pt_i l4), (5, pt_i (l5 + 1))], [], M) :=
  pt_run_ok tX0_findFirstRow_ok 10 [.inl false, .inr (2, some (pt_i 0), M), .inl true] (P := (t < 7) ∧ (¬ (pt_F M 3 0 t) ≤ l5) ∧ pt_Cal YX0_findFirstRow (.invokestatic 63) [pt_i l4, pt_i l5] M (some (pt_i 0)) M ∧ ((0 : Int32) = (0 : Int32)) ∧ True) (by with_unfolding_all rfl) ⟨h1, h2, (pt_callS kX0_findFirstRow_63 mX2_isIn rfl (dX2_isIn_0 h3)), (by decide), trivial⟩
set_option maxRecDepth 100000 in
theorem gX0_findFirstRow13_18_3 (t : Nat) (l4 : Int32) (l5 : Int32) (n : Nat) (B : Nat → Nat → Nat → Bool) (mr : Bool) (M : pt_M) (h1 : t < 7) (h2 : (pt_F M 3 0 t) ≤ l5) :
    pt_Go YX0_findFirstRow (18, [(0, pt_r 5 0), (1, pt_r 3 t), (2, pt_i (pt_b mr)), (3, pt_r 13 t), (4, pt_i l4), (5, pt_i l5)], [], M)
      (58, [(0, pt_r 5 0), (1, pt_r 3 t), (2, pt_i (pt_b mr)), (3, pt_r 13 t), (4, pt_i l4), (5, pt_i l5)], [], M) :=
  pt_run_ok tX0_findFirstRow_ok 4 [.inl true] (P := (t < 7) ∧ ((pt_F M 3 0 t) ≤ l5) ∧ True) (by with_unfolding_all rfl) ⟨h1, h2, trivial⟩
theorem dX0_findFirstRow_13 {t n : Nat} {mr : Bool} {B : Nat → Nat → Nat → Bool} {M : pt_M} (h : fr_H M t n B) : pt_Does yX0_findFirstRow YX0_findFirstRow [pt_r 5 0, pt_r 3 t, pt_i (pt_b mr), pt_r 13 t] M none (fr_M M 13 t n B mr n) := by
  obtain ⟨htb, hq, hna⟩ := h
  have ht := htb.1
  have hn := htb.2.1
  have hs := htb.2.2.1
  have hm : 2 ^ n - 1 < 1024 := by have := pb_p2 hn; omega
  have hke : ∀ r, r ≤ n → ke_P M (fr_M M 13 t n B mr r) := fun r hr => fr_ke (by decide) hn r hr
  have hrl := ri_lt (B := B) hn hm
  have K := pt_for0 (Y := YX0_findFirstRow) (fun r => (18, [(0, pt_r 5 0), (1, pt_r 3 t), (2, pt_i (pt_b mr)), (3, pt_r 13 t), (4, pt_i (nI (ri_F n B (2 ^ n - 1)))), (5, pt_i (nI r))], [], fr_M M 13 t n B mr r)) (n := n) fun r hr => by
    have hk := hke r (by omega)
    have hin := in_nI (i := r) hrl (by omega)
    have hlt : ¬ pt_F (fr_M M 13 t n B mr r) 3 0 t ≤ nI r := by rw [hk.1, hs]; exact nI_ge hr (by omega)
    cases hv : (ri_F n B (2 ^ n - 1)).testBit r
    · refine (gX0_findFirstRow13_18_2 t (nI (ri_F n B (2 ^ n - 1))) (nI r) n B mr (fr_M M 13 t n B mr r) ht hlt (fun z => by rw [hin, hv] at z; cases z)).to ?_
      have : fr_M M 13 t n B mr (r + 1) = fr_M M 13 t n B mr r := if_neg (by rw [hv]; decide)
      rw [nI_1, this]
    · have htb' := htb.ke hk
      have hk2 := nb_ke (M := fr_M M 13 t n B mr r) (B := B) (mr := mr) hn hr
      have hk3 := hk.tr hk2
      refine (gX0_findFirstRow13_18_1 t (nI (ri_F n B (2 ^ n - 1))) (nI r) n B mr (fr_M M 13 t n B mr r) ht hlt (hin.mpr hv) htb' hq (pt_in_nI hr (by omega)) ⟨htb.ke hk3, hk3.2.2.1 hna⟩).to ?_
      have : fr_M M 13 t n B mr (r + 1) = of_M (nb_M (fr_M M 13 t n B mr r) n B (nI r) mr) 13 t (rk_0 n n) (rw_F n B (gm_F (nb_M (fr_M M 13 t n B mr r) n B (nI r) mr)) mr) := if_pos hv
      rw [nI_1, this]
  have hk0 := hke 0 (by omega)
  have e0 : ep_F (fi_F M 13 t 120 3) t = nI (2 ^ n - 1) := ep_nI hn hs
  refine rX0_findFirstRow_58 (Nat.le_of_ble_eq_true rfl) (hke n (Nat.le_refl n)).x5 (((gX0_findFirstRow13_0_1 t n B mr M ht (htb.ke hk0) ⟨_, e0, hm⟩).to ?_).tr (K.tr (gX0_findFirstRow13_18_3 t (nI (ri_F n B (2 ^ n - 1))) (nI n) n B mr (fr_M M 13 t n B mr n) ht (by rw [(hke n (Nat.le_refl n)).1, hs]; exact Int32.le_refl _))))
  rw [e0, ri_nI hm]
  rfl
def fw_M (M : pt_M) (t n : Nat) (B : Nat → Nat → Nat → Bool) : pt_M := if pt_F M 3 3 t = 0 then pt_wF (fr_M (fr_M M 12 t n B false n) 13 t n B true n) 3 3 t 1 else M
theorem rX0_findFirstRows_32 {vs : List pt_V} {M M' : pt_M} {L : List (Nat × pt_V)} (hvs : (vs.map pt_w).sum ≤ 2) (hX : M'.2.2.2.2 = M.2.2.2.2) (h : pt_Go YX0_findFirstRows (0, pt_en 0 vs, [], M) (32, L, [], M')) : pt_Does yX0_findFirstRows YX0_findFirstRows vs M none M' := pt_does_go tX0_findFirstRows_ok nX0_findFirstRows hvs hX ⟨_, by with_unfolding_all rfl, rfl, rfl⟩ h
set_option maxRecDepth 100000 in
theorem gX0_findFirstRows_0_1 (t : Nat) (n : Nat) (B : Nat → Nat → Nat → Bool) (M : pt_M) (h1 : t < 7) (h2 : (pt_F M 3 3 t) = 0) (h3 : fr_H M t n B) (h4 : fr_H (fr_M M 12 t n B false n) t n B) :
    pt_Go YX0_findFirstRows (0, [(0, pt_r 5 0), (1, pt_r 3 t)], [], M)
      (32, [(0, pt_r 5 0), (1, pt_r 3 t)], [], (pt_wF (fr_M (fr_M M 12 t n B false n) 13 t n B true n) 3 3 t 1)) :=
  pt_run_ok tX0_findFirstRows_ok 18 [.inl false, .inr (4, none, (fr_M M 12 t n B false n)), .inr (4, none, (fr_M (fr_M M 12 t n B false n) 13 t n B true n))] (P := (t < 7) ∧ ((pt_F M 3 3 t) = 0) ∧ (t < 7) ∧ pt_Cal YX0_findFirstRows (.invokevirtual 43) [pt_r 5 0, pt_r 3 t, pt_i 0, pt_r 12 t] M none (fr_M M 12 t n B false n) ∧ (t < 7) ∧ pt_Cal YX0_findFirstRows (.invokevirtual 43) [pt_r 5 0, pt_r 3 t, pt_i 1, pt_r 13 t] (fr_M M 12 t n B false n) none (fr_M (fr_M M 12 t n B false n) 13 t n B true n) ∧ (((1 : Int32) = 0 ∨ (1 : Int32) = 1) ∧ (t < 7)) ∧ True) (by with_unfolding_all rfl) ⟨h1, h2, h1, (pt_callV (i := 0) kX0_findFirstRows_43 mX0_findFirstRow rfl (by decide) rfl (dX0_findFirstRow_12 (mr := false) h3)), h1, (pt_callV (i := 0) kX0_findFirstRows_43 mX0_findFirstRow rfl (by decide) rfl (dX0_findFirstRow_13 (mr := true) h4)), ⟨(by decide), h1⟩, trivial⟩
set_option maxRecDepth 100000 in
theorem gX0_findFirstRows_0_2 (t : Nat) (n : Nat) (B : Nat → Nat → Nat → Bool) (M : pt_M) (h1 : t < 7) (h2 : ¬ (pt_F M 3 3 t) = 0) :
    pt_Go YX0_findFirstRows (0, [(0, pt_r 5 0), (1, pt_r 3 t)], [], M)
      (32, [(0, pt_r 5 0), (1, pt_r 3 t)], [], M) :=
  pt_run_ok tX0_findFirstRows_ok 3 [.inl true] (P := (t < 7) ∧ (¬ (pt_F M 3 3 t) = 0) ∧ True) (by with_unfolding_all rfl) ⟨h1, h2, trivial⟩
theorem dX0_findFirstRows {t n : Nat} {B : Nat → Nat → Nat → Bool} {M : pt_M} (h : fr_H M t n B) : pt_Does yX0_findFirstRows YX0_findFirstRows [pt_r 5 0, pt_r 3 t] M none (fw_M M t n B) := by
  have hk1 : ke_P M (fr_M M 12 t n B false n) := fr_ke (by decide) h.1.2.1 n (Nat.le_refl n)
  have hk2 : ke_P M (fr_M (fr_M M 12 t n B false n) 13 t n B true n) := hk1.tr (fr_ke (by decide) h.1.2.1 n (Nat.le_refl n))
  unfold fw_M
  by_cases h0 : pt_F M 3 3 t = 0
  · rw [if_pos h0]
    exact rX0_findFirstRows_32 (Nat.le_of_ble_eq_true rfl) hk2.x5 (gX0_findFirstRows_0_1 t n B M h.1.1 h0 h ⟨h.1.ke hk1, h.2.1, hk1.2.2.1 h.2.2⟩)
  · rw [if_neg h0]
    exact rX0_findFirstRows_32 (Nat.le_of_ble_eq_true rfl) rfl (gX0_findFirstRows_0_2 t n B M h.1.1 h0)
def cn_P (x : Int32) (N : Nat) : Prop := x = nI N ∧ N ≤ 120
theorem dX0_cmp_A {t N : Nat} {x : Int32} {M : pt_M} (ht : t < 7) (h : cn_P x N) : pt_Does yX0_compareRows YX0_compareRows [pt_r 12 t, pt_r 13 t, pt_i x] M (some (pt_i (cq_F (pt_A M 12 t) (pt_A M 13 t) N))) M := by
  obtain ⟨rfl, hN⟩ := h
  exact dX0_compareRows_A ht hN
theorem dX0_cmp_B {t u N : Nat} {x : Int32} {M : pt_M} (ht : t < 7) (hu : u < 7) (h : cn_P x N) : pt_Does yX0_compareRows YX0_compareRows [pt_r 12 t, pt_r 12 u, pt_i x] M (some (pt_i (cq_F (pt_A M 12 t) (pt_A M 12 u) N))) M := by
  obtain ⟨rfl, hN⟩ := h
  exact dX0_compareRows_B ht hu hN
theorem dX0_cmp_C {t u N : Nat} {x : Int32} {M : pt_M} (ht : t < 7) (hu : u < 7) (h : cn_P x N) : pt_Does yX0_compareRows YX0_compareRows [pt_r 13 t, pt_r 12 u, pt_i x] M (some (pt_i (cq_F (pt_A M 13 t) (pt_A M 12 u) N))) M := by
  obtain ⟨rfl, hN⟩ := h
  exact dX0_compareRows_C ht hu hN
theorem to_tab : ((List.range 11).all fun n => decide (to_F (nI n) = nI (rk_0 n n)) && decide (rk_0 n n ≤ 120)) = true := by decide +kernel
theorem to_nI {n : Nat} (hn : n ≤ 10) : cn_P (to_F (nI n)) (rk_0 n n) := by
  have h := pt_all to_tab (i := n) (by omega)
  simp only [Bool.and_eq_true, decide_eq_true_eq] at h
  exact h
theorem rX0_codeOf_47 {vs : List pt_V} {M M' : pt_M} {k i : Nat} {L : List (Nat × pt_V)} (hvs : (vs.map pt_w).sum ≤ 3) (hX : M'.2.2.2.2 = M.2.2.2.2) (h : pt_Go YX0_codeOf (0, pt_en 0 vs, [], M) (47, L, [pt_r k i], M')) : pt_Does yX0_codeOf YX0_codeOf vs M (some (pt_r k i)) M' := pt_does_go tX0_codeOf_ok nX0_codeOf hvs hX ⟨_, by with_unfolding_all rfl, rfl, _, rfl, Or.inr ⟨_, rfl⟩⟩ h
set_option maxRecDepth 100000 in
theorem gX0_codeOf_0_1 (t : Nat) (n N : Nat) (B : Nat → Nat → Nat → Bool) (M : pt_M) (h1 : fr_H M t n B) (h2 : t < 7) (h3 : cn_P (to_F (pt_F (fw_M M t n B) 3 0 t)) N) (h4 : ¬ 0 < (cq_F (pt_A (fw_M M t n B) 12 t) (pt_A (fw_M M t n B) 13 t) N)) :
    pt_Go YX0_codeOf (0, [(0, pt_r 5 0), (1, pt_r 3 t)], [], M)
      (47, [(0, pt_r 5 0), (1, pt_r 3 t), (2, pt_i 1)], [pt_r 12 t], (fw_M M t n B)) :=
  pt_run_ok tX0_codeOf_ok 20 [.inr (2, none, (fw_M M t n B)), .inr (1, some (pt_i (to_F (pt_F (fw_M M t n B) 3 0 t))), (fw_M M t n B)), .inr (3, some (pt_i (cq_F (pt_A (fw_M M t n B) 12 t) (pt_A (fw_M M t n B) 13 t) N)), (fw_M M t n B)), .inl false, .inl false] (P := pt_Cal YX0_codeOf (.invokevirtual 15) [pt_r 5 0, pt_r 3 t] M none (fw_M M t n B) ∧ (t < 7) ∧ (t < 7) ∧ (t < 7) ∧ pt_Cal YX0_codeOf (.invokestatic 31) [pt_i (pt_F (fw_M M t n B) 3 0 t)] (fw_M M t n B) (some (pt_i (to_F (pt_F (fw_M M t n B) 3 0 t)))) (fw_M M t n B) ∧ pt_Cal YX0_codeOf (.invokestatic 35) [pt_r 12 t, pt_r 13 t, pt_i (to_F (pt_F (fw_M M t n B) 3 0 t))] (fw_M M t n B) (some (pt_i (cq_F (pt_A (fw_M M t n B) 12 t) (pt_A (fw_M M t n B) 13 t) N))) (fw_M M t n B) ∧ (¬ 0 < (cq_F (pt_A (fw_M M t n B) 12 t) (pt_A (fw_M M t n B) 13 t) N)) ∧ (¬ (1 : Int32) = (0 : Int32)) ∧ (t < 7) ∧ True) (by with_unfolding_all rfl) ⟨(pt_callV (i := 0) kX0_codeOf_15 mX0_findFirstRows rfl (by decide) rfl (dX0_findFirstRows h1)), h2, h2, h2, (pt_callN (h := "PointTables") (idx := 31) (fun _ z => z.1) kX0_codeOf_31 mX6_turnsOf rfl (dX6_turnsOf (pt_F (fw_M M t n B) 3 0 t) (fw_M M t n B))), (pt_callS kX0_codeOf_35 mX0_compareRows rfl (dX0_cmp_A h2 h3)), h4, (by decide), h2, trivial⟩
set_option maxRecDepth 100000 in
theorem gX0_codeOf_0_2 (t : Nat) (n N : Nat) (B : Nat → Nat → Nat → Bool) (M : pt_M) (h1 : fr_H M t n B) (h2 : t < 7) (h3 : cn_P (to_F (pt_F (fw_M M t n B) 3 0 t)) N) (h4 : 0 < (cq_F (pt_A (fw_M M t n B) 12 t) (pt_A (fw_M M t n B) 13 t) N)) :
    pt_Go YX0_codeOf (0, [(0, pt_r 5 0), (1, pt_r 3 t)], [], M)
      (47, [(0, pt_r 5 0), (1, pt_r 3 t), (2, pt_i 0)], [pt_r 13 t], (fw_M M t n B)) :=
  pt_run_ok tX0_codeOf_ok 18 [.inr (2, none, (fw_M M t n B)), .inr (1, some (pt_i (to_F (pt_F (fw_M M t n B) 3 0 t))), (fw_M M t n B)), .inr (3, some (pt_i (cq_F (pt_A (fw_M M t n B) 12 t) (pt_A (fw_M M t n B) 13 t) N)), (fw_M M t n B)), .inl true, .inl true] (P := pt_Cal YX0_codeOf (.invokevirtual 15) [pt_r 5 0, pt_r 3 t] M none (fw_M M t n B) ∧ (t < 7) ∧ (t < 7) ∧ (t < 7) ∧ pt_Cal YX0_codeOf (.invokestatic 31) [pt_i (pt_F (fw_M M t n B) 3 0 t)] (fw_M M t n B) (some (pt_i (to_F (pt_F (fw_M M t n B) 3 0 t)))) (fw_M M t n B) ∧ pt_Cal YX0_codeOf (.invokestatic 35) [pt_r 12 t, pt_r 13 t, pt_i (to_F (pt_F (fw_M M t n B) 3 0 t))] (fw_M M t n B) (some (pt_i (cq_F (pt_A (fw_M M t n B) 12 t) (pt_A (fw_M M t n B) 13 t) N))) (fw_M M t n B) ∧ (0 < (cq_F (pt_A (fw_M M t n B) 12 t) (pt_A (fw_M M t n B) 13 t) N)) ∧ ((0 : Int32) = (0 : Int32)) ∧ (t < 7) ∧ True) (by with_unfolding_all rfl) ⟨(pt_callV (i := 0) kX0_codeOf_15 mX0_findFirstRows rfl (by decide) rfl (dX0_findFirstRows h1)), h2, h2, h2, (pt_callN (h := "PointTables") (idx := 31) (fun _ z => z.1) kX0_codeOf_31 mX6_turnsOf rfl (dX6_turnsOf (pt_F (fw_M M t n B) 3 0 t) (fw_M M t n B))), (pt_callS kX0_codeOf_35 mX0_compareRows rfl (dX0_cmp_A h2 h3)), h4, (by decide), h2, trivial⟩
theorem fw_ke {M : pt_M} {t n : Nat} {B : Nat → Nat → Nat → Bool} (hn : n ≤ 10) : (∀ k f i, ¬ (k = 3 ∧ f = 3) → pt_F (fw_M M t n B) k f i = pt_F M k f i) ∧ (∀ k i, k ≠ 12 → k ≠ 13 → k ≠ 15 → pt_A (fw_M M t n B) k i = pt_A M k i) ∧ ((∀ i, i < 10 → pt_in (pt_A M 15 0 i) 10) → ∀ i, i < 10 → pt_in (pt_A (fw_M M t n B) 15 0 i) 10) ∧ (fw_M M t n B).2.2 = M.2.2 := by
  have hk1 : ke_P M (fr_M M 12 t n B false n) := fr_ke (by decide) hn n (Nat.le_refl n)
  have hk2 : ke_P M (fr_M (fr_M M 12 t n B false n) 13 t n B true n) := hk1.tr (fr_ke (by decide) hn n (Nat.le_refl n))
  unfold fw_M
  split
  · refine ⟨fun k f i h => ?_, hk2.2.1, hk2.2.2.1, hk2.2.2.2⟩
    rw [pt_F_wF, if_neg (fun z => h ⟨z.1, z.2.1⟩), hk2.1]
  · exact ⟨fun _ _ _ _ => rfl, fun _ _ _ _ _ => rfl, fun h => h, rfl⟩
theorem dX0_codeOf_own {t n : Nat} {B : Nat → Nat → Nat → Bool} {M : pt_M} (h : fr_H M t n B) (hc : ¬ 0 < cq_F (pt_A (fw_M M t n B) 12 t) (pt_A (fw_M M t n B) 13 t) (rk_0 n n)) : pt_Does yX0_codeOf YX0_codeOf [pt_r 5 0, pt_r 3 t] M (some (pt_r 12 t)) (fw_M M t n B) := by
  have hk := fw_ke (M := M) (t := t) (B := B) h.1.2.1
  have hs : pt_F (fw_M M t n B) 3 0 t = nI n := by rw [hk.1 3 0 t (by decide)]; exact h.1.2.2.1
  exact rX0_codeOf_47 (Nat.le_of_ble_eq_true rfl) (by rw [hk.2.2.2]) (gX0_codeOf_0_1 t n (rk_0 n n) B M h h.1.1 (by rw [hs]; exact to_nI h.1.2.1) hc)
theorem dX0_codeOf_mir {t n : Nat} {B : Nat → Nat → Nat → Bool} {M : pt_M} (h : fr_H M t n B) (hc : 0 < cq_F (pt_A (fw_M M t n B) 12 t) (pt_A (fw_M M t n B) 13 t) (rk_0 n n)) : pt_Does yX0_codeOf YX0_codeOf [pt_r 5 0, pt_r 3 t] M (some (pt_r 13 t)) (fw_M M t n B) := by
  have hk := fw_ke (M := M) (t := t) (B := B) h.1.2.1
  have hs : pt_F (fw_M M t n B) 3 0 t = nI n := by rw [hk.1 3 0 t (by decide)]; exact h.1.2.2.1
  exact rX0_codeOf_47 (Nat.le_of_ble_eq_true rfl) (by rw [hk.2.2.2]) (gX0_codeOf_0_2 t n (rk_0 n n) B M h h.1.1 (by rw [hs]; exact to_nI h.1.2.1) hc)
/-! a row as a number -/
def bt_F (f : Nat → Int32) : Nat → Nat
  | 0 => 0
  | p + 1 => if f p = 2 then bt_F f p * 2 ^ 1 ||| 1 else bt_F f p * 2 ^ 1
theorem bt_lt (f : Nat → Int32) : ∀ p, bt_F f p < 2 ^ p
  | 0 => Nat.one_pos
  | p + 1 => by
    have ih := bt_lt f p
    have h1 : bt_F f p * 2 ^ 1 < 2 ^ (p + 1) := by rw [Nat.pow_succ]; omega
    show (if f p = 2 then bt_F f p * 2 ^ 1 ||| 1 else bt_F f p * 2 ^ 1) < _
    split
    · exact Nat.or_lt_two_pow h1 (Nat.one_lt_two_pow (by omega))
    · exact h1
theorem rX0_bitsOf_39 {vs : List pt_V} {M M' : pt_M} {x : Int32} {L : List (Nat × pt_V)} (hvs : (vs.map pt_w).sum ≤ 4) (hX : M'.2.2.2.2 = M.2.2.2.2) (h : pt_Go YX0_bitsOf (0, pt_en 0 vs, [], M) (39, L, [pt_i x], M')) : pt_Does yX0_bitsOf YX0_bitsOf vs M (some (pt_i x)) M' := pt_does_go tX0_bitsOf_ok nX0_bitsOf hvs hX ⟨_, by with_unfolding_all rfl, rfl, _, rfl, rfl⟩ h
set_option maxRecDepth 100000 in
theorem gX0_bitsOf12_0_1 (t : Nat) (x : Int32)  (M : pt_M) :
    pt_Go YX0_bitsOf (0, [(0, pt_r 12 t), (1, pt_i x)], [], M)
      (4, [(0, pt_r 12 t), (1, pt_i x), (2, pt_i 0), (3, pt_i 0)], [], M) :=
  pt_run_ok tX0_bitsOf_ok 4 [] (P := True) (by with_unfolding_all rfl) trivial
set_option maxRecDepth 100000 in
theorem gX0_bitsOf12_4_1 (t : Nat) (l1 : Int32) (l2 : Int32) (l3 : Int32)  (M : pt_M) (h1 : ¬ l1 ≤ l3) (h2 : t < 7) (h3 : ¬ (nI 120) ≤ l3) (h4 : pt_in l3 120) (h5 : (pt_A M 12 t (pt_nt l3)) = 2) :
    pt_Go YX0_bitsOf (4, [(0, pt_r 12 t), (1, pt_i l1), (2, pt_i l2), (3, pt_i l3)], [], M)
      (4, [(0, pt_r 12 t), (1, pt_i l1), (2, pt_i ((l2 <<< ((1 : Int32) &&& 31)) ||| 1)), (3, pt_i (l3 + 1))], [], M) :=
  pt_run_ok tX0_bitsOf_ok 21 [.inl false, .inl false, .inl false] (P := (¬ l1 ≤ l3) ∧ (t < 7) ∧ (¬ (nI 120) ≤ l3) ∧ ((pt_in l3 120) ∧ (t < 7)) ∧ ((pt_A M 12 t (pt_nt l3)) = 2) ∧ True) (by with_unfolding_all rfl) ⟨h1, h2, h3, ⟨h4, h2⟩, h5, trivial⟩
set_option maxRecDepth 100000 in
theorem gX0_bitsOf12_4_2 (t : Nat) (l1 : Int32) (l2 : Int32) (l3 : Int32)  (M : pt_M) (h1 : ¬ l1 ≤ l3) (h2 : t < 7) (h3 : ¬ (nI 120) ≤ l3) (h4 : pt_in l3 120) (h5 : ¬ (pt_A M 12 t (pt_nt l3)) = 2) :
    pt_Go YX0_bitsOf (4, [(0, pt_r 12 t), (1, pt_i l1), (2, pt_i l2), (3, pt_i l3)], [], M)
      (4, [(0, pt_r 12 t), (1, pt_i l1), (2, pt_i ((l2 <<< ((1 : Int32) &&& 31)) ||| 0)), (3, pt_i (l3 + 1))], [], M) :=
  pt_run_ok tX0_bitsOf_ok 20 [.inl false, .inl false, .inl true] (P := (¬ l1 ≤ l3) ∧ (t < 7) ∧ (¬ (nI 120) ≤ l3) ∧ ((pt_in l3 120) ∧ (t < 7)) ∧ (¬ (pt_A M 12 t (pt_nt l3)) = 2) ∧ True) (by with_unfolding_all rfl) ⟨h1, h2, h3, ⟨h4, h2⟩, h5, trivial⟩
set_option maxRecDepth 100000 in
theorem gX0_bitsOf12_4_3 (t : Nat) (l1 : Int32) (l2 : Int32) (l3 : Int32)  (M : pt_M) (h1 : ¬ l1 ≤ l3) (h2 : t < 7) (h3 : (nI 120) ≤ l3) :
    pt_Go YX0_bitsOf (4, [(0, pt_r 12 t), (1, pt_i l1), (2, pt_i l2), (3, pt_i l3)], [], M)
      (39, [(0, pt_r 12 t), (1, pt_i l1), (2, pt_i l2), (3, pt_i l3)], [pt_i l2], M) :=
  pt_run_ok tX0_bitsOf_ok 8 [.inl false, .inl true] (P := (¬ l1 ≤ l3) ∧ (t < 7) ∧ ((nI 120) ≤ l3) ∧ True) (by with_unfolding_all rfl) ⟨h1, h2, h3, trivial⟩
set_option maxRecDepth 100000 in
theorem gX0_bitsOf12_4_4 (t : Nat) (l1 : Int32) (l2 : Int32) (l3 : Int32)  (M : pt_M) (h1 : l1 ≤ l3) :
    pt_Go YX0_bitsOf (4, [(0, pt_r 12 t), (1, pt_i l1), (2, pt_i l2), (3, pt_i l3)], [], M)
      (39, [(0, pt_r 12 t), (1, pt_i l1), (2, pt_i l2), (3, pt_i l3)], [pt_i l2], M) :=
  pt_run_ok tX0_bitsOf_ok 4 [.inl true] (P := (l1 ≤ l3) ∧ True) (by with_unfolding_all rfl) ⟨h1, trivial⟩
theorem dX0_bitsOf_12 {t N : Nat} {M : pt_M} (ht : t < 7) (hN : N ≤ 20) : pt_Does yX0_bitsOf YX0_bitsOf [pt_r 12 t, pt_i (nI N)] M (some (pt_i (nI (bt_F (pt_A M 12 t) N)))) M := by
  have K := pt_for0 (Y := YX0_bitsOf) (fun p => (4, [(0, pt_r 12 t), (1, pt_i (nI N)), (2, pt_i (nI (bt_F (pt_A M 12 t) p))), (3, pt_i (nI p))], [], M)) (n := N) fun p hp => by
    have e : pt_nt (nI p) = p := pt_nt_nI (by omega)
    have hb := bt_lt (pt_A M 12 t) p
    have h2 : 2 ^ p ≤ 2 ^ 20 := Nat.pow_le_pow_right (by decide) (by omega)
    have h3 : nI (bt_F (pt_A M 12 t) p) <<< ((1 : Int32) &&& 31) = nI (bt_F (pt_A M 12 t) p * 2 ^ 1) := pt_shl _ 1 (by decide) (by omega)
    by_cases hv : pt_A M 12 t p = 2
    · refine (gX0_bitsOf12_4_1 t (nI N) (nI (bt_F (pt_A M 12 t) p)) (nI p) M (nI_ge hp (by omega)) ht (nI_ge (by omega) (by decide)) (pt_in_nI (by omega) (by decide)) (by rw [e]; exact hv)).to ?_
      have h4 : bt_F (pt_A M 12 t) (p + 1) = bt_F (pt_A M 12 t) p * 2 ^ 1 ||| 1 := by
        show (if _ then _ else _) = _
        rw [if_pos hv]
      rw [h3, show (1 : Int32) = nI 1 from rfl, pt_or, nI_add, h4]
    · refine (gX0_bitsOf12_4_2 t (nI N) (nI (bt_F (pt_A M 12 t) p)) (nI p) M (nI_ge hp (by omega)) ht (nI_ge (by omega) (by decide)) (pt_in_nI (by omega) (by decide)) (by rw [e]; exact hv)).to ?_
      have h4 : bt_F (pt_A M 12 t) (p + 1) = bt_F (pt_A M 12 t) p * 2 ^ 1 := by
        show (if _ then _ else _) = _
        rw [if_neg hv]
      rw [h3, show (0 : Int32) = nI 0 from rfl, pt_or, Nat.or_zero, nI_1, h4]
  exact rX0_bitsOf_39 (Nat.le_of_ble_eq_true rfl) rfl ((gX0_bitsOf12_0_1 t (nI N) M).tr (K.tr (gX0_bitsOf12_4_4 t (nI N) _ (nI N) M (Int32.le_refl _))))
set_option maxRecDepth 100000 in
theorem gX0_bitsOf13_0_1 (t : Nat) (x : Int32)  (M : pt_M) :
    pt_Go YX0_bitsOf (0, [(0, pt_r 13 t), (1, pt_i x)], [], M)
      (4, [(0, pt_r 13 t), (1, pt_i x), (2, pt_i 0), (3, pt_i 0)], [], M) :=
  pt_run_ok tX0_bitsOf_ok 4 [] (P := True) (by with_unfolding_all rfl) trivial
set_option maxRecDepth 100000 in
theorem gX0_bitsOf13_4_1 (t : Nat) (l1 : Int32) (l2 : Int32) (l3 : Int32)  (M : pt_M) (h1 : ¬ l1 ≤ l3) (h2 : t < 7) (h3 : ¬ (nI 120) ≤ l3) (h4 : pt_in l3 120) (h5 : (pt_A M 13 t (pt_nt l3)) = 2) :
    pt_Go YX0_bitsOf (4, [(0, pt_r 13 t), (1, pt_i l1), (2, pt_i l2), (3, pt_i l3)], [], M)
      (4, [(0, pt_r 13 t), (1, pt_i l1), (2, pt_i ((l2 <<< ((1 : Int32) &&& 31)) ||| 1)), (3, pt_i (l3 + 1))], [], M) :=
  pt_run_ok tX0_bitsOf_ok 21 [.inl false, .inl false, .inl false] (P := (¬ l1 ≤ l3) ∧ (t < 7) ∧ (¬ (nI 120) ≤ l3) ∧ ((pt_in l3 120) ∧ (t < 7)) ∧ ((pt_A M 13 t (pt_nt l3)) = 2) ∧ True) (by with_unfolding_all rfl) ⟨h1, h2, h3, ⟨h4, h2⟩, h5, trivial⟩
set_option maxRecDepth 100000 in
theorem gX0_bitsOf13_4_2 (t : Nat) (l1 : Int32) (l2 : Int32) (l3 : Int32)  (M : pt_M) (h1 : ¬ l1 ≤ l3) (h2 : t < 7) (h3 : ¬ (nI 120) ≤ l3) (h4 : pt_in l3 120) (h5 : ¬ (pt_A M 13 t (pt_nt l3)) = 2) :
    pt_Go YX0_bitsOf (4, [(0, pt_r 13 t), (1, pt_i l1), (2, pt_i l2), (3, pt_i l3)], [], M)
      (4, [(0, pt_r 13 t), (1, pt_i l1), (2, pt_i ((l2 <<< ((1 : Int32) &&& 31)) ||| 0)), (3, pt_i (l3 + 1))], [], M) :=
  pt_run_ok tX0_bitsOf_ok 20 [.inl false, .inl false, .inl true] (P := (¬ l1 ≤ l3) ∧ (t < 7) ∧ (¬ (nI 120) ≤ l3) ∧ ((pt_in l3 120) ∧ (t < 7)) ∧ (¬ (pt_A M 13 t (pt_nt l3)) = 2) ∧ True) (by with_unfolding_all rfl) ⟨h1, h2, h3, ⟨h4, h2⟩, h5, trivial⟩
set_option maxRecDepth 100000 in
theorem gX0_bitsOf13_4_3 (t : Nat) (l1 : Int32) (l2 : Int32) (l3 : Int32)  (M : pt_M) (h1 : ¬ l1 ≤ l3) (h2 : t < 7) (h3 : (nI 120) ≤ l3) :
    pt_Go YX0_bitsOf (4, [(0, pt_r 13 t), (1, pt_i l1), (2, pt_i l2), (3, pt_i l3)], [], M)
      (39, [(0, pt_r 13 t), (1, pt_i l1), (2, pt_i l2), (3, pt_i l3)], [pt_i l2], M) :=
  pt_run_ok tX0_bitsOf_ok 8 [.inl false, .inl true] (P := (¬ l1 ≤ l3) ∧ (t < 7) ∧ ((nI 120) ≤ l3) ∧ True) (by with_unfolding_all rfl) ⟨h1, h2, h3, trivial⟩
set_option maxRecDepth 100000 in
theorem gX0_bitsOf13_4_4 (t : Nat) (l1 : Int32) (l2 : Int32) (l3 : Int32)  (M : pt_M) (h1 : l1 ≤ l3) :
    pt_Go YX0_bitsOf (4, [(0, pt_r 13 t), (1, pt_i l1), (2, pt_i l2), (3, pt_i l3)], [], M)
      (39, [(0, pt_r 13 t), (1, pt_i l1), (2, pt_i l2), (3, pt_i l3)], [pt_i l2], M) :=
  pt_run_ok tX0_bitsOf_ok 4 [.inl true] (P := (l1 ≤ l3) ∧ True) (by with_unfolding_all rfl) ⟨h1, trivial⟩
theorem dX0_bitsOf_13 {t N : Nat} {M : pt_M} (ht : t < 7) (hN : N ≤ 20) : pt_Does yX0_bitsOf YX0_bitsOf [pt_r 13 t, pt_i (nI N)] M (some (pt_i (nI (bt_F (pt_A M 13 t) N)))) M := by
  have K := pt_for0 (Y := YX0_bitsOf) (fun p => (4, [(0, pt_r 13 t), (1, pt_i (nI N)), (2, pt_i (nI (bt_F (pt_A M 13 t) p))), (3, pt_i (nI p))], [], M)) (n := N) fun p hp => by
    have e : pt_nt (nI p) = p := pt_nt_nI (by omega)
    have hb := bt_lt (pt_A M 13 t) p
    have h2 : 2 ^ p ≤ 2 ^ 20 := Nat.pow_le_pow_right (by decide) (by omega)
    have h3 : nI (bt_F (pt_A M 13 t) p) <<< ((1 : Int32) &&& 31) = nI (bt_F (pt_A M 13 t) p * 2 ^ 1) := pt_shl _ 1 (by decide) (by omega)
    by_cases hv : pt_A M 13 t p = 2
    · refine (gX0_bitsOf13_4_1 t (nI N) (nI (bt_F (pt_A M 13 t) p)) (nI p) M (nI_ge hp (by omega)) ht (nI_ge (by omega) (by decide)) (pt_in_nI (by omega) (by decide)) (by rw [e]; exact hv)).to ?_
      have h4 : bt_F (pt_A M 13 t) (p + 1) = bt_F (pt_A M 13 t) p * 2 ^ 1 ||| 1 := by
        show (if _ then _ else _) = _
        rw [if_pos hv]
      rw [h3, show (1 : Int32) = nI 1 from rfl, pt_or, nI_add, h4]
    · refine (gX0_bitsOf13_4_2 t (nI N) (nI (bt_F (pt_A M 13 t) p)) (nI p) M (nI_ge hp (by omega)) ht (nI_ge (by omega) (by decide)) (pt_in_nI (by omega) (by decide)) (by rw [e]; exact hv)).to ?_
      have h4 : bt_F (pt_A M 13 t) (p + 1) = bt_F (pt_A M 13 t) p * 2 ^ 1 := by
        show (if _ then _ else _) = _
        rw [if_neg hv]
      rw [h3, show (0 : Int32) = nI 0 from rfl, pt_or, Nat.or_zero, nI_1, h4]
  exact rX0_bitsOf_39 (Nat.le_of_ble_eq_true rfl) rfl ((gX0_bitsOf13_0_1 t (nI N) M).tr (K.tr (gX0_bitsOf13_4_4 t (nI N) _ (nI N) M (Int32.le_refl _))))
end
section
/-! Sweeper -/
def og_F (M : pt_M) (p : Nat) : Nat := pt_nt (pt_A M 17 0 p)
def sg_F (M : pt_M) (p : Nat) : Nat := pt_nt (pt_A M 18 0 p)
/-- the order and the swaps of n points -/
def so_P (M : pt_M) (n : Nat) : Prop := ∀ p, p < n → pt_A M 17 0 p = nI (og_F M p) ∧ og_F M p < n ∧ pt_A M 18 0 p = nI (sg_F M p) ∧ sg_F M p < 1024
def bn_P (x : Int32) : Prop := ∃ n, x = nI n ∧ n ≤ 10
def sb_M (M : pt_M) (n : Nat) : pt_M := pt_wA (pt_wA M 17 0 fun p => if p < n then nI p else pt_A M 17 0 p) 18 0 fun p => if p < n then 0 else pt_A M 18 0 p
theorem pt_wA_comm (M : pt_M) {k k' i i' : Nat} (g g' : Nat → Int32) (h : k ≠ k') : pt_wA (pt_wA M k i g) k' i' g' = pt_wA (pt_wA M k' i' g') k i g := by
  unfold pt_wA
  congr 2
  funext a b
  dsimp only
  by_cases e1 : a = k ∧ b = i
  · have e2 : ¬ (a = k' ∧ b = i') := fun z => h (e1.1.symm.trans z.1)
    rw [if_neg e2, if_pos e1, if_pos e1]
  · rw [if_neg e1, if_neg e1]
theorem rX3_begin_27 {vs : List pt_V} {M M' : pt_M} {L : List (Nat × pt_V)} (hvs : (vs.map pt_w).sum ≤ 3) (hX : M'.2.2.2.2 = M.2.2.2.2) (h : pt_Go YX3_begin (0, pt_en 0 vs, [], M) (27, L, [], M')) : pt_Does yX3_begin YX3_begin vs M none M' := pt_does_go tX3_begin_ok nX3_begin hvs hX ⟨_, by with_unfolding_all rfl, rfl, rfl⟩ h
set_option maxRecDepth 100000 in
theorem gX3_begin_0_1 (x1 : Int32)  (M : pt_M) :
    pt_Go YX3_begin (0, [(0, pt_r 6 0), (1, pt_i x1)], [], M)
      (2, [(0, pt_r 6 0), (1, pt_i x1), (2, pt_i 0)], [], M) :=
  pt_run_ok tX3_begin_ok 2 [] (P := True) (by with_unfolding_all rfl) trivial
set_option maxRecDepth 100000 in
theorem gX3_begin_2_1 (l1 : Int32) (l2 : Int32)  (M : pt_M) (h1 : ¬ l1 ≤ l2) (h2 : pt_in l2 10) :
    pt_Go YX3_begin (2, [(0, pt_r 6 0), (1, pt_i l1), (2, pt_i l2)], [], M)
      (2, [(0, pt_r 6 0), (1, pt_i l1), (2, pt_i (l2 + 1))], [], (pt_wA (pt_wA M 17 0 (upd (pt_A M 17 0) (pt_nt l2) l2)) 18 0 (upd (pt_A (pt_wA M 17 0 (upd (pt_A M 17 0) (pt_nt l2) l2)) 18 0) (pt_nt l2) 0))) :=
  pt_run_ok tX3_begin_ok 15 [.inl false] (P := (¬ l1 ≤ l2) ∧ (pt_in l2 10) ∧ (pt_in l2 10) ∧ True) (by with_unfolding_all rfl) ⟨h1, h2, h2, trivial⟩
set_option maxRecDepth 100000 in
theorem gX3_begin_2_2 (l1 : Int32) (l2 : Int32)  (M : pt_M) (h1 : l1 ≤ l2) :
    pt_Go YX3_begin (2, [(0, pt_r 6 0), (1, pt_i l1), (2, pt_i l2)], [], M)
      (27, [(0, pt_r 6 0), (1, pt_i l1), (2, pt_i l2)], [], M) :=
  pt_run_ok tX3_begin_ok 3 [.inl true] (P := (l1 ≤ l2) ∧ True) (by with_unfolding_all rfl) ⟨h1, trivial⟩
theorem sb_zero (M : pt_M) : sb_M M 0 = M := by
  unfold sb_M
  have e1 : (fun p => if p < 0 then nI p else pt_A M 17 0 p) = pt_A M 17 0 := by
    funext p
    rw [if_neg (Nat.not_lt_zero p)]
  have e2 : (fun p => if p < 0 then (0 : Int32) else pt_A M 18 0 p) = pt_A M 18 0 := by
    funext p
    rw [if_neg (Nat.not_lt_zero p)]
  rw [e1, e2, pt_wA_self, pt_wA_self]
theorem fill_up {f : Nat → Int32} {g : Nat → Int32} {p : Nat} : upd (fun q => if q < p then g q else f q) p (g p) = fun q => if q < p + 1 then g q else f q := co_step f g p
theorem dX3_begin {x : Int32} {M : pt_M} (h : bn_P x) : pt_Does yX3_begin YX3_begin [pt_r 6 0, pt_i x] M none (sb_M M (pt_nt x)) := by
  obtain ⟨n, rfl, hn⟩ := h
  rw [pt_nt_nI (by omega)]
  have K := pt_for0 (Y := YX3_begin) (fun p => (2, [(0, pt_r 6 0), (1, pt_i (nI n)), (2, pt_i (nI p))], [], sb_M M p)) (n := n) fun p hp => by
    refine (gX3_begin_2_1 (nI n) (nI p) (sb_M M p) (nI_ge hp (by omega)) (pt_in_nI (by omega) (by decide))).to ?_
    have e : pt_nt (nI p) = p := pt_nt_nI (by omega)
    rw [nI_1, e]
    congr 3
    have a17 : pt_A (sb_M M p) 17 0 = fun q => if q < p then nI q else pt_A M 17 0 q := rfl
    have a18 : ∀ g, pt_A (pt_wA (sb_M M p) 17 0 g) 18 0 = fun q => if q < p then 0 else pt_A M 18 0 q := fun g => rfl
    rw [a17, a18, fill_up (g := nI), fill_up (g := fun _ => 0)]
    unfold sb_M
    rw [pt_wA_comm _ _ _ (show (18 : Nat) ≠ 17 by decide), pt_wA_wA, pt_wA_wA]
  exact rX3_begin_27 (Nat.le_of_ble_eq_true rfl) rfl (((gX3_begin_0_1 (nI n) M).toM (sb_zero M).symm).tr (K.tr (gX3_begin_2_2 (nI n) (nI n) _ (Int32.le_refl _))))
/-- two neighbours change places -/
def sa_M (M : pt_M) (x : Int32) : pt_M :=
  pt_wA (pt_wA M 18 0 (upd (upd (pt_A M 18 0) (pt_nt (pt_A M 17 0 (pt_nt x))) (pt_A M 18 0 (pt_nt (pt_A M 17 0 (pt_nt x))) ||| ((1 : Int32) <<< (pt_A M 17 0 (pt_nt (x + 1)) &&& 31)))) (pt_nt (pt_A M 17 0 (pt_nt (x + 1))))
    (upd (pt_A M 18 0) (pt_nt (pt_A M 17 0 (pt_nt x))) (pt_A M 18 0 (pt_nt (pt_A M 17 0 (pt_nt x))) ||| ((1 : Int32) <<< (pt_A M 17 0 (pt_nt (x + 1)) &&& 31))) (pt_nt (pt_A M 17 0 (pt_nt (x + 1)))) ||| ((1 : Int32) <<< (pt_A M 17 0 (pt_nt x) &&& 31)))))
    17 0 (upd (upd (pt_A M 17 0) (pt_nt x) (pt_A M 17 0 (pt_nt (x + 1)))) (pt_nt (x + 1)) (pt_A M 17 0 (pt_nt x)))
def sa_H (M : pt_M) (x : Int32) : Prop := pt_in x 10 ∧ pt_in (x + 1) 10 ∧ pt_in (pt_A M 17 0 (pt_nt x)) 10 ∧ pt_in (pt_A M 17 0 (pt_nt (x + 1))) 10
theorem rX3_swapAt_56 {vs : List pt_V} {M M' : pt_M} {L : List (Nat × pt_V)} (hvs : (vs.map pt_w).sum ≤ 4) (hX : M'.2.2.2.2 = M.2.2.2.2) (h : pt_Go YX3_swapAt (0, pt_en 0 vs, [], M) (56, L, [], M')) : pt_Does yX3_swapAt YX3_swapAt vs M none M' := pt_does_go tX3_swapAt_ok nX3_swapAt hvs hX ⟨_, by with_unfolding_all rfl, rfl, rfl⟩ h
set_option maxRecDepth 100000 in
theorem gX3_swapAt_0_1 (x1 : Int32)  (M : pt_M) (h1 : pt_in x1 10) (h2 : pt_in (x1 + 1) 10) (h3 : pt_in (pt_A M 17 0 (pt_nt x1)) 10) (h4 : pt_in (pt_A M 17 0 (pt_nt (x1 + 1))) 10) :
    pt_Go YX3_swapAt (0, [(0, pt_r 6 0), (1, pt_i x1)], [], M)
      (56, [(0, pt_r 6 0), (1, pt_i x1), (2, pt_i (pt_A M 17 0 (pt_nt x1))), (3, pt_i (pt_A M 17 0 (pt_nt (x1 + 1))))], [], (pt_wA (pt_wA (pt_wA (pt_wA M 18 0 (upd (pt_A M 18 0) (pt_nt (pt_A M 17 0 (pt_nt x1))) ((pt_A M 18 0 (pt_nt (pt_A M 17 0 (pt_nt x1)))) ||| ((1 : Int32) <<< ((pt_A M 17 0 (pt_nt (x1 + 1))) &&& 31))))) 18 0 (upd (pt_A (pt_wA M 18 0 (upd (pt_A M 18 0) (pt_nt (pt_A M 17 0 (pt_nt x1))) ((pt_A M 18 0 (pt_nt (pt_A M 17 0 (pt_nt x1)))) ||| ((1 : Int32) <<< ((pt_A M 17 0 (pt_nt (x1 + 1))) &&& 31))))) 18 0) (pt_nt (pt_A M 17 0 (pt_nt (x1 + 1)))) ((pt_A (pt_wA M 18 0 (upd (pt_A M 18 0) (pt_nt (pt_A M 17 0 (pt_nt x1))) ((pt_A M 18 0 (pt_nt (pt_A M 17 0 (pt_nt x1)))) ||| ((1 : Int32) <<< ((pt_A M 17 0 (pt_nt (x1 + 1))) &&& 31))))) 18 0 (pt_nt (pt_A M 17 0 (pt_nt (x1 + 1))))) ||| ((1 : Int32) <<< ((pt_A M 17 0 (pt_nt x1)) &&& 31))))) 17 0 (upd (pt_A (pt_wA (pt_wA M 18 0 (upd (pt_A M 18 0) (pt_nt (pt_A M 17 0 (pt_nt x1))) ((pt_A M 18 0 (pt_nt (pt_A M 17 0 (pt_nt x1)))) ||| ((1 : Int32) <<< ((pt_A M 17 0 (pt_nt (x1 + 1))) &&& 31))))) 18 0 (upd (pt_A (pt_wA M 18 0 (upd (pt_A M 18 0) (pt_nt (pt_A M 17 0 (pt_nt x1))) ((pt_A M 18 0 (pt_nt (pt_A M 17 0 (pt_nt x1)))) ||| ((1 : Int32) <<< ((pt_A M 17 0 (pt_nt (x1 + 1))) &&& 31))))) 18 0) (pt_nt (pt_A M 17 0 (pt_nt (x1 + 1)))) ((pt_A (pt_wA M 18 0 (upd (pt_A M 18 0) (pt_nt (pt_A M 17 0 (pt_nt x1))) ((pt_A M 18 0 (pt_nt (pt_A M 17 0 (pt_nt x1)))) ||| ((1 : Int32) <<< ((pt_A M 17 0 (pt_nt (x1 + 1))) &&& 31))))) 18 0 (pt_nt (pt_A M 17 0 (pt_nt (x1 + 1))))) ||| ((1 : Int32) <<< ((pt_A M 17 0 (pt_nt x1)) &&& 31))))) 17 0) (pt_nt x1) (pt_A M 17 0 (pt_nt (x1 + 1))))) 17 0 (upd (pt_A (pt_wA (pt_wA (pt_wA M 18 0 (upd (pt_A M 18 0) (pt_nt (pt_A M 17 0 (pt_nt x1))) ((pt_A M 18 0 (pt_nt (pt_A M 17 0 (pt_nt x1)))) ||| ((1 : Int32) <<< ((pt_A M 17 0 (pt_nt (x1 + 1))) &&& 31))))) 18 0 (upd (pt_A (pt_wA M 18 0 (upd (pt_A M 18 0) (pt_nt (pt_A M 17 0 (pt_nt x1))) ((pt_A M 18 0 (pt_nt (pt_A M 17 0 (pt_nt x1)))) ||| ((1 : Int32) <<< ((pt_A M 17 0 (pt_nt (x1 + 1))) &&& 31))))) 18 0) (pt_nt (pt_A M 17 0 (pt_nt (x1 + 1)))) ((pt_A (pt_wA M 18 0 (upd (pt_A M 18 0) (pt_nt (pt_A M 17 0 (pt_nt x1))) ((pt_A M 18 0 (pt_nt (pt_A M 17 0 (pt_nt x1)))) ||| ((1 : Int32) <<< ((pt_A M 17 0 (pt_nt (x1 + 1))) &&& 31))))) 18 0 (pt_nt (pt_A M 17 0 (pt_nt (x1 + 1))))) ||| ((1 : Int32) <<< ((pt_A M 17 0 (pt_nt x1)) &&& 31))))) 17 0 (upd (pt_A (pt_wA (pt_wA M 18 0 (upd (pt_A M 18 0) (pt_nt (pt_A M 17 0 (pt_nt x1))) ((pt_A M 18 0 (pt_nt (pt_A M 17 0 (pt_nt x1)))) ||| ((1 : Int32) <<< ((pt_A M 17 0 (pt_nt (x1 + 1))) &&& 31))))) 18 0 (upd (pt_A (pt_wA M 18 0 (upd (pt_A M 18 0) (pt_nt (pt_A M 17 0 (pt_nt x1))) ((pt_A M 18 0 (pt_nt (pt_A M 17 0 (pt_nt x1)))) ||| ((1 : Int32) <<< ((pt_A M 17 0 (pt_nt (x1 + 1))) &&& 31))))) 18 0) (pt_nt (pt_A M 17 0 (pt_nt (x1 + 1)))) ((pt_A (pt_wA M 18 0 (upd (pt_A M 18 0) (pt_nt (pt_A M 17 0 (pt_nt x1))) ((pt_A M 18 0 (pt_nt (pt_A M 17 0 (pt_nt x1)))) ||| ((1 : Int32) <<< ((pt_A M 17 0 (pt_nt (x1 + 1))) &&& 31))))) 18 0 (pt_nt (pt_A M 17 0 (pt_nt (x1 + 1))))) ||| ((1 : Int32) <<< ((pt_A M 17 0 (pt_nt x1)) &&& 31))))) 17 0) (pt_nt x1) (pt_A M 17 0 (pt_nt (x1 + 1))))) 17 0) (pt_nt (x1 + 1)) (pt_A M 17 0 (pt_nt x1))))) :=
  pt_run_ok tX3_swapAt_ok 44 [] (P := (pt_in x1 10) ∧ (pt_in (x1 + 1) 10) ∧ (pt_in (pt_A M 17 0 (pt_nt x1)) 10) ∧ (pt_in (pt_A M 17 0 (pt_nt x1)) 10) ∧ (pt_in (pt_A M 17 0 (pt_nt (x1 + 1))) 10) ∧ (pt_in (pt_A M 17 0 (pt_nt (x1 + 1))) 10) ∧ (pt_in x1 10) ∧ (pt_in (x1 + 1) 10) ∧ True) (by with_unfolding_all rfl) ⟨h1, h2, h3, h3, h4, h4, h1, h2, trivial⟩
theorem dX3_swapAt {x : Int32} {M : pt_M} (h : sa_H M x) : pt_Does yX3_swapAt YX3_swapAt [pt_r 6 0, pt_i x] M none (sa_M M x) := by
  refine rX3_swapAt_56 (Nat.le_of_ble_eq_true rfl) rfl ((gX3_swapAt_0_1 x M h.1 h.2.1 h.2.2.1 h.2.2.2).toM ?_)
  unfold sa_M
  simp only [pt_wA_wA, pt_A_wA]
  rfl
def sw_F (M : pt_M) (a c : Int32) : Int32 := if (((pt_A M 18 0 (pt_nt a)) >>> (c &&& 31)) &&& 1) = 1 then 1 else 0
theorem rX3_areSwapped_19 {vs : List pt_V} {M M' : pt_M} {x : Int32} {L : List (Nat × pt_V)} (hn : narrow .boolean (.int x) = .int x) (hvs : (vs.map pt_w).sum ≤ 3) (hX : M'.2.2.2.2 = M.2.2.2.2) (h : pt_Go YX3_areSwapped (0, pt_en 0 vs, [], M) (19, L, [pt_i x], M')) : pt_Does yX3_areSwapped YX3_areSwapped vs M (some (pt_i x)) M' := pt_does_go tX3_areSwapped_ok nX3_areSwapped hvs hX ⟨_, by with_unfolding_all rfl, rfl, _, rfl, hn⟩ h
set_option maxRecDepth 100000 in
theorem gX3_areSwapped_0_1 (x1 : Int32) (x2 : Int32)  (M : pt_M) (h1 : pt_in x1 10) (h2 : (((pt_A M 18 0 (pt_nt x1)) >>> (x2 &&& 31)) &&& 1) = 1) :
    pt_Go YX3_areSwapped (0, [(0, pt_r 6 0), (1, pt_i x1), (2, pt_i x2)], [], M)
      (19, [(0, pt_r 6 0), (1, pt_i x1), (2, pt_i x2)], [pt_i 1], M) :=
  pt_run_ok tX3_areSwapped_ok 12 [.inl false] (P := (pt_in x1 10) ∧ ((((pt_A M 18 0 (pt_nt x1)) >>> (x2 &&& 31)) &&& 1) = 1) ∧ True) (by with_unfolding_all rfl) ⟨h1, h2, trivial⟩
set_option maxRecDepth 100000 in
theorem gX3_areSwapped_0_2 (x1 : Int32) (x2 : Int32)  (M : pt_M) (h1 : pt_in x1 10) (h2 : ¬ (((pt_A M 18 0 (pt_nt x1)) >>> (x2 &&& 31)) &&& 1) = 1) :
    pt_Go YX3_areSwapped (0, [(0, pt_r 6 0), (1, pt_i x1), (2, pt_i x2)], [], M)
      (19, [(0, pt_r 6 0), (1, pt_i x1), (2, pt_i x2)], [pt_i 0], M) :=
  pt_run_ok tX3_areSwapped_ok 11 [.inl true] (P := (pt_in x1 10) ∧ (¬ (((pt_A M 18 0 (pt_nt x1)) >>> (x2 &&& 31)) &&& 1) = 1) ∧ True) (by with_unfolding_all rfl) ⟨h1, h2, trivial⟩
theorem dX3_areSwapped {a c : Int32} {M : pt_M} (ha : pt_in a 10) : pt_Does yX3_areSwapped YX3_areSwapped [pt_r 6 0, pt_i a, pt_i c] M (some (pt_i (sw_F M a c))) M := by
  unfold sw_F
  by_cases h : (((pt_A M 18 0 (pt_nt a)) >>> (c &&& 31)) &&& 1) = 1
  · rw [if_pos h]
    exact rX3_areSwapped_19 rfl (Nat.le_of_ble_eq_true rfl) rfl (gX3_areSwapped_0_1 a c M ha h)
  · rw [if_neg h]
    exact rX3_areSwapped_19 rfl (Nat.le_of_ble_eq_true rfl) rfl (gX3_areSwapped_0_2 a c M ha h)
def dw_P (M : pt_M) (t : Nat) (a b c : Int32) : Prop := (¬ a ≤ c ∧ (sw_F M a c) = (lb_F M t c a b) ∧ (sw_F M b c) = (lb_F M t c a b)) ∨ (a ≤ c ∧ ¬ b ≤ c ∧ (sw_F M a c) = (lb_F M t a c b) ∧ ¬ (sw_F M b c) = (lb_F M t a c b)) ∨ (a ≤ c ∧ b ≤ c ∧ ¬ (sw_F M a c) = (lb_F M t a b c) ∧ ¬ (sw_F M b c) = (lb_F M t a b c))
theorem rX3_isDueWith_53 {vs : List pt_V} {M M' : pt_M} {x : Int32} {L : List (Nat × pt_V)} (hn : narrow .boolean (.int x) = .int x) (hvs : (vs.map pt_w).sum ≤ 8) (hX : M'.2.2.2.2 = M.2.2.2.2) (h : pt_Go YX3_isDueWith (0, pt_en 0 vs, [], M) (53, L, [pt_i x], M')) : pt_Does yX3_isDueWith YX3_isDueWith vs M (some (pt_i x)) M' := pt_does_go tX3_isDueWith_ok nX3_isDueWith hvs hX ⟨_, by with_unfolding_all rfl, rfl, _, rfl, hn⟩ h
theorem rX3_isDueWith_89 {vs : List pt_V} {M M' : pt_M} {x : Int32} {L : List (Nat × pt_V)} (hn : narrow .boolean (.int x) = .int x) (hvs : (vs.map pt_w).sum ≤ 8) (hX : M'.2.2.2.2 = M.2.2.2.2) (h : pt_Go YX3_isDueWith (0, pt_en 0 vs, [], M) (89, L, [pt_i x], M')) : pt_Does yX3_isDueWith YX3_isDueWith vs M (some (pt_i x)) M' := pt_does_go tX3_isDueWith_ok nX3_isDueWith hvs hX ⟨_, by with_unfolding_all rfl, rfl, _, rfl, hn⟩ h
theorem rX3_isDueWith_119 {vs : List pt_V} {M M' : pt_M} {x : Int32} {L : List (Nat × pt_V)} (hn : narrow .boolean (.int x) = .int x) (hvs : (vs.map pt_w).sum ≤ 8) (hX : M'.2.2.2.2 = M.2.2.2.2) (h : pt_Go YX3_isDueWith (0, pt_en 0 vs, [], M) (119, L, [pt_i x], M')) : pt_Does yX3_isDueWith YX3_isDueWith vs M (some (pt_i x)) M' := pt_does_go tX3_isDueWith_ok nX3_isDueWith hvs hX ⟨_, by with_unfolding_all rfl, rfl, _, rfl, hn⟩ h
set_option maxRecDepth 100000 in
theorem gX3_isDueWith_0_1 (t : Nat) (a : Int32) (b : Int32) (c : Int32)  (M : pt_M) (h1 : pt_in a 10) (h2 : pt_in b 10) (h3 : ¬ a ≤ c) (h4 : t < 7) (h5 : pt_in c 10) (h6 : (sw_F M a c) = (lb_F M t c a b)) (h7 : (sw_F M b c) = (lb_F M t c a b)) :
    pt_Go YX3_isDueWith (0, [(0, pt_r 6 0), (1, pt_r 3 t), (2, pt_i a), (3, pt_i b), (4, pt_i c)], [], M)
      (53, [(0, pt_r 6 0), (1, pt_r 3 t), (2, pt_i a), (3, pt_i b), (4, pt_i c), (5, pt_i (sw_F M a c)), (6, pt_i (sw_F M b c)), (7, pt_i (lb_F M t c a b))], [pt_i 1], M) :=
  pt_run_ok tX3_isDueWith_ok 27 [.inr (3, some (pt_i (sw_F M a c)), M), .inr (3, some (pt_i (sw_F M b c)), M), .inl false, .inr (4, some (pt_i (lb_F M t c a b)), M), .inl false, .inl false] (P := pt_Cal YX3_isDueWith (.invokevirtual 66) [pt_r 6 0, pt_i a, pt_i c] M (some (pt_i (sw_F M a c))) M ∧ pt_Cal YX3_isDueWith (.invokevirtual 66) [pt_r 6 0, pt_i b, pt_i c] M (some (pt_i (sw_F M b c))) M ∧ (¬ a ≤ c) ∧ pt_Cal YX3_isDueWith (.invokevirtual 70) [pt_r 3 t, pt_i c, pt_i a, pt_i b] M (some (pt_i (lb_F M t c a b))) M ∧ ((sw_F M a c) = (lb_F M t c a b)) ∧ ((sw_F M b c) = (lb_F M t c a b)) ∧ True) (by with_unfolding_all rfl) ⟨(pt_callV (i := 0) kX3_isDueWith_66 mX3_areSwapped rfl (by decide) rfl (dX3_areSwapped h1)), (pt_callV (i := 0) kX3_isDueWith_66 mX3_areSwapped rfl (by decide) rfl (dX3_areSwapped h2)), h3, (pt_callV (i := t) kX3_isDueWith_70 mX4_isLeft rfl h4 rfl (dX4_isLeft_v h4 h5 h1)), h6, h7, trivial⟩
set_option maxRecDepth 100000 in
theorem gX3_isDueWith_0_2 (t : Nat) (a : Int32) (b : Int32) (c : Int32)  (M : pt_M) (h1 : pt_in a 10) (h2 : pt_in b 10) (h3 : ¬ a ≤ c) (h4 : t < 7) (h5 : pt_in c 10) (h6 : (sw_F M a c) = (lb_F M t c a b)) (h7 : ¬ (sw_F M b c) = (lb_F M t c a b)) :
    pt_Go YX3_isDueWith (0, [(0, pt_r 6 0), (1, pt_r 3 t), (2, pt_i a), (3, pt_i b), (4, pt_i c)], [], M)
      (53, [(0, pt_r 6 0), (1, pt_r 3 t), (2, pt_i a), (3, pt_i b), (4, pt_i c), (5, pt_i (sw_F M a c)), (6, pt_i (sw_F M b c)), (7, pt_i (lb_F M t c a b))], [pt_i 0], M) :=
  pt_run_ok tX3_isDueWith_ok 26 [.inr (3, some (pt_i (sw_F M a c)), M), .inr (3, some (pt_i (sw_F M b c)), M), .inl false, .inr (4, some (pt_i (lb_F M t c a b)), M), .inl false, .inl true] (P := pt_Cal YX3_isDueWith (.invokevirtual 66) [pt_r 6 0, pt_i a, pt_i c] M (some (pt_i (sw_F M a c))) M ∧ pt_Cal YX3_isDueWith (.invokevirtual 66) [pt_r 6 0, pt_i b, pt_i c] M (some (pt_i (sw_F M b c))) M ∧ (¬ a ≤ c) ∧ pt_Cal YX3_isDueWith (.invokevirtual 70) [pt_r 3 t, pt_i c, pt_i a, pt_i b] M (some (pt_i (lb_F M t c a b))) M ∧ ((sw_F M a c) = (lb_F M t c a b)) ∧ (¬ (sw_F M b c) = (lb_F M t c a b)) ∧ True) (by with_unfolding_all rfl) ⟨(pt_callV (i := 0) kX3_isDueWith_66 mX3_areSwapped rfl (by decide) rfl (dX3_areSwapped h1)), (pt_callV (i := 0) kX3_isDueWith_66 mX3_areSwapped rfl (by decide) rfl (dX3_areSwapped h2)), h3, (pt_callV (i := t) kX3_isDueWith_70 mX4_isLeft rfl h4 rfl (dX4_isLeft_v h4 h5 h1)), h6, h7, trivial⟩
set_option maxRecDepth 100000 in
theorem gX3_isDueWith_0_3 (t : Nat) (a : Int32) (b : Int32) (c : Int32)  (M : pt_M) (h1 : pt_in a 10) (h2 : pt_in b 10) (h3 : ¬ a ≤ c) (h4 : t < 7) (h5 : pt_in c 10) (h6 : ¬ (sw_F M a c) = (lb_F M t c a b)) :
    pt_Go YX3_isDueWith (0, [(0, pt_r 6 0), (1, pt_r 3 t), (2, pt_i a), (3, pt_i b), (4, pt_i c)], [], M)
      (53, [(0, pt_r 6 0), (1, pt_r 3 t), (2, pt_i a), (3, pt_i b), (4, pt_i c), (5, pt_i (sw_F M a c)), (6, pt_i (sw_F M b c)), (7, pt_i (lb_F M t c a b))], [pt_i 0], M) :=
  pt_run_ok tX3_isDueWith_ok 23 [.inr (3, some (pt_i (sw_F M a c)), M), .inr (3, some (pt_i (sw_F M b c)), M), .inl false, .inr (4, some (pt_i (lb_F M t c a b)), M), .inl true] (P := pt_Cal YX3_isDueWith (.invokevirtual 66) [pt_r 6 0, pt_i a, pt_i c] M (some (pt_i (sw_F M a c))) M ∧ pt_Cal YX3_isDueWith (.invokevirtual 66) [pt_r 6 0, pt_i b, pt_i c] M (some (pt_i (sw_F M b c))) M ∧ (¬ a ≤ c) ∧ pt_Cal YX3_isDueWith (.invokevirtual 70) [pt_r 3 t, pt_i c, pt_i a, pt_i b] M (some (pt_i (lb_F M t c a b))) M ∧ (¬ (sw_F M a c) = (lb_F M t c a b)) ∧ True) (by with_unfolding_all rfl) ⟨(pt_callV (i := 0) kX3_isDueWith_66 mX3_areSwapped rfl (by decide) rfl (dX3_areSwapped h1)), (pt_callV (i := 0) kX3_isDueWith_66 mX3_areSwapped rfl (by decide) rfl (dX3_areSwapped h2)), h3, (pt_callV (i := t) kX3_isDueWith_70 mX4_isLeft rfl h4 rfl (dX4_isLeft_v h4 h5 h1)), h6, trivial⟩
set_option maxRecDepth 100000 in
theorem gX3_isDueWith_0_4 (t : Nat) (a : Int32) (b : Int32) (c : Int32)  (M : pt_M) (h1 : pt_in a 10) (h2 : pt_in b 10) (h3 : a ≤ c) (h4 : ¬ b ≤ c) (h5 : t < 7) (h6 : pt_in c 10) (h7 : (sw_F M a c) = (lb_F M t a c b)) (h8 : ¬ (sw_F M b c) = (lb_F M t a c b)) :
    pt_Go YX3_isDueWith (0, [(0, pt_r 6 0), (1, pt_r 3 t), (2, pt_i a), (3, pt_i b), (4, pt_i c)], [], M)
      (89, [(0, pt_r 6 0), (1, pt_r 3 t), (2, pt_i a), (3, pt_i b), (4, pt_i c), (5, pt_i (sw_F M a c)), (6, pt_i (sw_F M b c)), (7, pt_i (lb_F M t a c b))], [pt_i 1], M) :=
  pt_run_ok tX3_isDueWith_ok 30 [.inr (3, some (pt_i (sw_F M a c)), M), .inr (3, some (pt_i (sw_F M b c)), M), .inl true, .inl false, .inr (4, some (pt_i (lb_F M t a c b)), M), .inl false, .inl false] (P := pt_Cal YX3_isDueWith (.invokevirtual 66) [pt_r 6 0, pt_i a, pt_i c] M (some (pt_i (sw_F M a c))) M ∧ pt_Cal YX3_isDueWith (.invokevirtual 66) [pt_r 6 0, pt_i b, pt_i c] M (some (pt_i (sw_F M b c))) M ∧ (a ≤ c) ∧ (¬ b ≤ c) ∧ pt_Cal YX3_isDueWith (.invokevirtual 70) [pt_r 3 t, pt_i a, pt_i c, pt_i b] M (some (pt_i (lb_F M t a c b))) M ∧ ((sw_F M a c) = (lb_F M t a c b)) ∧ (¬ (sw_F M b c) = (lb_F M t a c b)) ∧ True) (by with_unfolding_all rfl) ⟨(pt_callV (i := 0) kX3_isDueWith_66 mX3_areSwapped rfl (by decide) rfl (dX3_areSwapped h1)), (pt_callV (i := 0) kX3_isDueWith_66 mX3_areSwapped rfl (by decide) rfl (dX3_areSwapped h2)), h3, h4, (pt_callV (i := t) kX3_isDueWith_70 mX4_isLeft rfl h5 rfl (dX4_isLeft_v h5 h1 h6)), h7, h8, trivial⟩
set_option maxRecDepth 100000 in
theorem gX3_isDueWith_0_5 (t : Nat) (a : Int32) (b : Int32) (c : Int32)  (M : pt_M) (h1 : pt_in a 10) (h2 : pt_in b 10) (h3 : a ≤ c) (h4 : ¬ b ≤ c) (h5 : t < 7) (h6 : pt_in c 10) (h7 : (sw_F M a c) = (lb_F M t a c b)) (h8 : (sw_F M b c) = (lb_F M t a c b)) :
    pt_Go YX3_isDueWith (0, [(0, pt_r 6 0), (1, pt_r 3 t), (2, pt_i a), (3, pt_i b), (4, pt_i c)], [], M)
      (89, [(0, pt_r 6 0), (1, pt_r 3 t), (2, pt_i a), (3, pt_i b), (4, pt_i c), (5, pt_i (sw_F M a c)), (6, pt_i (sw_F M b c)), (7, pt_i (lb_F M t a c b))], [pt_i 0], M) :=
  pt_run_ok tX3_isDueWith_ok 29 [.inr (3, some (pt_i (sw_F M a c)), M), .inr (3, some (pt_i (sw_F M b c)), M), .inl true, .inl false, .inr (4, some (pt_i (lb_F M t a c b)), M), .inl false, .inl true] (P := pt_Cal YX3_isDueWith (.invokevirtual 66) [pt_r 6 0, pt_i a, pt_i c] M (some (pt_i (sw_F M a c))) M ∧ pt_Cal YX3_isDueWith (.invokevirtual 66) [pt_r 6 0, pt_i b, pt_i c] M (some (pt_i (sw_F M b c))) M ∧ (a ≤ c) ∧ (¬ b ≤ c) ∧ pt_Cal YX3_isDueWith (.invokevirtual 70) [pt_r 3 t, pt_i a, pt_i c, pt_i b] M (some (pt_i (lb_F M t a c b))) M ∧ ((sw_F M a c) = (lb_F M t a c b)) ∧ ((sw_F M b c) = (lb_F M t a c b)) ∧ True) (by with_unfolding_all rfl) ⟨(pt_callV (i := 0) kX3_isDueWith_66 mX3_areSwapped rfl (by decide) rfl (dX3_areSwapped h1)), (pt_callV (i := 0) kX3_isDueWith_66 mX3_areSwapped rfl (by decide) rfl (dX3_areSwapped h2)), h3, h4, (pt_callV (i := t) kX3_isDueWith_70 mX4_isLeft rfl h5 rfl (dX4_isLeft_v h5 h1 h6)), h7, h8, trivial⟩
set_option maxRecDepth 100000 in
theorem gX3_isDueWith_0_6 (t : Nat) (a : Int32) (b : Int32) (c : Int32)  (M : pt_M) (h1 : pt_in a 10) (h2 : pt_in b 10) (h3 : a ≤ c) (h4 : ¬ b ≤ c) (h5 : t < 7) (h6 : pt_in c 10) (h7 : ¬ (sw_F M a c) = (lb_F M t a c b)) :
    pt_Go YX3_isDueWith (0, [(0, pt_r 6 0), (1, pt_r 3 t), (2, pt_i a), (3, pt_i b), (4, pt_i c)], [], M)
      (89, [(0, pt_r 6 0), (1, pt_r 3 t), (2, pt_i a), (3, pt_i b), (4, pt_i c), (5, pt_i (sw_F M a c)), (6, pt_i (sw_F M b c)), (7, pt_i (lb_F M t a c b))], [pt_i 0], M) :=
  pt_run_ok tX3_isDueWith_ok 26 [.inr (3, some (pt_i (sw_F M a c)), M), .inr (3, some (pt_i (sw_F M b c)), M), .inl true, .inl false, .inr (4, some (pt_i (lb_F M t a c b)), M), .inl true] (P := pt_Cal YX3_isDueWith (.invokevirtual 66) [pt_r 6 0, pt_i a, pt_i c] M (some (pt_i (sw_F M a c))) M ∧ pt_Cal YX3_isDueWith (.invokevirtual 66) [pt_r 6 0, pt_i b, pt_i c] M (some (pt_i (sw_F M b c))) M ∧ (a ≤ c) ∧ (¬ b ≤ c) ∧ pt_Cal YX3_isDueWith (.invokevirtual 70) [pt_r 3 t, pt_i a, pt_i c, pt_i b] M (some (pt_i (lb_F M t a c b))) M ∧ (¬ (sw_F M a c) = (lb_F M t a c b)) ∧ True) (by with_unfolding_all rfl) ⟨(pt_callV (i := 0) kX3_isDueWith_66 mX3_areSwapped rfl (by decide) rfl (dX3_areSwapped h1)), (pt_callV (i := 0) kX3_isDueWith_66 mX3_areSwapped rfl (by decide) rfl (dX3_areSwapped h2)), h3, h4, (pt_callV (i := t) kX3_isDueWith_70 mX4_isLeft rfl h5 rfl (dX4_isLeft_v h5 h1 h6)), h7, trivial⟩
set_option maxRecDepth 100000 in
theorem gX3_isDueWith_0_7 (t : Nat) (a : Int32) (b : Int32) (c : Int32)  (M : pt_M) (h1 : pt_in a 10) (h2 : pt_in b 10) (h3 : a ≤ c) (h4 : b ≤ c) (h5 : t < 7) (h6 : ¬ (sw_F M a c) = (lb_F M t a b c)) (h7 : ¬ (sw_F M b c) = (lb_F M t a b c)) :
    pt_Go YX3_isDueWith (0, [(0, pt_r 6 0), (1, pt_r 3 t), (2, pt_i a), (3, pt_i b), (4, pt_i c)], [], M)
      (119, [(0, pt_r 6 0), (1, pt_r 3 t), (2, pt_i a), (3, pt_i b), (4, pt_i c), (5, pt_i (sw_F M a c)), (6, pt_i (sw_F M b c)), (7, pt_i (lb_F M t a b c))], [pt_i 1], M) :=
  pt_run_ok tX3_isDueWith_ok 30 [.inr (3, some (pt_i (sw_F M a c)), M), .inr (3, some (pt_i (sw_F M b c)), M), .inl true, .inl true, .inr (4, some (pt_i (lb_F M t a b c)), M), .inl false, .inl false] (P := pt_Cal YX3_isDueWith (.invokevirtual 66) [pt_r 6 0, pt_i a, pt_i c] M (some (pt_i (sw_F M a c))) M ∧ pt_Cal YX3_isDueWith (.invokevirtual 66) [pt_r 6 0, pt_i b, pt_i c] M (some (pt_i (sw_F M b c))) M ∧ (a ≤ c) ∧ (b ≤ c) ∧ pt_Cal YX3_isDueWith (.invokevirtual 70) [pt_r 3 t, pt_i a, pt_i b, pt_i c] M (some (pt_i (lb_F M t a b c))) M ∧ (¬ (sw_F M a c) = (lb_F M t a b c)) ∧ (¬ (sw_F M b c) = (lb_F M t a b c)) ∧ True) (by with_unfolding_all rfl) ⟨(pt_callV (i := 0) kX3_isDueWith_66 mX3_areSwapped rfl (by decide) rfl (dX3_areSwapped h1)), (pt_callV (i := 0) kX3_isDueWith_66 mX3_areSwapped rfl (by decide) rfl (dX3_areSwapped h2)), h3, h4, (pt_callV (i := t) kX3_isDueWith_70 mX4_isLeft rfl h5 rfl (dX4_isLeft_v h5 h1 h2)), h6, h7, trivial⟩
set_option maxRecDepth 100000 in
theorem gX3_isDueWith_0_8 (t : Nat) (a : Int32) (b : Int32) (c : Int32)  (M : pt_M) (h1 : pt_in a 10) (h2 : pt_in b 10) (h3 : a ≤ c) (h4 : b ≤ c) (h5 : t < 7) (h6 : ¬ (sw_F M a c) = (lb_F M t a b c)) (h7 : (sw_F M b c) = (lb_F M t a b c)) :
    pt_Go YX3_isDueWith (0, [(0, pt_r 6 0), (1, pt_r 3 t), (2, pt_i a), (3, pt_i b), (4, pt_i c)], [], M)
      (119, [(0, pt_r 6 0), (1, pt_r 3 t), (2, pt_i a), (3, pt_i b), (4, pt_i c), (5, pt_i (sw_F M a c)), (6, pt_i (sw_F M b c)), (7, pt_i (lb_F M t a b c))], [pt_i 0], M) :=
  pt_run_ok tX3_isDueWith_ok 29 [.inr (3, some (pt_i (sw_F M a c)), M), .inr (3, some (pt_i (sw_F M b c)), M), .inl true, .inl true, .inr (4, some (pt_i (lb_F M t a b c)), M), .inl false, .inl true] (P := pt_Cal YX3_isDueWith (.invokevirtual 66) [pt_r 6 0, pt_i a, pt_i c] M (some (pt_i (sw_F M a c))) M ∧ pt_Cal YX3_isDueWith (.invokevirtual 66) [pt_r 6 0, pt_i b, pt_i c] M (some (pt_i (sw_F M b c))) M ∧ (a ≤ c) ∧ (b ≤ c) ∧ pt_Cal YX3_isDueWith (.invokevirtual 70) [pt_r 3 t, pt_i a, pt_i b, pt_i c] M (some (pt_i (lb_F M t a b c))) M ∧ (¬ (sw_F M a c) = (lb_F M t a b c)) ∧ ((sw_F M b c) = (lb_F M t a b c)) ∧ True) (by with_unfolding_all rfl) ⟨(pt_callV (i := 0) kX3_isDueWith_66 mX3_areSwapped rfl (by decide) rfl (dX3_areSwapped h1)), (pt_callV (i := 0) kX3_isDueWith_66 mX3_areSwapped rfl (by decide) rfl (dX3_areSwapped h2)), h3, h4, (pt_callV (i := t) kX3_isDueWith_70 mX4_isLeft rfl h5 rfl (dX4_isLeft_v h5 h1 h2)), h6, h7, trivial⟩
set_option maxRecDepth 100000 in
theorem gX3_isDueWith_0_9 (t : Nat) (a : Int32) (b : Int32) (c : Int32)  (M : pt_M) (h1 : pt_in a 10) (h2 : pt_in b 10) (h3 : a ≤ c) (h4 : b ≤ c) (h5 : t < 7) (h6 : (sw_F M a c) = (lb_F M t a b c)) :
    pt_Go YX3_isDueWith (0, [(0, pt_r 6 0), (1, pt_r 3 t), (2, pt_i a), (3, pt_i b), (4, pt_i c)], [], M)
      (119, [(0, pt_r 6 0), (1, pt_r 3 t), (2, pt_i a), (3, pt_i b), (4, pt_i c), (5, pt_i (sw_F M a c)), (6, pt_i (sw_F M b c)), (7, pt_i (lb_F M t a b c))], [pt_i 0], M) :=
  pt_run_ok tX3_isDueWith_ok 26 [.inr (3, some (pt_i (sw_F M a c)), M), .inr (3, some (pt_i (sw_F M b c)), M), .inl true, .inl true, .inr (4, some (pt_i (lb_F M t a b c)), M), .inl true] (P := pt_Cal YX3_isDueWith (.invokevirtual 66) [pt_r 6 0, pt_i a, pt_i c] M (some (pt_i (sw_F M a c))) M ∧ pt_Cal YX3_isDueWith (.invokevirtual 66) [pt_r 6 0, pt_i b, pt_i c] M (some (pt_i (sw_F M b c))) M ∧ (a ≤ c) ∧ (b ≤ c) ∧ pt_Cal YX3_isDueWith (.invokevirtual 70) [pt_r 3 t, pt_i a, pt_i b, pt_i c] M (some (pt_i (lb_F M t a b c))) M ∧ ((sw_F M a c) = (lb_F M t a b c)) ∧ True) (by with_unfolding_all rfl) ⟨(pt_callV (i := 0) kX3_isDueWith_66 mX3_areSwapped rfl (by decide) rfl (dX3_areSwapped h1)), (pt_callV (i := 0) kX3_isDueWith_66 mX3_areSwapped rfl (by decide) rfl (dX3_areSwapped h2)), h3, h4, (pt_callV (i := t) kX3_isDueWith_70 mX4_isLeft rfl h5 rfl (dX4_isLeft_v h5 h1 h2)), h6, trivial⟩
theorem dX3_isDueWith_1 {t : Nat} {a b c : Int32} {M : pt_M} (ht : t < 7) (h1 : pt_in a 10) (h2 : pt_in b 10) (h3 : pt_in c 10) (h : dw_P M t a b c) : pt_Does yX3_isDueWith YX3_isDueWith [pt_r 6 0, pt_r 3 t, pt_i a, pt_i b, pt_i c] M (some (pt_i 1)) M := by
  rcases h with ⟨k1, k2, k3⟩ | ⟨k1, k2, k3, k4⟩ | ⟨k1, k2, k3, k4⟩
  · exact rX3_isDueWith_53 rfl (Nat.le_of_ble_eq_true rfl) rfl (gX3_isDueWith_0_1 t a b c M h1 h2 k1 ht h3 k2 k3)
  · exact rX3_isDueWith_89 rfl (Nat.le_of_ble_eq_true rfl) rfl (gX3_isDueWith_0_4 t a b c M h1 h2 k1 k2 ht h3 k3 k4)
  · exact rX3_isDueWith_119 rfl (Nat.le_of_ble_eq_true rfl) rfl (gX3_isDueWith_0_7 t a b c M h1 h2 k1 k2 ht k3 k4)
theorem dX3_isDueWith_0 {t : Nat} {a b c : Int32} {M : pt_M} (ht : t < 7) (h1 : pt_in a 10) (h2 : pt_in b 10) (h3 : pt_in c 10) (h : ¬ dw_P M t a b c) : pt_Does yX3_isDueWith YX3_isDueWith [pt_r 6 0, pt_r 3 t, pt_i a, pt_i b, pt_i c] M (some (pt_i 0)) M := by
  by_cases k1 : a ≤ c
  · by_cases k2 : b ≤ c
    · by_cases k3 : (sw_F M a c) = (lb_F M t a b c)
      · exact rX3_isDueWith_119 rfl (Nat.le_of_ble_eq_true rfl) rfl (gX3_isDueWith_0_9 t a b c M h1 h2 k1 k2 ht k3)
      · by_cases k4 : (sw_F M b c) = (lb_F M t a b c)
        · exact rX3_isDueWith_119 rfl (Nat.le_of_ble_eq_true rfl) rfl (gX3_isDueWith_0_8 t a b c M h1 h2 k1 k2 ht k3 k4)
        · exact absurd (Or.inr (Or.inr ⟨k1, k2, k3, k4⟩)) h
    · by_cases k3 : (sw_F M a c) = (lb_F M t a c b)
      · by_cases k4 : (sw_F M b c) = (lb_F M t a c b)
        · exact rX3_isDueWith_89 rfl (Nat.le_of_ble_eq_true rfl) rfl (gX3_isDueWith_0_5 t a b c M h1 h2 k1 k2 ht h3 k3 k4)
        · exact absurd (Or.inr (Or.inl ⟨k1, k2, k3, k4⟩)) h
      · exact rX3_isDueWith_89 rfl (Nat.le_of_ble_eq_true rfl) rfl (gX3_isDueWith_0_6 t a b c M h1 h2 k1 k2 ht h3 k3)
  · by_cases k3 : (sw_F M a c) = (lb_F M t c a b)
    · by_cases k4 : (sw_F M b c) = (lb_F M t c a b)
      · exact absurd (Or.inl ⟨k1, k3, k4⟩) h
      · exact rX3_isDueWith_53 rfl (Nat.le_of_ble_eq_true rfl) rfl (gX3_isDueWith_0_2 t a b c M h1 h2 k1 ht h3 k3 k4)
    · exact rX3_isDueWith_53 rfl (Nat.le_of_ble_eq_true rfl) rfl (gX3_isDueWith_0_3 t a b c M h1 h2 k1 ht h3 k3)
/-- of the swaps of a < b and c just those have been that the turn has ahead -/
def dw_F (B : Nat → Nat → Nat → Bool) (S : Nat → Nat → Bool) (a b c : Nat) : Bool := if c < a then (S a c == B c a b) && (S b c == B c a b) else if c < b then (S a c == B a c b) && (S b c != B a c b) else (S a c != B a b c) && (S b c != B a b c)
def sS_F (M : pt_M) (a c : Nat) : Bool := (sg_F M a).testBit c
theorem sw_nI {M : pt_M} {n a c : Nat} (hn : n ≤ 10) (h : so_P M n) (ha : a < n) (hc : c < 10) : sw_F M (nI a) (nI c) = pt_b (sS_F M a c) := by
  obtain ⟨-, -, h3, h4⟩ := h a ha
  unfold sw_F sS_F
  rw [pt_nt_nI (by omega), h3, pt_bit (by omega) (by omega)]
  cases (sg_F M a).testBit c <;> rfl
theorem dw_B {M : pt_M} {t n a b c : Nat} {B : Nat → Nat → Nat → Bool} (h : tb_P M t n B) (hs : so_P M n) (ha : a < n) (hb : b < n) (hc : c < n) : dw_P M t (nI a) (nI b) (nI c) ↔ dw_F B (sS_F M) a b c = true := by
  have hn := h.2.1
  have hB := h.2.2.2
  unfold dw_P dw_F
  rw [sw_nI hn hs ha (by omega), sw_nI hn hs hb (by omega), lb_B hB (a := c) (c := a) (d := b) (by omega) (by omega) (by omega), lb_B hB (a := a) (c := c) (d := b) (by omega) (by omega) (by omega), lb_B hB (a := a) (c := b) (d := c) (by omega) (by omega) (by omega)]
  simp only [pt_b_eq, nI_leI (show a < 2 ^ 31 by omega) (show c < 2 ^ 31 by omega), nI_leI (show b < 2 ^ 31 by omega) (show c < 2 ^ 31 by omega)]
  by_cases e1 : c < a
  · have e2 : ¬ a ≤ c := by omega
    simp only [e1, e2, not_false_eq_true, true_and, false_and, or_false, if_true]
    cases sS_F M a c <;> cases sS_F M b c <;> cases B c a b <;> decide
  · have e2 : a ≤ c := by omega
    by_cases e3 : c < b
    · have e4 : ¬ b ≤ c := by omega
      simp only [e1, e2, e3, e4, not_false_eq_true, not_true_eq_false, true_and, false_and, false_or, or_false, if_true, if_false]
      cases sS_F M a c <;> cases sS_F M b c <;> cases B a c b <;> decide
    · have e4 : b ≤ c := by omega
      simp only [e1, e2, e3, e4, not_true_eq_false, true_and, false_and, false_or, if_false]
      cases sS_F M a c <;> cases sS_F M b c <;> cases B a b c <;> decide
def du_F (n : Nat) (B : Nat → Nat → Nat → Bool) (S : Nat → Nat → Bool) (a b : Nat) : Option Unit := fs_F (n - 0) 0 fun c => if decide (c ≠ a) && (decide (c ≠ b) && !dw_F B S a b c) then some () else none
def du_P (n : Nat) (B : Nat → Nat → Nat → Bool) (M : pt_M) (x y : Int32) : Prop := du_F n B (sS_F M) (pt_nt x) (pt_nt y) = none
theorem rX3_isDue_37 {vs : List pt_V} {M M' : pt_M} {x : Int32} {L : List (Nat × pt_V)} (hn : narrow .boolean (.int x) = .int x) (hvs : (vs.map pt_w).sum ≤ 5) (hX : M'.2.2.2.2 = M.2.2.2.2) (h : pt_Go YX3_isDue (0, pt_en 0 vs, [], M) (37, L, [pt_i x], M')) : pt_Does yX3_isDue YX3_isDue vs M (some (pt_i x)) M' := pt_does_go tX3_isDue_ok nX3_isDue hvs hX ⟨_, by with_unfolding_all rfl, rfl, _, rfl, hn⟩ h
theorem rX3_isDue_45 {vs : List pt_V} {M M' : pt_M} {x : Int32} {L : List (Nat × pt_V)} (hn : narrow .boolean (.int x) = .int x) (hvs : (vs.map pt_w).sum ≤ 5) (hX : M'.2.2.2.2 = M.2.2.2.2) (h : pt_Go YX3_isDue (0, pt_en 0 vs, [], M) (45, L, [pt_i x], M')) : pt_Does yX3_isDue YX3_isDue vs M (some (pt_i x)) M' := pt_does_go tX3_isDue_ok nX3_isDue hvs hX ⟨_, by with_unfolding_all rfl, rfl, _, rfl, hn⟩ h
set_option maxRecDepth 100000 in
theorem gX3_isDue_0_1 (t : Nat) (a : Int32) (b : Int32)  (M : pt_M) :
    pt_Go YX3_isDue (0, [(0, pt_r 6 0), (1, pt_r 3 t), (2, pt_i a), (3, pt_i b)], [], M)
      (3, [(0, pt_r 6 0), (1, pt_r 3 t), (2, pt_i a), (3, pt_i b), (4, pt_i 0)], [], M) :=
  pt_run_ok tX3_isDue_ok 2 [] (P := True) (by with_unfolding_all rfl) trivial
set_option maxRecDepth 100000 in
theorem gX3_isDue_3_1 (t : Nat) (l2 : Int32) (l3 : Int32) (l4 : Int32)  (M : pt_M) (h1 : t < 7) (h2 : ¬ (pt_F M 3 0 t) ≤ l4) (h3 : ¬ l4 = l2) (h4 : ¬ l4 = l3) (h5 : pt_in l2 10) (h6 : pt_in l3 10) (h7 : pt_in l4 10) (h8 : dw_P M t l2 l3 l4) :
    pt_Go YX3_isDue (3, [(0, pt_r 6 0), (1, pt_r 3 t), (2, pt_i l2), (3, pt_i l3), (4, pt_i l4)], [], M)
      (3, [(0, pt_r 6 0), (1, pt_r 3 t), (2, pt_i l2), (3, pt_i l3), (4, pt_i (l4 + 1))], [], M) :=
  pt_run_ok tX3_isDue_ok 19 [.inl false, .inl false, .inl false, .inr (5, some (pt_i 1), M), .inl true] (P := (t < 7) ∧ (¬ (pt_F M 3 0 t) ≤ l4) ∧ (¬ l4 = l2) ∧ (¬ l4 = l3) ∧ pt_Cal YX3_isDue (.invokevirtual 62) [pt_r 6 0, pt_r 3 t, pt_i l2, pt_i l3, pt_i l4] M (some (pt_i 1)) M ∧ (¬ (1 : Int32) = (0 : Int32)) ∧ True) (by with_unfolding_all rfl) ⟨h1, h2, h3, h4, (pt_callV (i := 0) kX3_isDue_62 mX3_isDueWith rfl (by decide) rfl (dX3_isDueWith_1 h1 h5 h6 h7 h8)), (by decide), trivial⟩
set_option maxRecDepth 100000 in
theorem gX3_isDue_3_2 (t : Nat) (l2 : Int32) (l3 : Int32) (l4 : Int32)  (M : pt_M) (h1 : t < 7) (h2 : ¬ (pt_F M 3 0 t) ≤ l4) (h3 : ¬ l4 = l2) (h4 : ¬ l4 = l3) (h5 : pt_in l2 10) (h6 : pt_in l3 10) (h7 : pt_in l4 10) (h8 : ¬ dw_P M t l2 l3 l4) :
    pt_Go YX3_isDue (3, [(0, pt_r 6 0), (1, pt_r 3 t), (2, pt_i l2), (3, pt_i l3), (4, pt_i l4)], [], M)
      (37, [(0, pt_r 6 0), (1, pt_r 3 t), (2, pt_i l2), (3, pt_i l3), (4, pt_i l4)], [pt_i 0], M) :=
  pt_run_ok tX3_isDue_ok 18 [.inl false, .inl false, .inl false, .inr (5, some (pt_i 0), M), .inl false] (P := (t < 7) ∧ (¬ (pt_F M 3 0 t) ≤ l4) ∧ (¬ l4 = l2) ∧ (¬ l4 = l3) ∧ pt_Cal YX3_isDue (.invokevirtual 62) [pt_r 6 0, pt_r 3 t, pt_i l2, pt_i l3, pt_i l4] M (some (pt_i 0)) M ∧ ((0 : Int32) = (0 : Int32)) ∧ True) (by with_unfolding_all rfl) ⟨h1, h2, h3, h4, (pt_callV (i := 0) kX3_isDue_62 mX3_isDueWith rfl (by decide) rfl (dX3_isDueWith_0 h1 h5 h6 h7 h8)), (by decide), trivial⟩
set_option maxRecDepth 100000 in
theorem gX3_isDue_3_3 (t : Nat) (l2 : Int32) (l3 : Int32) (l4 : Int32)  (M : pt_M) (h1 : t < 7) (h2 : ¬ (pt_F M 3 0 t) ≤ l4) (h3 : ¬ l4 = l2) (h4 : l4 = l3) :
    pt_Go YX3_isDue (3, [(0, pt_r 6 0), (1, pt_r 3 t), (2, pt_i l2), (3, pt_i l3), (4, pt_i l4)], [], M)
      (3, [(0, pt_r 6 0), (1, pt_r 3 t), (2, pt_i l2), (3, pt_i l3), (4, pt_i (l4 + 1))], [], M) :=
  pt_run_ok tX3_isDue_ok 12 [.inl false, .inl false, .inl true] (P := (t < 7) ∧ (¬ (pt_F M 3 0 t) ≤ l4) ∧ (¬ l4 = l2) ∧ (l4 = l3) ∧ True) (by with_unfolding_all rfl) ⟨h1, h2, h3, h4, trivial⟩
set_option maxRecDepth 100000 in
theorem gX3_isDue_3_4 (t : Nat) (l2 : Int32) (l3 : Int32) (l4 : Int32)  (M : pt_M) (h1 : t < 7) (h2 : ¬ (pt_F M 3 0 t) ≤ l4) (h3 : l4 = l2) :
    pt_Go YX3_isDue (3, [(0, pt_r 6 0), (1, pt_r 3 t), (2, pt_i l2), (3, pt_i l3), (4, pt_i l4)], [], M)
      (3, [(0, pt_r 6 0), (1, pt_r 3 t), (2, pt_i l2), (3, pt_i l3), (4, pt_i (l4 + 1))], [], M) :=
  pt_run_ok tX3_isDue_ok 9 [.inl false, .inl true] (P := (t < 7) ∧ (¬ (pt_F M 3 0 t) ≤ l4) ∧ (l4 = l2) ∧ True) (by with_unfolding_all rfl) ⟨h1, h2, h3, trivial⟩
set_option maxRecDepth 100000 in
theorem gX3_isDue_3_5 (t : Nat) (l2 : Int32) (l3 : Int32) (l4 : Int32)  (M : pt_M) (h1 : t < 7) (h2 : (pt_F M 3 0 t) ≤ l4) :
    pt_Go YX3_isDue (3, [(0, pt_r 6 0), (1, pt_r 3 t), (2, pt_i l2), (3, pt_i l3), (4, pt_i l4)], [], M)
      (45, [(0, pt_r 6 0), (1, pt_r 3 t), (2, pt_i l2), (3, pt_i l3), (4, pt_i l4)], [pt_i 1], M) :=
  pt_run_ok tX3_isDue_ok 5 [.inl true] (P := (t < 7) ∧ ((pt_F M 3 0 t) ≤ l4) ∧ True) (by with_unfolding_all rfl) ⟨h1, h2, trivial⟩
theorem dX3_isDue {t n a b : Nat} {B : Nat → Nat → Nat → Bool} {M : pt_M} (h : tb_P M t n B) (hs : so_P M n) (ha : a < n) (hb : b < n) : (du_F n B (sS_F M) a b = none → pt_Does yX3_isDue YX3_isDue [pt_r 6 0, pt_r 3 t, pt_i (nI a), pt_i (nI b)] M (some (pt_i 1)) M) ∧ (du_F n B (sS_F M) a b = some () → pt_Does yX3_isDue YX3_isDue [pt_r 6 0, pt_r 3 t, pt_i (nI a), pt_i (nI b)] M (some (pt_i 0)) M) := by
  have htb := h
  obtain ⟨ht, hn, hsz, hB⟩ := h
  have hlt : ∀ i, i < n → ¬ pt_F M 3 0 t ≤ nI i := fun i hi => by rw [hsz]; exact nI_ge hi (by omega)
  have hle : pt_F M 3 0 t ≤ nI n := by rw [hsz]; exact Int32.le_refl _
  have hp : ∀ i, i < n → pt_in (nI i) 10 := fun i hi => pt_in_nI (by omega) (by decide)
  have K := pt_nest (Y := YX3_isDue) (σ := (0, [(0, pt_r 6 0), (1, pt_r 3 t), (2, pt_i (nI a)), (3, pt_i (nI b))], [], M)) (τ := (45, [], [pt_i 1], M)) (R := fun _ : Unit => (37, [], [pt_i 0], M)) (n := n) (i := 0)
    (S := fun c => (3, [(0, pt_r 6 0), (1, pt_r 3 t), (2, pt_i (nI a)), (3, pt_i (nI b)), (4, pt_i (nI c))], [], M)) (f := fun c => if decide (c ≠ a) && (decide (c ≠ b) && !dw_F B (sS_F M) a b c) then some () else none)
    (Nat.zero_le n) (gX3_isDue_0_1 t (nI a) (nI b) M) ((gX3_isDue_3_5 t (nI a) (nI b) (nI n) M ht hle).tr pt_dropA) fun c _ hc => by
      have hd := dw_B htb hs ha hb hc
      have e1 := nI_eq (show c < 2 ^ 31 by omega) (show a < 2 ^ 31 by omega)
      have e2 := nI_eq (show c < 2 ^ 31 by omega) (show b < 2 ^ 31 by omega)
      by_cases ka : c = a
      · exact ⟨fun v z => by simp [ka] at z, fun _ => (gX3_isDue_3_4 t (nI a) (nI b) (nI c) M ht (hlt c hc) (by rw [ka])).to (by rw [nI_1])⟩
      · by_cases kb : c = b
        · exact ⟨fun v z => by simp [kb] at z, fun _ => (gX3_isDue_3_3 t (nI a) (nI b) (nI c) M ht (hlt c hc) (fun z => ka (e1.mp z)) (by rw [kb])).to (by rw [nI_1])⟩
        · cases hv : dw_F B (sS_F M) a b c
          · exact ⟨fun v z => (gX3_isDue_3_2 t (nI a) (nI b) (nI c) M ht (hlt c hc) (fun z => ka (e1.mp z)) (fun z => kb (e2.mp z)) (hp a ha) (hp b hb) (hp c hc) (fun z => by rw [hd, hv] at z; cases z)).tr pt_dropA, fun z => by simp [ka, kb] at z⟩
          · exact ⟨fun v z => by simp at z, fun _ => (gX3_isDue_3_1 t (nI a) (nI b) (nI c) M ht (hlt c hc) (fun z => ka (e1.mp z)) (fun z => kb (e2.mp z)) (hp a ha) (hp b hb) (hp c hc) (hd.mpr hv)).to (by rw [nI_1])⟩
  exact ⟨fun hf => rX3_isDue_45 rfl (Nat.le_of_ble_eq_true rfl) rfl (K.2 hf), fun hf => rX3_isDue_37 rfl (Nat.le_of_ble_eq_true rfl) rfl (K.1 () hf)⟩
theorem dX3_isDue_1 {t n : Nat} {x y : Int32} {B : Nat → Nat → Nat → Bool} {M : pt_M} (h : tb_P M t n B) (hs : so_P M n) (hx : pt_in x n) (hy : pt_in y n) (hd : du_P n B M x y) : pt_Does yX3_isDue YX3_isDue [pt_r 6 0, pt_r 3 t, pt_i x, pt_i y] M (some (pt_i 1)) M := by
  have hn := h.2.1
  obtain ⟨a, ha, rfl⟩ := vp_in_of (pt_in_vp hx) (by omega)
  obtain ⟨b, hb, rfl⟩ := vp_in_of (pt_in_vp hy) (by omega)
  unfold du_P at hd
  rw [pt_nt_nI (by omega), pt_nt_nI (by omega)] at hd
  exact (dX3_isDue h hs ha hb).1 hd
theorem dX3_isDue_0 {t n : Nat} {x y : Int32} {B : Nat → Nat → Nat → Bool} {M : pt_M} (h : tb_P M t n B) (hs : so_P M n) (hx : pt_in x n) (hy : pt_in y n) (hd : ¬ du_P n B M x y) : pt_Does yX3_isDue YX3_isDue [pt_r 6 0, pt_r 3 t, pt_i x, pt_i y] M (some (pt_i 0)) M := by
  have hn := h.2.1
  obtain ⟨a, ha, rfl⟩ := vp_in_of (pt_in_vp hx) (by omega)
  obtain ⟨b, hb, rfl⟩ := vp_in_of (pt_in_vp hy) (by omega)
  unfold du_P at hd
  rw [pt_nt_nI (by omega), pt_nt_nI (by omega)] at hd
  refine (dX3_isDue h hs ha hb).2 ?_
  cases hv : du_F n B (sS_F M) a b with
  | none => exact absurd hv hd
  | some u => rfl
def lp_F (n : Nat) (B : Nat → Nat → Nat → Bool) (o : Nat → Nat) (S : Nat → Nat → Bool) : Option Nat := fs_F (n - 1 - 0) 0 fun q => if decide (o q < o (q + 1)) && (du_F n B S (o q) (o (q + 1))).isNone then some q else none
def lp_I (n : Nat) (B : Nat → Nat → Nat → Bool) (M : pt_M) : Int32 := match lp_F n B (og_F M) (sS_F M) with
  | some q => nI q
  | none => -1
theorem rX3_leastPlace_52 {vs : List pt_V} {M M' : pt_M} {x : Int32} {L : List (Nat × pt_V)} (hvs : (vs.map pt_w).sum ≤ 3) (hX : M'.2.2.2.2 = M.2.2.2.2) (h : pt_Go YX3_leastPlace (0, pt_en 0 vs, [], M) (52, L, [pt_i x], M')) : pt_Does yX3_leastPlace YX3_leastPlace vs M (some (pt_i x)) M' := pt_does_go tX3_leastPlace_ok nX3_leastPlace hvs hX ⟨_, by with_unfolding_all rfl, rfl, _, rfl, rfl⟩ h
theorem rX3_leastPlace_60 {vs : List pt_V} {M M' : pt_M} {x : Int32} {L : List (Nat × pt_V)} (hvs : (vs.map pt_w).sum ≤ 3) (hX : M'.2.2.2.2 = M.2.2.2.2) (h : pt_Go YX3_leastPlace (0, pt_en 0 vs, [], M) (60, L, [pt_i x], M')) : pt_Does yX3_leastPlace YX3_leastPlace vs M (some (pt_i x)) M' := pt_does_go tX3_leastPlace_ok nX3_leastPlace hvs hX ⟨_, by with_unfolding_all rfl, rfl, _, rfl, rfl⟩ h
set_option maxRecDepth 100000 in
theorem gX3_leastPlace_0_1 (t : Nat) (n : Nat) (B : Nat → Nat → Nat → Bool) (M : pt_M) :
    pt_Go YX3_leastPlace (0, [(0, pt_r 6 0), (1, pt_r 3 t)], [], M)
      (2, [(0, pt_r 6 0), (1, pt_r 3 t), (2, pt_i 0)], [], M) :=
  pt_run_ok tX3_leastPlace_ok 2 [] (P := True) (by with_unfolding_all rfl) trivial
set_option maxRecDepth 100000 in
theorem gX3_leastPlace_2_1 (t : Nat) (l2 : Int32) (n : Nat) (B : Nat → Nat → Nat → Bool) (M : pt_M) (h1 : t < 7) (h2 : ¬ (pt_F M 3 0 t) ≤ (l2 + 1)) (h3 : pt_in l2 10) (h4 : pt_in (l2 + 1) 10) (h5 : ¬ (pt_A M 17 0 (pt_nt (l2 + 1))) ≤ (pt_A M 17 0 (pt_nt l2))) (h6 : tb_P M t n B) (h7 : so_P M n) (h8 : pt_in (pt_A M 17 0 (pt_nt l2)) n) (h9 : pt_in (pt_A M 17 0 (pt_nt (l2 + 1))) n) (h10 : du_P n B M (pt_A M 17 0 (pt_nt l2)) (pt_A M 17 0 (pt_nt (l2 + 1)))) :
    pt_Go YX3_leastPlace (2, [(0, pt_r 6 0), (1, pt_r 3 t), (2, pt_i l2)], [], M)
      (52, [(0, pt_r 6 0), (1, pt_r 3 t), (2, pt_i l2)], [pt_i l2], M) :=
  pt_run_ok tX3_leastPlace_ok 32 [.inl false, .inl false, .inr (4, some (pt_i 1), M), .inl false] (P := (t < 7) ∧ (¬ (pt_F M 3 0 t) ≤ (l2 + 1)) ∧ (pt_in l2 10) ∧ (pt_in (l2 + 1) 10) ∧ (¬ (pt_A M 17 0 (pt_nt (l2 + 1))) ≤ (pt_A M 17 0 (pt_nt l2))) ∧ (pt_in l2 10) ∧ (pt_in (l2 + 1) 10) ∧ pt_Cal YX3_leastPlace (.invokevirtual 58) [pt_r 6 0, pt_r 3 t, pt_i (pt_A M 17 0 (pt_nt l2)), pt_i (pt_A M 17 0 (pt_nt (l2 + 1)))] M (some (pt_i 1)) M ∧ (¬ (1 : Int32) = (0 : Int32)) ∧ True) (by with_unfolding_all rfl) ⟨h1, h2, h3, h4, h5, h3, h4, (pt_callV (i := 0) kX3_leastPlace_58 mX3_isDue rfl (by decide) rfl (dX3_isDue_1 h6 h7 h8 h9 h10)), (by decide), trivial⟩
set_option maxRecDepth 100000 in
theorem gX3_leastPlace_2_2 (t : Nat) (l2 : Int32) (n : Nat) (B : Nat → Nat → Nat → Bool) (M : pt_M) (h1 : t < 7) (h2 : ¬ (pt_F M 3 0 t) ≤ (l2 + 1)) (h3 : pt_in l2 10) (h4 : pt_in (l2 + 1) 10) (h5 : ¬ (pt_A M 17 0 (pt_nt (l2 + 1))) ≤ (pt_A M 17 0 (pt_nt l2))) (h6 : tb_P M t n B) (h7 : so_P M n) (h8 : pt_in (pt_A M 17 0 (pt_nt l2)) n) (h9 : pt_in (pt_A M 17 0 (pt_nt (l2 + 1))) n) (h10 : ¬ du_P n B M (pt_A M 17 0 (pt_nt l2)) (pt_A M 17 0 (pt_nt (l2 + 1)))) :
    pt_Go YX3_leastPlace (2, [(0, pt_r 6 0), (1, pt_r 3 t), (2, pt_i l2)], [], M)
      (2, [(0, pt_r 6 0), (1, pt_r 3 t), (2, pt_i (l2 + 1))], [], M) :=
  pt_run_ok tX3_leastPlace_ok 33 [.inl false, .inl false, .inr (4, some (pt_i 0), M), .inl true] (P := (t < 7) ∧ (¬ (pt_F M 3 0 t) ≤ (l2 + 1)) ∧ (pt_in l2 10) ∧ (pt_in (l2 + 1) 10) ∧ (¬ (pt_A M 17 0 (pt_nt (l2 + 1))) ≤ (pt_A M 17 0 (pt_nt l2))) ∧ (pt_in l2 10) ∧ (pt_in (l2 + 1) 10) ∧ pt_Cal YX3_leastPlace (.invokevirtual 58) [pt_r 6 0, pt_r 3 t, pt_i (pt_A M 17 0 (pt_nt l2)), pt_i (pt_A M 17 0 (pt_nt (l2 + 1)))] M (some (pt_i 0)) M ∧ ((0 : Int32) = (0 : Int32)) ∧ True) (by with_unfolding_all rfl) ⟨h1, h2, h3, h4, h5, h3, h4, (pt_callV (i := 0) kX3_leastPlace_58 mX3_isDue rfl (by decide) rfl (dX3_isDue_0 h6 h7 h8 h9 h10)), (by decide), trivial⟩
set_option maxRecDepth 100000 in
theorem gX3_leastPlace_2_3 (t : Nat) (l2 : Int32) (n : Nat) (B : Nat → Nat → Nat → Bool) (M : pt_M) (h1 : t < 7) (h2 : ¬ (pt_F M 3 0 t) ≤ (l2 + 1)) (h3 : pt_in l2 10) (h4 : pt_in (l2 + 1) 10) (h5 : (pt_A M 17 0 (pt_nt (l2 + 1))) ≤ (pt_A M 17 0 (pt_nt l2))) :
    pt_Go YX3_leastPlace (2, [(0, pt_r 6 0), (1, pt_r 3 t), (2, pt_i l2)], [], M)
      (2, [(0, pt_r 6 0), (1, pt_r 3 t), (2, pt_i (l2 + 1))], [], M) :=
  pt_run_ok tX3_leastPlace_ok 19 [.inl false, .inl true] (P := (t < 7) ∧ (¬ (pt_F M 3 0 t) ≤ (l2 + 1)) ∧ (pt_in l2 10) ∧ (pt_in (l2 + 1) 10) ∧ ((pt_A M 17 0 (pt_nt (l2 + 1))) ≤ (pt_A M 17 0 (pt_nt l2))) ∧ True) (by with_unfolding_all rfl) ⟨h1, h2, h3, h4, h5, trivial⟩
set_option maxRecDepth 100000 in
theorem gX3_leastPlace_2_4 (t : Nat) (l2 : Int32) (n : Nat) (B : Nat → Nat → Nat → Bool) (M : pt_M) (h1 : t < 7) (h2 : (pt_F M 3 0 t) ≤ (l2 + 1)) :
    pt_Go YX3_leastPlace (2, [(0, pt_r 6 0), (1, pt_r 3 t), (2, pt_i l2)], [], M)
      (60, [(0, pt_r 6 0), (1, pt_r 3 t), (2, pt_i l2)], [pt_i (-1)], M) :=
  pt_run_ok tX3_leastPlace_ok 7 [.inl true] (P := (t < 7) ∧ ((pt_F M 3 0 t) ≤ (l2 + 1)) ∧ True) (by with_unfolding_all rfl) ⟨h1, h2, trivial⟩
theorem dX3_leastPlace {t n : Nat} {B : Nat → Nat → Nat → Bool} {M : pt_M} (h : tb_P M t n B) (hs : so_P M n) : pt_Does yX3_leastPlace YX3_leastPlace [pt_r 6 0, pt_r 3 t] M (some (pt_i (lp_I n B M))) M := by
  have htb := h
  obtain ⟨ht, hn, hsz, hB⟩ := h
  have K := pt_nest (Y := YX3_leastPlace) (σ := (0, [(0, pt_r 6 0), (1, pt_r 3 t)], [], M)) (τ := (60, [], [pt_i (-1)], M)) (R := fun q => (52, [], [pt_i (nI q)], M)) (n := n - 1) (i := 0)
    (S := fun q => (2, [(0, pt_r 6 0), (1, pt_r 3 t), (2, pt_i (nI q))], [], M)) (f := fun q => if decide (og_F M q < og_F M (q + 1)) && (du_F n B (sS_F M) (og_F M q) (og_F M (q + 1))).isNone then some q else none)
    (Nat.zero_le _) (gX3_leastPlace_0_1 t n B M) ((gX3_leastPlace_2_4 t (nI (n - 1)) n B M ht (by rw [hsz, nI_1]; exact nI_le (by omega) (by omega))).tr pt_dropA) fun q _ hq => by
      obtain ⟨a1, a2, -, -⟩ := hs q (by omega)
      obtain ⟨b1, b2, -, -⟩ := hs (q + 1) (by omega)
      have hlt : ¬ pt_F M 3 0 t ≤ nI q + 1 := by rw [hsz, nI_1]; exact nI_ge (by omega) (by omega)
      have p1 : pt_in (nI q) 10 := pt_in_nI (by omega) (by decide)
      have p2 : pt_in (nI q + 1) 10 := by rw [nI_1]; exact pt_in_nI (by omega) (by decide)
      have r1 : pt_A M 17 0 (pt_nt (nI q)) = nI (og_F M q) := by rw [pt_nt_nI (by omega)]; exact a1
      have r2 : pt_A M 17 0 (pt_nt (nI q + 1)) = nI (og_F M (q + 1)) := by rw [nI_1, pt_nt_nI (by omega)]; exact b1
      have hle := nI_leI (show og_F M (q + 1) < 2 ^ 31 by omega) (show og_F M q < 2 ^ 31 by omega)
      have q1 : pt_in (pt_A M 17 0 (pt_nt (nI q))) n := by rw [r1]; exact pt_in_nI a2 (by omega)
      have q2 : pt_in (pt_A M 17 0 (pt_nt (nI q + 1))) n := by rw [r2]; exact pt_in_nI b2 (by omega)
      have hdu : du_P n B M (pt_A M 17 0 (pt_nt (nI q))) (pt_A M 17 0 (pt_nt (nI q + 1))) ↔ du_F n B (sS_F M) (og_F M q) (og_F M (q + 1)) = none := by
        unfold du_P
        rw [r1, r2, pt_nt_nI (by omega), pt_nt_nI (by omega)]
      by_cases k1 : og_F M q < og_F M (q + 1)
      · have k1' : ¬ pt_A M 17 0 (pt_nt (nI q + 1)) ≤ pt_A M 17 0 (pt_nt (nI q)) := by rw [r1, r2, hle]; omega
        cases hv : du_F n B (sS_F M) (og_F M q) (og_F M (q + 1)) with
        | none =>
          refine ⟨fun v z => ?_, fun z => by simp [k1] at z⟩
          simp only [k1, decide_true, Option.isNone_none, Bool.and_self, if_true, Option.some.injEq] at z
          subst z
          exact (gX3_leastPlace_2_1 t (nI q) n B M ht hlt p1 p2 k1' htb hs q1 q2 (hdu.mpr hv)).tr pt_dropA
        | some u => exact ⟨fun v z => by simp at z, fun _ => (gX3_leastPlace_2_2 t (nI q) n B M ht hlt p1 p2 k1' htb hs q1 q2 (fun z => by rw [hdu, hv] at z; cases z)).to (by rw [nI_1])⟩
      · have k1' : pt_A M 17 0 (pt_nt (nI q + 1)) ≤ pt_A M 17 0 (pt_nt (nI q)) := by rw [r1, r2, hle]; omega
        exact ⟨fun v z => by simp [k1] at z, fun _ => (gX3_leastPlace_2_3 t (nI q) n B M ht hlt p1 p2 k1').to (by rw [nI_1])⟩
  unfold lp_I
  cases hf : lp_F n B (og_F M) (sS_F M) with
  | none => exact rX3_leastPlace_60 (Nat.le_of_ble_eq_true rfl) rfl (K.2 hf)
  | some v => exact rX3_leastPlace_52 (Nat.le_of_ble_eq_true rfl) rfl (K.1 v hf)
end
section
/-! Sweeper.fill; the tape -/
def fl_S (M : pt_M) (i j k : Nat) : Bool := decide (¬ pt_A M 19 0 (10 * j + k) ≤ pt_A M 19 0 (10 * i + j))
theorem rX3_fill_95 {vs : List pt_V} {M M' : pt_M} {L : List (Nat × pt_V)} (hvs : (vs.map pt_w).sum ≤ 6) (hX : M'.2.2.2.2 = M.2.2.2.2) (h : pt_Go YX3_fill (0, pt_en 0 vs, [], M) (95, L, [], M')) : pt_Does yX3_fill YX3_fill vs M none M' := pt_does_go tX3_fill_ok nX3_fill hvs hX ⟨_, by with_unfolding_all rfl, rfl, rfl⟩ h
set_option maxRecDepth 100000 in
theorem gX3_fill_0_1 (t : Nat) (n : Int32)  (M : pt_M) (h1 : t < 7) :
    pt_Go YX3_fill (0, [(0, pt_r 6 0), (1, pt_r 3 t), (2, pt_i n)], [], M)
      (7, [(0, pt_r 6 0), (1, pt_r 3 t), (2, pt_i n), (3, pt_i 0)], [], (bg_F M t n)) :=
  pt_run_ok tX3_fill_ok 5 [.inr (2, none, (bg_F M t n))] (P := pt_Cal YX3_fill (.invokevirtual 44) [pt_r 3 t, pt_i n] M none (bg_F M t n) ∧ True) (by with_unfolding_all rfl) ⟨(pt_callV (i := t) kX3_fill_44 mX4_begin rfl h1 rfl (dX4_begin h1)), trivial⟩
set_option maxRecDepth 100000 in
theorem gX3_fill_7_1 (t : Nat) (l2 : Int32) (l3 : Int32)  (M : pt_M) (h1 : ¬ l2 ≤ l3) :
    pt_Go YX3_fill (7, [(0, pt_r 6 0), (1, pt_r 3 t), (2, pt_i l2), (3, pt_i l3)], [], M)
      (17, [(0, pt_r 6 0), (1, pt_r 3 t), (2, pt_i l2), (3, pt_i l3), (4, pt_i (l3 + 1))], [], M) :=
  pt_run_ok tX3_fill_ok 7 [.inl false] (P := (¬ l2 ≤ l3) ∧ True) (by with_unfolding_all rfl) ⟨h1, trivial⟩
set_option maxRecDepth 100000 in
theorem gX3_fill_7_2 (t : Nat) (l2 : Int32) (l3 : Int32)  (M : pt_M) (h1 : l2 ≤ l3) :
    pt_Go YX3_fill (7, [(0, pt_r 6 0), (1, pt_r 3 t), (2, pt_i l2), (3, pt_i l3)], [], M)
      (95, [(0, pt_r 6 0), (1, pt_r 3 t), (2, pt_i l2), (3, pt_i l3)], [], M) :=
  pt_run_ok tX3_fill_ok 3 [.inl true] (P := (l2 ≤ l3) ∧ True) (by with_unfolding_all rfl) ⟨h1, trivial⟩
set_option maxRecDepth 100000 in
theorem gX3_fill_17_1 (t : Nat) (l2 : Int32) (l3 : Int32) (l4 : Int32)  (M : pt_M) (h1 : ¬ l2 ≤ l4) :
    pt_Go YX3_fill (17, [(0, pt_r 6 0), (1, pt_r 3 t), (2, pt_i l2), (3, pt_i l3), (4, pt_i l4)], [], M)
      (29, [(0, pt_r 6 0), (1, pt_r 3 t), (2, pt_i l2), (3, pt_i l3), (4, pt_i l4), (5, pt_i (l4 + 1))], [], M) :=
  pt_run_ok tX3_fill_ok 7 [.inl false] (P := (¬ l2 ≤ l4) ∧ True) (by with_unfolding_all rfl) ⟨h1, trivial⟩
set_option maxRecDepth 100000 in
theorem gX3_fill_17_2 (t : Nat) (l2 : Int32) (l3 : Int32) (l4 : Int32)  (M : pt_M) (h1 : l2 ≤ l4) :
    pt_Go YX3_fill (17, [(0, pt_r 6 0), (1, pt_r 3 t), (2, pt_i l2), (3, pt_i l3), (4, pt_i l4)], [], M)
      (7, [(0, pt_r 6 0), (1, pt_r 3 t), (2, pt_i l2), (3, pt_i (l3 + 1))], [], M) :=
  (pt_run_ok tX3_fill_ok 5 [.inl true] (P := (l2 ≤ l4) ∧ True) (by with_unfolding_all rfl) ⟨h1, trivial⟩ : pt_Go YX3_fill _ (7, [(0, pt_r 6 0), (1, pt_r 3 t), (2, pt_i l2), (3, pt_i (l3 + 1)), (4, pt_i l4)], [], M)).tr (pt_pick [0, 1, 2, 3] (by with_unfolding_all rfl))
set_option maxRecDepth 100000 in
theorem gX3_fill_29_1 (t : Nat) (l2 : Int32) (l3 : Int32) (l4 : Int32) (l5 : Int32)  (M : pt_M) (h1 : ¬ l2 ≤ l5) (h2 : pt_in ((l3 * 10) + l4) 100) (h3 : pt_in ((l4 * 10) + l5) 100) (h4 : ¬ (pt_A M 19 0 (pt_nt ((l4 * 10) + l5))) ≤ (pt_A M 19 0 (pt_nt ((l3 * 10) + l4)))) (h5 : t < 7) (h6 : pu_P l3 l4 l5) :
    pt_Go YX3_fill (29, [(0, pt_r 6 0), (1, pt_r 3 t), (2, pt_i l2), (3, pt_i l3), (4, pt_i l4), (5, pt_i l5)], [], M)
      (29, [(0, pt_r 6 0), (1, pt_r 3 t), (2, pt_i l2), (3, pt_i l3), (4, pt_i l4), (5, pt_i (l5 + 1))], [], (pu_F M t l3 l4 l5 1)) :=
  pt_run_ok tX3_fill_ok 29 [.inl false, .inl false, .inr (5, none, (pu_F M t l3 l4 l5 1))] (P := (¬ l2 ≤ l5) ∧ (pt_in ((l3 * 10) + l4) 100) ∧ (pt_in ((l4 * 10) + l5) 100) ∧ (¬ (pt_A M 19 0 (pt_nt ((l4 * 10) + l5))) ≤ (pt_A M 19 0 (pt_nt ((l3 * 10) + l4)))) ∧ pt_Cal YX3_fill (.invokevirtual 47) [pt_r 3 t, pt_i l3, pt_i l4, pt_i l5, pt_i 1] M none (pu_F M t l3 l4 l5 1) ∧ True) (by with_unfolding_all rfl) ⟨h1, h2, h3, h4, (pt_callV (i := t) kX3_fill_47 mX4_put rfl h5 rfl (dX4_putP h5 h6)), trivial⟩
set_option maxRecDepth 100000 in
theorem gX3_fill_29_2 (t : Nat) (l2 : Int32) (l3 : Int32) (l4 : Int32) (l5 : Int32)  (M : pt_M) (h1 : ¬ l2 ≤ l5) (h2 : pt_in ((l3 * 10) + l4) 100) (h3 : pt_in ((l4 * 10) + l5) 100) (h4 : (pt_A M 19 0 (pt_nt ((l4 * 10) + l5))) ≤ (pt_A M 19 0 (pt_nt ((l3 * 10) + l4)))) (h5 : t < 7) (h6 : pu_P l3 l4 l5) :
    pt_Go YX3_fill (29, [(0, pt_r 6 0), (1, pt_r 3 t), (2, pt_i l2), (3, pt_i l3), (4, pt_i l4), (5, pt_i l5)], [], M)
      (29, [(0, pt_r 6 0), (1, pt_r 3 t), (2, pt_i l2), (3, pt_i l3), (4, pt_i l4), (5, pt_i (l5 + 1))], [], (pu_F M t l3 l4 l5 0)) :=
  pt_run_ok tX3_fill_ok 28 [.inl false, .inl true, .inr (5, none, (pu_F M t l3 l4 l5 0))] (P := (¬ l2 ≤ l5) ∧ (pt_in ((l3 * 10) + l4) 100) ∧ (pt_in ((l4 * 10) + l5) 100) ∧ ((pt_A M 19 0 (pt_nt ((l4 * 10) + l5))) ≤ (pt_A M 19 0 (pt_nt ((l3 * 10) + l4)))) ∧ pt_Cal YX3_fill (.invokevirtual 47) [pt_r 3 t, pt_i l3, pt_i l4, pt_i l5, pt_i 0] M none (pu_F M t l3 l4 l5 0) ∧ True) (by with_unfolding_all rfl) ⟨h1, h2, h3, h4, (pt_callV (i := t) kX3_fill_47 mX4_put rfl h5 rfl (dX4_putP h5 h6)), trivial⟩
set_option maxRecDepth 100000 in
theorem gX3_fill_29_3 (t : Nat) (l2 : Int32) (l3 : Int32) (l4 : Int32) (l5 : Int32)  (M : pt_M) (h1 : l2 ≤ l5) :
    pt_Go YX3_fill (29, [(0, pt_r 6 0), (1, pt_r 3 t), (2, pt_i l2), (3, pt_i l3), (4, pt_i l4), (5, pt_i l5)], [], M)
      (17, [(0, pt_r 6 0), (1, pt_r 3 t), (2, pt_i l2), (3, pt_i l3), (4, pt_i (l4 + 1))], [], M) :=
  (pt_run_ok tX3_fill_ok 5 [.inl true] (P := (l2 ≤ l5) ∧ True) (by with_unfolding_all rfl) ⟨h1, trivial⟩ : pt_Go YX3_fill _ (17, [(0, pt_r 6 0), (1, pt_r 3 t), (2, pt_i l2), (3, pt_i l3), (4, pt_i (l4 + 1)), (5, pt_i l5)], [], M)).tr (pt_pick [0, 1, 2, 3, 4] (by with_unfolding_all rfl))
theorem dX3_fill {t n : Nat} {M : pt_M} (ht : t < 7) (hn : n ≤ 10) : pt_Does yX3_fill YX3_fill [pt_r 6 0, pt_r 3 t, pt_i (nI n)] M none (mt_F M t n (fl_S M)) := by
  generalize hs : fl_S M = s
  have h := pt_three (Y := YX3_fill) (n := n)
    (fun i => (7, [(0, pt_r 6 0), (1, pt_r 3 t), (2, pt_i (nI n)), (3, pt_i (nI i))], [], tw_F (hd_F M t (nI n)) t (pb_q (pb_d n i (i + 1) (i + 2)) s)))
    (fun i j => (17, [(0, pt_r 6 0), (1, pt_r 3 t), (2, pt_i (nI n)), (3, pt_i (nI i)), (4, pt_i (nI j))], [], tw_F (hd_F M t (nI n)) t (pb_q (pb_d n i j (j + 1)) s)))
    (fun i j k => (29, [(0, pt_r 6 0), (1, pt_r 3 t), (2, pt_i (nI n)), (3, pt_i (nI i)), (4, pt_i (nI j)), (5, pt_i (nI k))], [], tw_F (hd_F M t (nI n)) t (pb_q (pb_d n i j k) s)))
    (fun i hi => (gX3_fill_7_1 t (nI n) (nI i) _ (nI_ge hi (by omega))).to (by rw [nI_1]))
    (fun i j hij hj => (gX3_fill_17_1 t (nI n) (nI i) (nI j) _ (nI_ge hj (by omega))).to (by rw [nI_1]))
    (fun i hi => (gX3_fill_17_2 t (nI n) (nI i) (nI n) _ (Int32.le_refl _)).to (by rw [nI_1, pb_d_i (Nat.le_refl n)]))
    (fun i j k hij hjk hk => by
      have e1 : (nI i * 10) + nI j = nI (10 * i + j) := ix_nI i j
      have e2 : (nI j * 10) + nI k = nI (10 * j + k) := ix_nI j k
      have p1 : pt_in ((nI i * 10) + nI j) 100 := ix_in (by omega) (by omega)
      have p2 : pt_in ((nI j * 10) + nI k) 100 := ix_in (by omega) (by omega)
      have hA1 : pt_A (tw_F (hd_F M t (nI n)) t (pb_q (pb_d n i j k) s)) 19 0 (pt_nt ((nI i * 10) + nI j)) = pt_A M 19 0 (10 * i + j) := by
        rw [tw_A (by decide), e1, pt_nt_nI (by omega)]
      have hA2 : pt_A (tw_F (hd_F M t (nI n)) t (pb_q (pb_d n i j k) s)) 19 0 (pt_nt ((nI j * 10) + nI k)) = pt_A M 19 0 (10 * j + k) := by
        rw [tw_A (by decide), e2, pt_nt_nI (by omega)]
      have hb : s i j k = decide (¬ pt_A M 19 0 (10 * j + k) ≤ pt_A M 19 0 (10 * i + j)) := by rw [← hs]; rfl
      by_cases hv : pt_A M 19 0 (10 * j + k) ≤ pt_A M 19 0 (10 * i + j)
      · refine (gX3_fill_29_2 t (nI n) (nI i) (nI j) (nI k) _ (nI_ge hk (by omega)) p1 p2 (by rw [hA1, hA2]; exact hv) ht (pu_nI (by omega) (by omega) (by omega))).to ?_
        rw [decide_eq_false (fun z => z hv)] at hb
        rw [nI_1, show (0 : Int32) = pt_b false from rfl, pu_tw false (by omega) (by omega) (by omega), ← hb, pb_d_k hk s hij hjk]
      · refine (gX3_fill_29_1 t (nI n) (nI i) (nI j) (nI k) _ (nI_ge hk (by omega)) p1 p2 (by rw [hA1, hA2]; exact hv) ht (pu_nI (by omega) (by omega) (by omega))).to ?_
        rw [decide_eq_true hv] at hb
        rw [nI_1, show pu_F (tw_F (hd_F M t (nI n)) t (pb_q (pb_d n i j k) s)) t (nI i) (nI j) (nI k) 1 = pu_F (tw_F (hd_F M t (nI n)) t (pb_q (pb_d n i j k) s)) t (nI i) (nI j) (nI k) (pt_b true) from rfl, pu_tw true (by omega) (by omega) (by omega), ← hb, pb_d_k hk s hij hjk])
    (fun i j hij hj => (gX3_fill_29_3 t (nI n) (nI i) (nI j) (nI n) _ (Int32.le_refl _)).to (by rw [nI_1, pb_d_j]))
  refine rX3_fill_95 (Nat.le_of_ble_eq_true rfl) rfl (((gX3_fill_0_1 t (nI n) M ht).to ?_).tr (h.tr ((gX3_fill_7_2 t (nI n) (nI n) _ (Int32.le_refl _)).toM ?_)))
  · rw [bg_tw, ← pb_d_0 s]
    rfl
  · unfold mt_F
    rw [pb_d_n]
def by_H (M : pt_M) (x : Int32) : Prop := ¬ x < 0 ∧ ¬ (pt_F M 4 1 0) ≤ x ∧ pt_in x 140
theorem rX5_byteAt_22 {vs : List pt_V} {M M' : pt_M} {x : Int32} {L : List (Nat × pt_V)} (hvs : (vs.map pt_w).sum ≤ 2) (hX : M'.2.2.2.2 = M.2.2.2.2) (h : pt_Go YX5_byteAt (0, pt_en 0 vs, [], M) (22, L, [pt_i x], M')) : pt_Does yX5_byteAt YX5_byteAt vs M (some (pt_i x)) M' := pt_does_go tX5_byteAt_ok nX5_byteAt hvs hX ⟨_, by with_unfolding_all rfl, rfl, _, rfl, rfl⟩ h
set_option maxRecDepth 100000 in
theorem gX5_byteAt_0_1 (x1 : Int32)  (M : pt_M) (h1 : ¬ x1 < 0) (h2 : ¬ (pt_F M 4 1 0) ≤ x1) (h3 : pt_in x1 140) :
    pt_Go YX5_byteAt (0, [(0, pt_r 4 0), (1, pt_i x1)], [], M)
      (22, [(0, pt_r 4 0), (1, pt_i x1)], [pt_i (pt_A M 14 0 (pt_nt x1))], M) :=
  pt_run_ok tX5_byteAt_ok 11 [.inl false, .inl false] (P := (¬ x1 < 0) ∧ (¬ (pt_F M 4 1 0) ≤ x1) ∧ (pt_in x1 140) ∧ True) (by with_unfolding_all rfl) ⟨h1, h2, h3, trivial⟩
set_option maxRecDepth 100000 in
theorem gX5_byteAt_0_2 (x1 : Int32)  (M : pt_M) (h1 : ¬ x1 < 0) (h2 : (pt_F M 4 1 0) ≤ x1) :
    pt_Go YX5_byteAt (0, [(0, pt_r 4 0), (1, pt_i x1)], [], M)
      (22, [(0, pt_r 4 0), (1, pt_i x1)], [pt_i (-1)], M) :=
  pt_run_ok tX5_byteAt_ok 7 [.inl false, .inl true] (P := (¬ x1 < 0) ∧ ((pt_F M 4 1 0) ≤ x1) ∧ True) (by with_unfolding_all rfl) ⟨h1, h2, trivial⟩
set_option maxRecDepth 100000 in
theorem gX5_byteAt_0_3 (x1 : Int32)  (M : pt_M) (h1 : x1 < 0) :
    pt_Go YX5_byteAt (0, [(0, pt_r 4 0), (1, pt_i x1)], [], M)
      (22, [(0, pt_r 4 0), (1, pt_i x1)], [pt_i (-1)], M) :=
  pt_run_ok tX5_byteAt_ok 3 [.inl true] (P := (x1 < 0) ∧ True) (by with_unfolding_all rfl) ⟨h1, trivial⟩
theorem dX5_byteAt {x : Int32} {M : pt_M} (h : by_H M x) : pt_Does yX5_byteAt YX5_byteAt [pt_r 4 0, pt_i x] M (some (pt_i (pt_A M 14 0 (pt_nt x)))) M :=
  rX5_byteAt_22 (Nat.le_of_ble_eq_true rfl) rfl (gX5_byteAt_0_1 x M h.1 h.2.1 h.2.2)
/-- one byte more -/
def ab_M (M : pt_M) (v : Int32) : pt_M := pt_wF (pt_wA M 14 0 (upd (pt_A M 14 0) (pt_nt (pt_F M 4 1 0)) v)) 4 1 0 (pt_F M 4 1 0 + 1)
def by_F (x s : Int32) : Int32 := ((x.toUInt32 >>> (s.toUInt32 &&& Int32.toUInt32 31)).toInt32) &&& 255
def ad_M (M : pt_M) (x : Int32) : pt_M := ab_M (ab_M (ab_M (ab_M M (by_F x 24)) (by_F x 16)) (by_F x 8)) (by_F x 0)
def ad_H (M : pt_M) : Prop := ∃ L, pt_F M 4 1 0 = nI L ∧ L + 4 ≤ 140
theorem rX5_addNumber_49 {vs : List pt_V} {M M' : pt_M} {L : List (Nat × pt_V)} (hvs : (vs.map pt_w).sum ≤ 3) (hX : M'.2.2.2.2 = M.2.2.2.2) (h : pt_Go YX5_addNumber (0, pt_en 0 vs, [], M) (49, L, [], M')) : pt_Does yX5_addNumber YX5_addNumber vs M none M' := pt_does_go tX5_addNumber_ok nX5_addNumber hvs hX ⟨_, by with_unfolding_all rfl, rfl, rfl⟩ h
set_option maxRecDepth 100000 in
theorem gX5_addNumber_0_1 (x1 : Int32)  (M : pt_M) :
    pt_Go YX5_addNumber (0, [(0, pt_r 4 0), (1, pt_i x1)], [], M)
      (3, [(0, pt_r 4 0), (1, pt_i x1), (2, pt_i 24)], [], M) :=
  pt_run_ok tX5_addNumber_ok 2 [] (P := True) (by with_unfolding_all rfl) trivial
set_option maxRecDepth 100000 in
theorem gX5_addNumber_3_1 (l1 : Int32) (l2 : Int32)  (M : pt_M) (h1 : ¬ l2 < 0) (h2 : ¬ 140 ≤ (pt_F M 4 1 0)) (h3 : pt_in (pt_F M 4 1 0) 140) :
    pt_Go YX5_addNumber (3, [(0, pt_r 4 0), (1, pt_i l1), (2, pt_i l2)], [], M)
      (3, [(0, pt_r 4 0), (1, pt_i l1), (2, pt_i (l2 + (-8)))], [], (pt_wF (pt_wA M 14 0 (upd (pt_A M 14 0) (pt_nt (pt_F M 4 1 0)) (((l1.toUInt32 >>> (l2.toUInt32 &&& Int32.toUInt32 31)).toInt32) &&& 255))) 4 1 0 ((pt_F (pt_wA M 14 0 (upd (pt_A M 14 0) (pt_nt (pt_F M 4 1 0)) (((l1.toUInt32 >>> (l2.toUInt32 &&& Int32.toUInt32 31)).toInt32) &&& 255))) 4 1 0) + 1))) :=
  pt_run_ok tX5_addNumber_ok 24 [.inl false, .inl false] (P := (¬ l2 < 0) ∧ (¬ 140 ≤ (pt_F M 4 1 0)) ∧ (pt_in (pt_F M 4 1 0) 140) ∧ True) (by with_unfolding_all rfl) ⟨h1, h2, h3, trivial⟩
set_option maxRecDepth 100000 in
theorem gX5_addNumber_3_2 (l1 : Int32) (l2 : Int32)  (M : pt_M) (h1 : ¬ l2 < 0) (h2 : 140 ≤ (pt_F M 4 1 0)) :
    pt_Go YX5_addNumber (3, [(0, pt_r 4 0), (1, pt_i l1), (2, pt_i l2)], [], M)
      (49, [(0, pt_r 4 0), (1, pt_i l1), (2, pt_i l2)], [], M) :=
  pt_run_ok tX5_addNumber_ok 6 [.inl false, .inl true] (P := (¬ l2 < 0) ∧ (140 ≤ (pt_F M 4 1 0)) ∧ True) (by with_unfolding_all rfl) ⟨h1, h2, trivial⟩
set_option maxRecDepth 100000 in
theorem gX5_addNumber_3_3 (l1 : Int32) (l2 : Int32)  (M : pt_M) (h1 : l2 < 0) :
    pt_Go YX5_addNumber (3, [(0, pt_r 4 0), (1, pt_i l1), (2, pt_i l2)], [], M)
      (49, [(0, pt_r 4 0), (1, pt_i l1), (2, pt_i l2)], [], M) :=
  pt_run_ok tX5_addNumber_ok 2 [.inl true] (P := (l2 < 0) ∧ True) (by with_unfolding_all rfl) ⟨h1, trivial⟩
theorem ab_len {M : pt_M} {L : Nat} {v : Int32} (h : pt_F M 4 1 0 = nI L) : pt_F (ab_M M v) 4 1 0 = nI (L + 1) := by
  unfold ab_M
  rw [pt_F_wF, if_pos ⟨rfl, rfl, rfl⟩, h, nI_1]
theorem ad_step {M : pt_M} {x s s' : Int32} {L : Nat} (h : pt_F M 4 1 0 = nI L) (hL : L < 140) (hs : ¬ s < 0) (hs' : s + (-8) = s') : pt_Go YX5_addNumber (3, [(0, pt_r 4 0), (1, pt_i x), (2, pt_i s)], [], M) (3, [(0, pt_r 4 0), (1, pt_i x), (2, pt_i s')], [], ab_M M (by_F x s)) := by
  refine (gX5_addNumber_3_1 x s M hs (by rw [h]; exact nI_ge hL (by decide)) (by rw [h]; exact pt_in_nI hL (by decide))).to ?_
  rw [hs']
  rfl
theorem dX5_addNumber {x : Int32} {M : pt_M} (h : ad_H M) : pt_Does yX5_addNumber YX5_addNumber [pt_r 4 0, pt_i x] M none (ad_M M x) := by
  obtain ⟨L, hL, hl⟩ := h
  have l1 := ab_len (v := by_F x 24) hL
  have l2 := ab_len (v := by_F x 16) l1
  have l3 := ab_len (v := by_F x 8) l2
  exact rX5_addNumber_49 (Nat.le_of_ble_eq_true rfl) rfl ((gX5_addNumber_0_1 x M).tr ((ad_step (s := 24) (s' := 16) hL (by omega) (by decide) (by decide)).tr ((ad_step (s := 16) (s' := 8) l1 (by omega) (by decide) (by decide)).tr ((ad_step (s := 8) (s' := 0) l2 (by omega) (by decide) (by decide)).tr ((ad_step (s := 0) (s' := -8) l3 (by omega) (by decide) (by decide)).tr (gX5_addNumber_3_3 x (-8) _ (by decide)))))))
end
section
/-! Sweeper.find, read -/
def sN_F (n : Nat) : Nat := n * (n - 1) / 2
theorem so_tab : ((List.range 11).all fun n => decide (so_F (nI n) = nI (sN_F n)) && decide (sN_F n ≤ 45)) = true := by decide +kernel
theorem so_nI {n : Nat} (hn : n ≤ 10) : so_F (nI n) = nI (sN_F n) ∧ sN_F n ≤ 45 := by
  have h := pt_all so_tab (i := n) (by omega)
  simp only [Bool.and_eq_true, decide_eq_true_eq] at h
  exact h
theorem so_of {M : pt_M} {n : Nat} (hn : n ≤ 10) (h : ∀ p, p < n → (∃ v, v < n ∧ pt_A M 17 0 p = nI v) ∧ ∃ w, w < 1024 ∧ pt_A M 18 0 p = nI w) : so_P M n := by
  intro p hp
  obtain ⟨⟨v, hv, e1⟩, w, hw, e2⟩ := h p hp
  unfold og_F sg_F
  rw [e1, e2, pt_nt_nI (by omega), pt_nt_nI (by omega)]
  exact ⟨rfl, hv, rfl, hw⟩
theorem sa_17 {M : pt_M} {q : Nat} (hq : q + 1 < 2 ^ 31) : pt_A (sa_M M (nI q)) 17 0 = upd (upd (pt_A M 17 0) q (pt_A M 17 0 (q + 1))) (q + 1) (pt_A M 17 0 q) := by
  unfold sa_M
  rw [pt_A_wA, nI_1, pt_nt_nI hq, pt_nt_nI (by omega)]
theorem sa_18 {M : pt_M} {n q : Nat} (hn : n ≤ 10) (h : so_P M n) (hq : q + 1 < n) : pt_A (sa_M M (nI q)) 18 0 = fun p => if p = og_F M (q + 1) then nI ((if og_F M (q + 1) = og_F M q then sg_F M (og_F M q) ||| 2 ^ og_F M (q + 1) else sg_F M (og_F M (q + 1))) ||| 2 ^ og_F M q) else if p = og_F M q then nI (sg_F M (og_F M q) ||| 2 ^ og_F M (q + 1)) else pt_A M 18 0 p := by
  obtain ⟨a1, a2, -, -⟩ := h q (by omega)
  obtain ⟨b1, b2, -, -⟩ := h (q + 1) hq
  generalize hoa : og_F M q = a at *
  generalize hob : og_F M (q + 1) = b at *
  obtain ⟨-, -, c1, c2⟩ := h a a2
  obtain ⟨-, -, d1, d2⟩ := h b b2
  have e : pt_A (sa_M M (nI q)) 18 0 = upd (upd (pt_A M 18 0) a (pt_A M 18 0 a ||| ((1 : Int32) <<< (nI b &&& 31)))) b (upd (pt_A M 18 0) a (pt_A M 18 0 a ||| ((1 : Int32) <<< (nI b &&& 31))) b ||| ((1 : Int32) <<< (nI a &&& 31))) := by
    unfold sa_M
    rw [pt_A_wA', if_neg (fun z => absurd z.1 (by decide)), pt_A_wA, nI_1, pt_nt_nI (show q < 2 ^ 31 by omega), pt_nt_nI (show q + 1 < 2 ^ 31 by omega), a1, b1, pt_nt_nI (show a < 2 ^ 31 by omega), pt_nt_nI (show b < 2 ^ 31 by omega)]
  rw [e, pt_shl1 b (by omega), pt_shl1 a (by omega), c1, pt_or]
  funext p
  unfold upd
  by_cases e1 : p = b
  · rw [if_pos e1, if_pos e1]
    by_cases e2 : b = a
    · rw [if_pos e2, if_pos e2, pt_or]
    · rw [if_neg e2, if_neg e2, d1, pt_or]
  · rw [if_neg e1, if_neg e1]
theorem sa_so {M : pt_M} {n q : Nat} (hn : n ≤ 10) (h : so_P M n) (hq : q + 1 < n) : so_P (sa_M M (nI q)) n := by
  obtain ⟨a1, a2, -, -⟩ := h q (by omega)
  obtain ⟨b1, b2, -, -⟩ := h (q + 1) hq
  have q1 : ∀ a, a < n → 2 ^ a < 2 ^ 10 := fun a ha => p2_lt (by omega)
  refine so_of hn fun p hp => ?_
  obtain ⟨p1, p2, p3, p4⟩ := h p hp
  constructor
  · rw [sa_17 (by omega)]
    unfold upd
    split
    · exact ⟨_, a2, a1⟩
    · split
      · exact ⟨_, b2, b1⟩
      · exact ⟨_, p2, p1⟩
  · rw [sa_18 hn h hq]
    dsimp only
    split
    · refine ⟨_, Nat.or_lt_two_pow (n := 10) ?_ (q1 _ a2), rfl⟩
      split
      · exact Nat.or_lt_two_pow (h _ a2).2.2.2 (q1 _ b2)
      · exact (h _ b2).2.2.2
    · split
      · exact ⟨_, Nat.or_lt_two_pow (n := 10) (h _ a2).2.2.2 (q1 _ b2), rfl⟩
      · exact ⟨_, p4, p3⟩
/-- what stays under the sweeper's work -/
def ks_P (M M' : pt_M) : Prop := pt_F M' = pt_F M ∧ (∀ k i, k ≠ 16 → k ≠ 17 → k ≠ 18 → k ≠ 19 → pt_A M' k i = pt_A M k i) ∧ M'.2.2 = M.2.2
theorem ks_P.rf {M : pt_M} : ks_P M M := ⟨rfl, fun _ _ _ _ _ _ => rfl, rfl⟩
theorem ks_P.tr {M M' M'' : pt_M} (h : ks_P M M') (h' : ks_P M' M'') : ks_P M M'' := ⟨h'.1.trans h.1, fun k i a b c d => (h'.2.1 k i a b c d).trans (h.2.1 k i a b c d), h'.2.2.trans h.2.2⟩
theorem ks_w {M : pt_M} {k i : Nat} {g : Nat → Int32} (h : k = 16 ∨ k = 17 ∨ k = 18 ∨ k = 19) : ks_P M (pt_wA M k i g) := ⟨rfl, fun k' i' a b c d => if_neg (fun z => by rcases h with rfl | rfl | rfl | rfl <;> (first | exact a z.1 | exact b z.1 | exact c z.1 | exact d z.1)), rfl⟩
theorem ks_sa {M : pt_M} {x : Int32} : ks_P M (sa_M M x) := (ks_w (by decide)).tr (ks_w (by decide))
theorem ks_sb {M : pt_M} {n : Nat} : ks_P M (sb_M M n) := (ks_w (by decide)).tr (ks_w (by decide))
theorem tb_P.ks {M M' : pt_M} {t n : Nat} {B : Nat → Nat → Nat → Bool} (h : tb_P M t n B) (hk : ks_P M M') : tb_P M' t n B := ⟨h.1, h.2.1, by rw [hk.1]; exact h.2.2.1, fun i j hi hj => by rw [hk.2.1 11 t (by decide) (by decide) (by decide) (by decide)]; exact h.2.2.2 i j hi hj⟩
theorem sb_so {M : pt_M} {n : Nat} (hn : n ≤ 10) : so_P (sb_M M n) n := so_of hn fun p hp => ⟨⟨p, hp, by show (if p < n then nI p else _) = _; rw [if_pos hp]⟩, 0, by decide, by show (if p < n then (0 : Int32) else _) = _; rw [if_pos hp]; rfl⟩
def fm_M (n : Nat) (B : Nat → Nat → Nat → Bool) (M : pt_M) : Nat → pt_M
  | 0 => M
  | k + 1 => match lp_F n B (og_F (fm_M n B M k)) (sS_F (fm_M n B M k)) with
    | none => fm_M n B M k
    | some q => sa_M (pt_wA (fm_M n B M k) 16 0 (upd (pt_A (fm_M n B M k) 16 0) k (nI q))) (nI q)
theorem lp_lt {n q : Nat} {B : Nat → Nat → Nat → Bool} {o : Nat → Nat} {S : Nat → Nat → Bool} (h : lp_F n B o S = some q) : q + 1 < n := by
  refine fs_lt (P := fun q => q + 1 < n) (fun a w h1 h2 h3 => ?_) h
  split at h3
  · cases h3
    omega
  · cases h3
theorem fm_ok {M : pt_M} {n : Nat} {B : Nat → Nat → Nat → Bool} (hn : n ≤ 10) (h : so_P M n) : ∀ k, so_P (fm_M n B M k) n ∧ ks_P M (fm_M n B M k)
  | 0 => ⟨h, ks_P.rf⟩
  | k + 1 => by
    obtain ⟨i1, i2⟩ := fm_ok (B := B) hn h k
    show so_P (match lp_F n B (og_F (fm_M n B M k)) (sS_F (fm_M n B M k)) with | none => _ | some q => _) n ∧ ks_P M (match lp_F n B (og_F (fm_M n B M k)) (sS_F (fm_M n B M k)) with | none => _ | some q => _)
    cases hl : lp_F n B (og_F (fm_M n B M k)) (sS_F (fm_M n B M k)) with
    | none => exact ⟨i1, i2⟩
    | some q => exact ⟨sa_so hn (show so_P (pt_wA _ 16 0 _) n from i1) (lp_lt hl), i2.tr ((ks_w (by decide)).tr ks_sa)⟩
theorem rX3_find_33 {vs : List pt_V} {M M' : pt_M} {x : Int32} {L : List (Nat × pt_V)} (hn : narrow .boolean (.int x) = .int x) (hvs : (vs.map pt_w).sum ≤ 4) (hX : M'.2.2.2.2 = M.2.2.2.2) (h : pt_Go YX3_find (0, pt_en 0 vs, [], M) (33, L, [pt_i x], M')) : pt_Does yX3_find YX3_find vs M (some (pt_i x)) M' := pt_does_go tX3_find_ok nX3_find hvs hX ⟨_, by with_unfolding_all rfl, rfl, _, rfl, hn⟩ h
theorem rX3_find_53 {vs : List pt_V} {M M' : pt_M} {x : Int32} {L : List (Nat × pt_V)} (hn : narrow .boolean (.int x) = .int x) (hvs : (vs.map pt_w).sum ≤ 4) (hX : M'.2.2.2.2 = M.2.2.2.2) (h : pt_Go YX3_find (0, pt_en 0 vs, [], M) (53, L, [pt_i x], M')) : pt_Does yX3_find YX3_find vs M (some (pt_i x)) M' := pt_does_go tX3_find_ok nX3_find hvs hX ⟨_, by with_unfolding_all rfl, rfl, _, rfl, hn⟩ h
set_option maxRecDepth 100000 in
theorem gX3_find_0_1 (t : Nat) (n : Nat) (B : Nat → Nat → Nat → Bool) (M : pt_M) (h1 : t < 7) (h2 : bn_P (pt_F M 3 0 t)) :
    pt_Go YX3_find (0, [(0, pt_r 6 0), (1, pt_r 3 t)], [], M)
      (10, [(0, pt_r 6 0), (1, pt_r 3 t), (2, pt_i 0)], [], (sb_M M (pt_nt (pt_F M 3 0 t)))) :=
  pt_run_ok tX3_find_ok 6 [.inr (2, none, (sb_M M (pt_nt (pt_F M 3 0 t))))] (P := (t < 7) ∧ pt_Cal YX3_find (.invokevirtual 34) [pt_r 6 0, pt_i (pt_F M 3 0 t)] M none (sb_M M (pt_nt (pt_F M 3 0 t))) ∧ True) (by with_unfolding_all rfl) ⟨h1, (pt_callV (i := 0) kX3_find_34 mX3_begin rfl (by decide) rfl (dX3_begin h2)), trivial⟩
set_option maxRecDepth 100000 in
theorem gX3_find_10_1 (t : Nat) (l2 : Int32) (n : Nat) (B : Nat → Nat → Nat → Bool) (M : pt_M) (h1 : t < 7) (h2 : ¬ (so_F (pt_F M 3 0 t)) ≤ l2) (h3 : tb_P M t n B) (h4 : so_P M n) (h5 : (lp_I n B M) = (-1)) :
    pt_Go YX3_find (10, [(0, pt_r 6 0), (1, pt_r 3 t), (2, pt_i l2)], [], M)
      (33, [(0, pt_r 6 0), (1, pt_r 3 t), (2, pt_i l2), (3, pt_i (lp_I n B M))], [pt_i 0], M) :=
  pt_run_ok tX3_find_ok 13 [.inr (1, some (pt_i (so_F (pt_F M 3 0 t))), M), .inl false, .inr (2, some (pt_i (lp_I n B M)), M), .inl false] (P := (t < 7) ∧ pt_Cal YX3_find (.invokestatic 30) [pt_i (pt_F M 3 0 t)] M (some (pt_i (so_F (pt_F M 3 0 t)))) M ∧ (¬ (so_F (pt_F M 3 0 t)) ≤ l2) ∧ pt_Cal YX3_find (.invokevirtual 54) [pt_r 6 0, pt_r 3 t] M (some (pt_i (lp_I n B M))) M ∧ ((lp_I n B M) = (-1)) ∧ True) (by with_unfolding_all rfl) ⟨h1, (pt_callN (h := "PointTables") (idx := 30) (fun _ z => z.2) kX3_find_30 mX6_swapsOf rfl (dX6_swapsOf (pt_F M 3 0 t) M)), h2, (pt_callV (i := 0) kX3_find_54 mX3_leastPlace rfl (by decide) rfl (dX3_leastPlace h3 h4)), h5, trivial⟩
set_option maxRecDepth 100000 in
theorem gX3_find_10_2 (t : Nat) (l2 : Int32) (n : Nat) (B : Nat → Nat → Nat → Bool) (M : pt_M) (h1 : t < 7) (h2 : ¬ (so_F (pt_F M 3 0 t)) ≤ l2) (h3 : tb_P M t n B) (h4 : so_P M n) (h5 : ¬ (lp_I n B M) = (-1)) (h6 : pt_in l2 45) (h7 : sa_H (pt_wA M 16 0 (upd (pt_A M 16 0) (pt_nt l2) (lp_I n B M))) (lp_I n B M)) :
    pt_Go YX3_find (10, [(0, pt_r 6 0), (1, pt_r 3 t), (2, pt_i l2)], [], M)
      (10, [(0, pt_r 6 0), (1, pt_r 3 t), (2, pt_i (l2 + 1))], [], (sa_M (pt_wA M 16 0 (upd (pt_A M 16 0) (pt_nt l2) (lp_I n B M))) (lp_I n B M))) :=
  (pt_run_ok tX3_find_ok 22 [.inr (1, some (pt_i (so_F (pt_F M 3 0 t))), M), .inl false, .inr (2, some (pt_i (lp_I n B M)), M), .inl true, .inr (2, none, (sa_M (pt_wA M 16 0 (upd (pt_A M 16 0) (pt_nt l2) (lp_I n B M))) (lp_I n B M)))] (P := (t < 7) ∧ pt_Cal YX3_find (.invokestatic 30) [pt_i (pt_F M 3 0 t)] M (some (pt_i (so_F (pt_F M 3 0 t)))) M ∧ (¬ (so_F (pt_F M 3 0 t)) ≤ l2) ∧ pt_Cal YX3_find (.invokevirtual 54) [pt_r 6 0, pt_r 3 t] M (some (pt_i (lp_I n B M))) M ∧ (¬ (lp_I n B M) = (-1)) ∧ (pt_in l2 45) ∧ pt_Cal YX3_find (.invokevirtual 41) [pt_r 6 0, pt_i (lp_I n B M)] (pt_wA M 16 0 (upd (pt_A M 16 0) (pt_nt l2) (lp_I n B M))) none (sa_M (pt_wA M 16 0 (upd (pt_A M 16 0) (pt_nt l2) (lp_I n B M))) (lp_I n B M)) ∧ True) (by with_unfolding_all rfl) ⟨h1, (pt_callN (h := "PointTables") (idx := 30) (fun _ z => z.2) kX3_find_30 mX6_swapsOf rfl (dX6_swapsOf (pt_F M 3 0 t) M)), h2, (pt_callV (i := 0) kX3_find_54 mX3_leastPlace rfl (by decide) rfl (dX3_leastPlace h3 h4)), h5, h6, (pt_callV (i := 0) kX3_find_41 mX3_swapAt rfl (by decide) rfl (dX3_swapAt h7)), trivial⟩ : pt_Go YX3_find _ (10, [(0, pt_r 6 0), (1, pt_r 3 t), (2, pt_i (l2 + 1)), (3, pt_i (lp_I n B M))], [], (sa_M (pt_wA M 16 0 (upd (pt_A M 16 0) (pt_nt l2) (lp_I n B M))) (lp_I n B M)))).tr (pt_pick [0, 1, 2] (by with_unfolding_all rfl))
set_option maxRecDepth 100000 in
theorem gX3_find_10_3 (t : Nat) (l2 : Int32) (n : Nat) (B : Nat → Nat → Nat → Bool) (M : pt_M) (h1 : t < 7) (h2 : (so_F (pt_F M 3 0 t)) ≤ l2) :
    pt_Go YX3_find (10, [(0, pt_r 6 0), (1, pt_r 3 t), (2, pt_i l2)], [], M)
      (53, [(0, pt_r 6 0), (1, pt_r 3 t), (2, pt_i l2)], [pt_i 1], M) :=
  pt_run_ok tX3_find_ok 6 [.inr (1, some (pt_i (so_F (pt_F M 3 0 t))), M), .inl true] (P := (t < 7) ∧ pt_Cal YX3_find (.invokestatic 30) [pt_i (pt_F M 3 0 t)] M (some (pt_i (so_F (pt_F M 3 0 t)))) M ∧ ((so_F (pt_F M 3 0 t)) ≤ l2) ∧ True) (by with_unfolding_all rfl) ⟨h1, (pt_callN (h := "PointTables") (idx := 30) (fun _ z => z.2) kX3_find_30 mX6_swapsOf rfl (dX6_swapsOf (pt_F M 3 0 t) M)), h2, trivial⟩
def fd_F (n : Nat) (B : Nat → Nat → Nat → Bool) (M : pt_M) : Option Nat := fs_F (sN_F n - 0) 0 fun k => if (lp_F n B (og_F (fm_M n B M k)) (sS_F (fm_M n B M k))).isNone then some k else none
theorem dX3_find {t n : Nat} {B : Nat → Nat → Nat → Bool} {M : pt_M} (h : tb_P M t n B) : (fd_F n B (sb_M M n) = none → pt_Does yX3_find YX3_find [pt_r 6 0, pt_r 3 t] M (some (pt_i 1)) (fm_M n B (sb_M M n) (sN_F n))) ∧ (∀ k, fd_F n B (sb_M M n) = some k → pt_Does yX3_find YX3_find [pt_r 6 0, pt_r 3 t] M (some (pt_i 0)) (fm_M n B (sb_M M n) k)) := by
  have ht := h.1
  have hn := h.2.1
  have hs := h.2.2.1
  obtain ⟨hso, h45⟩ := so_nI hn
  have hks : ∀ k, ks_P M (fm_M n B (sb_M M n) k) := fun k => ks_sb.tr (fm_ok (B := B) hn (sb_so hn) k).2
  have hF : ∀ k, pt_F (fm_M n B (sb_M M n) k) 3 0 t = nI n := fun k => by rw [(hks k).1]; exact hs
  have K := pt_nest (Y := YX3_find) (σ := (0, [(0, pt_r 6 0), (1, pt_r 3 t)], [], M)) (τ := (53, [], [pt_i 1], fm_M n B (sb_M M n) (sN_F n))) (R := fun k => (33, [], [pt_i 0], fm_M n B (sb_M M n) k)) (n := sN_F n) (i := 0)
    (S := fun k => (10, [(0, pt_r 6 0), (1, pt_r 3 t), (2, pt_i (nI k))], [], fm_M n B (sb_M M n) k)) (f := fun k => if (lp_F n B (og_F (fm_M n B (sb_M M n) k)) (sS_F (fm_M n B (sb_M M n) k))).isNone then some k else none)
    (Nat.zero_le _) ((gX3_find_0_1 t n B M ht ⟨n, hs, hn⟩).toM (by rw [hs, pt_nt_nI (by omega)]; rfl)) ((gX3_find_10_3 t (nI (sN_F n)) n B (fm_M n B (sb_M M n) (sN_F n)) ht (by rw [hF, hso]; exact Int32.le_refl _)).tr pt_dropA) fun k _ hk => by
      have hso' := (fm_ok (B := B) hn (sb_so (M := M) hn) k).1
      have htb := h.ks (hks k)
      have hlt : ¬ so_F (pt_F (fm_M n B (sb_M M n) k) 3 0 t) ≤ nI k := by rw [hF, hso]; exact nI_ge hk (by omega)
      cases hl : lp_F n B (og_F (fm_M n B (sb_M M n) k)) (sS_F (fm_M n B (sb_M M n) k)) with
      | none =>
        have e : lp_I n B (fm_M n B (sb_M M n) k) = -1 := by unfold lp_I; rw [hl]
        refine ⟨fun v z => ?_, fun z => by simp at z⟩
        simp only [Option.isNone_none, if_true, Option.some.injEq] at z
        subst z
        exact (gX3_find_10_1 t (nI k) n B (fm_M n B (sb_M M n) k) ht hlt htb hso' e).tr pt_dropA
      | some q =>
        have hq := lp_lt hl
        have e : lp_I n B (fm_M n B (sb_M M n) k) = nI q := by unfold lp_I; rw [hl]
        refine ⟨fun v z => by simp at z, fun _ => ?_⟩
        obtain ⟨a1, a2, -, -⟩ := hso' q (by omega)
        obtain ⟨b1, b2, -, -⟩ := hso' (q + 1) hq
        have hH : sa_H (pt_wA (fm_M n B (sb_M M n) k) 16 0 (upd (pt_A (fm_M n B (sb_M M n) k) 16 0) (pt_nt (nI k)) (lp_I n B (fm_M n B (sb_M M n) k)))) (lp_I n B (fm_M n B (sb_M M n) k)) := by
          rw [e]
          refine ⟨pt_in_nI (by omega) (by decide), by rw [nI_1]; exact pt_in_nI (by omega) (by decide), ?_, ?_⟩
          · rw [pt_A_wA', if_neg (fun z => absurd z.1 (by decide)), pt_nt_nI (by omega), a1]
            exact pt_in_nI (by omega) (by decide)
          · rw [pt_A_wA', if_neg (fun z => absurd z.1 (by decide)), nI_1, pt_nt_nI (by omega), b1]
            exact pt_in_nI (by omega) (by decide)
        refine (gX3_find_10_2 t (nI k) n B (fm_M n B (sb_M M n) k) ht hlt htb hso' (by rw [e]; exact nI_m1 (by omega)) (pt_in_nI (by omega) (by decide)) hH).to ?_
        have e2 : fm_M n B (sb_M M n) (k + 1) = sa_M (pt_wA (fm_M n B (sb_M M n) k) 16 0 (upd (pt_A (fm_M n B (sb_M M n) k) 16 0) k (nI q))) (nI q) := by
          show (match lp_F n B (og_F (fm_M n B (sb_M M n) k)) (sS_F (fm_M n B (sb_M M n) k)) with | none => _ | some q => _) = _
          rw [hl]
        rw [nI_1, e2, e, pt_nt_nI (by omega)]
  exact ⟨fun hf => rX3_find_53 rfl (Nat.le_of_ble_eq_true rfl) (by rw [(hks _).2.2]) (K.2 hf), fun k hf => rX3_find_33 rfl (Nat.le_of_ble_eq_true rfl) (by rw [(hks _).2.2]) (K.1 k hf)⟩
/-! reading a sweep off the tape -/
def rd_F (n q : Nat) (o : Nat → Nat) : Bool := decide (q + 2 ≤ n) && decide (o q ≤ o (q + 1))
def rm_M (n : Nat) (b : Nat → Nat) (M : pt_M) : Nat → pt_M
  | 0 => M
  | k + 1 => if rd_F n (b k) (og_F (rm_M n b M k)) then sa_M (pt_wA (rm_M n b M k) 19 0 (upd (pt_A (rm_M n b M k) 19 0) (10 * og_F (rm_M n b M k) (b k) + og_F (rm_M n b M k) (b k + 1)) (nI k))) (nI (b k)) else rm_M n b M k
theorem rm_ok {M : pt_M} {n : Nat} {b : Nat → Nat} (hn : n ≤ 10) (h : so_P M n) : ∀ k, so_P (rm_M n b M k) n ∧ ks_P M (rm_M n b M k)
  | 0 => ⟨h, ks_P.rf⟩
  | k + 1 => by
    obtain ⟨i1, i2⟩ := rm_ok (b := b) hn h k
    show so_P (if _ then _ else _) n ∧ ks_P M (if _ then _ else _)
    split
    · rename_i hr
      unfold rd_F at hr
      simp only [Bool.and_eq_true, decide_eq_true_eq] at hr
      exact ⟨sa_so hn (show so_P (pt_wA _ 19 0 _) n from i1) (by omega), i2.tr ((ks_w (by decide)).tr ks_sa)⟩
    · exact ⟨i1, i2⟩
/-- the tape: L bytes b -/
def tp_P (M : pt_M) (L : Nat) (b : Nat → Nat) : Prop := pt_F M 4 1 0 = nI L ∧ L ≤ 140 ∧ ∀ p, p < L → pt_A M 14 0 p = nI (b p) ∧ b p < 256
theorem tp_by {M : pt_M} {L p : Nat} {b : Nat → Nat} (h : tp_P M L b) (hp : p < L) : by_H M (nI p) := by
  obtain ⟨h1, h2, -⟩ := h
  refine ⟨nI_pos (by omega), ?_, pt_in_nI (by omega) (by decide)⟩
  rw [h1]
  exact nI_ge hp (by omega)
theorem tp_P.ks {M M' : pt_M} {L : Nat} {b : Nat → Nat} (h : tp_P M L b) (hk : ks_P M M') : tp_P M' L b := ⟨by rw [hk.1]; exact h.1, h.2.1, fun p hp => by rw [hk.2.1 14 0 (by decide) (by decide) (by decide) (by decide)]; exact h.2.2 p hp⟩
theorem rX3_read_12 {vs : List pt_V} {M M' : pt_M} {x : Int32} {L : List (Nat × pt_V)} (hn : narrow .boolean (.int x) = .int x) (hvs : (vs.map pt_w).sum ≤ 5) (hX : M'.2.2.2.2 = M.2.2.2.2) (h : pt_Go YX3_read (0, pt_en 0 vs, [], M) (12, L, [pt_i x], M')) : pt_Does yX3_read YX3_read vs M (some (pt_i x)) M' := pt_does_go tX3_read_ok nX3_read hvs hX ⟨_, by with_unfolding_all rfl, rfl, _, rfl, hn⟩ h
theorem rX3_read_68 {vs : List pt_V} {M M' : pt_M} {x : Int32} {L : List (Nat × pt_V)} (hn : narrow .boolean (.int x) = .int x) (hvs : (vs.map pt_w).sum ≤ 5) (hX : M'.2.2.2.2 = M.2.2.2.2) (h : pt_Go YX3_read (0, pt_en 0 vs, [], M) (68, L, [pt_i x], M')) : pt_Does yX3_read YX3_read vs M (some (pt_i x)) M' := pt_does_go tX3_read_ok nX3_read hvs hX ⟨_, by with_unfolding_all rfl, rfl, _, rfl, hn⟩ h
theorem rX3_read_108 {vs : List pt_V} {M M' : pt_M} {x : Int32} {L : List (Nat × pt_V)} (hn : narrow .boolean (.int x) = .int x) (hvs : (vs.map pt_w).sum ≤ 5) (hX : M'.2.2.2.2 = M.2.2.2.2) (h : pt_Go YX3_read (0, pt_en 0 vs, [], M) (108, L, [pt_i x], M')) : pt_Does yX3_read YX3_read vs M (some (pt_i x)) M' := pt_does_go tX3_read_ok nX3_read hvs hX ⟨_, by with_unfolding_all rfl, rfl, _, rfl, hn⟩ h
set_option maxRecDepth 100000 in
theorem gX3_read_0_1 (x2 : Int32)  (M : pt_M) (h1 : ¬ (pt_F M 4 1 0) = (so_F x2)) :
    pt_Go YX3_read (0, [(0, pt_r 6 0), (1, pt_r 4 0), (2, pt_i x2)], [], M)
      (12, [(0, pt_r 6 0), (1, pt_r 4 0), (2, pt_i x2)], [pt_i 0], M) :=
  pt_run_ok tX3_read_ok 6 [.inr (1, some (pt_i (so_F x2)), M), .inl false] (P := pt_Cal YX3_read (.invokestatic 30) [pt_i x2] M (some (pt_i (so_F x2))) M ∧ (¬ (pt_F M 4 1 0) = (so_F x2)) ∧ True) (by with_unfolding_all rfl) ⟨(pt_callN (h := "PointTables") (idx := 30) (fun _ z => z.2) kX3_read_30 mX6_swapsOf rfl (dX6_swapsOf x2 M)), h1, trivial⟩
set_option maxRecDepth 100000 in
theorem gX3_read_0_2 (x2 : Int32)  (M : pt_M) (h1 : (pt_F M 4 1 0) = (so_F x2)) (h2 : bn_P x2) :
    pt_Go YX3_read (0, [(0, pt_r 6 0), (1, pt_r 4 0), (2, pt_i x2)], [], M)
      (20, [(0, pt_r 6 0), (1, pt_r 4 0), (2, pt_i x2), (3, pt_i 0)], [], (sb_M M (pt_nt x2))) :=
  pt_run_ok tX3_read_ok 10 [.inr (1, some (pt_i (so_F x2)), M), .inl true, .inr (2, none, (sb_M M (pt_nt x2)))] (P := pt_Cal YX3_read (.invokestatic 30) [pt_i x2] M (some (pt_i (so_F x2))) M ∧ ((pt_F M 4 1 0) = (so_F x2)) ∧ pt_Cal YX3_read (.invokevirtual 34) [pt_r 6 0, pt_i x2] M none (sb_M M (pt_nt x2)) ∧ True) (by with_unfolding_all rfl) ⟨(pt_callN (h := "PointTables") (idx := 30) (fun _ z => z.2) kX3_read_30 mX6_swapsOf rfl (dX6_swapsOf x2 M)), h1, (pt_callV (i := 0) kX3_read_34 mX3_begin rfl (by decide) rfl (dX3_begin h2)), trivial⟩
set_option maxRecDepth 100000 in
theorem gX3_read_20_1 (l2 : Int32) (l3 : Int32)  (M : pt_M) (h1 : ¬ (pt_F M 4 1 0) ≤ l3) (h2 : by_H M l3) (h3 : ¬ (pt_A M 14 0 (pt_nt l3)) < 0) (h4 : ¬ (l2 - 2) < (pt_A M 14 0 (pt_nt l3))) (h5 : pt_in (pt_A M 14 0 (pt_nt l3)) 10) (h6 : pt_in ((pt_A M 14 0 (pt_nt l3)) + 1) 10) (h7 : ¬ (pt_A M 17 0 (pt_nt (pt_A M 14 0 (pt_nt l3)))) ≤ (pt_A M 17 0 (pt_nt ((pt_A M 14 0 (pt_nt l3)) + 1)))) :
    pt_Go YX3_read (20, [(0, pt_r 6 0), (1, pt_r 4 0), (2, pt_i l2), (3, pt_i l3)], [], M)
      (68, [(0, pt_r 6 0), (1, pt_r 4 0), (2, pt_i l2), (3, pt_i l3), (4, pt_i (pt_A M 14 0 (pt_nt l3)))], [pt_i 0], M) :=
  pt_run_ok tX3_read_ok 27 [.inl false, .inr (2, some (pt_i (pt_A M 14 0 (pt_nt l3))), M), .inl false, .inl false, .inl false] (P := (¬ (pt_F M 4 1 0) ≤ l3) ∧ pt_Cal YX3_read (.invokevirtual 38) [pt_r 4 0, pt_i l3] M (some (pt_i (pt_A M 14 0 (pt_nt l3)))) M ∧ (¬ (pt_A M 14 0 (pt_nt l3)) < 0) ∧ (¬ (l2 - 2) < (pt_A M 14 0 (pt_nt l3))) ∧ (pt_in (pt_A M 14 0 (pt_nt l3)) 10) ∧ (pt_in ((pt_A M 14 0 (pt_nt l3)) + 1) 10) ∧ (¬ (pt_A M 17 0 (pt_nt (pt_A M 14 0 (pt_nt l3)))) ≤ (pt_A M 17 0 (pt_nt ((pt_A M 14 0 (pt_nt l3)) + 1)))) ∧ True) (by with_unfolding_all rfl) ⟨h1, (pt_callV (i := 0) kX3_read_38 mX5_byteAt rfl (by decide) rfl (dX5_byteAt h2)), h3, h4, h5, h6, h7, trivial⟩
set_option maxRecDepth 100000 in
theorem gX3_read_20_2 (l2 : Int32) (l3 : Int32)  (M : pt_M) (h1 : ¬ (pt_F M 4 1 0) ≤ l3) (h2 : by_H M l3) (h3 : ¬ (pt_A M 14 0 (pt_nt l3)) < 0) (h4 : ¬ (l2 - 2) < (pt_A M 14 0 (pt_nt l3))) (h5 : pt_in (pt_A M 14 0 (pt_nt l3)) 10) (h6 : pt_in ((pt_A M 14 0 (pt_nt l3)) + 1) 10) (h7 : (pt_A M 17 0 (pt_nt (pt_A M 14 0 (pt_nt l3)))) ≤ (pt_A M 17 0 (pt_nt ((pt_A M 14 0 (pt_nt l3)) + 1)))) (h8 : pt_in (((pt_A M 17 0 (pt_nt (pt_A M 14 0 (pt_nt l3)))) * 10) + (pt_A M 17 0 (pt_nt ((pt_A M 14 0 (pt_nt l3)) + 1)))) 100) (h9 : sa_H (pt_wA M 19 0 (upd (pt_A M 19 0) (pt_nt (((pt_A M 17 0 (pt_nt (pt_A M 14 0 (pt_nt l3)))) * 10) + (pt_A M 17 0 (pt_nt ((pt_A M 14 0 (pt_nt l3)) + 1))))) l3)) (pt_A M 14 0 (pt_nt l3))) :
    pt_Go YX3_read (20, [(0, pt_r 6 0), (1, pt_r 4 0), (2, pt_i l2), (3, pt_i l3)], [], M)
      (20, [(0, pt_r 6 0), (1, pt_r 4 0), (2, pt_i l2), (3, pt_i (l3 + 1))], [], (sa_M (pt_wA M 19 0 (upd (pt_A M 19 0) (pt_nt (((pt_A M 17 0 (pt_nt (pt_A M 14 0 (pt_nt l3)))) * 10) + (pt_A M 17 0 (pt_nt ((pt_A M 14 0 (pt_nt l3)) + 1))))) l3)) (pt_A M 14 0 (pt_nt l3)))) :=
  (pt_run_ok tX3_read_ok 48 [.inl false, .inr (2, some (pt_i (pt_A M 14 0 (pt_nt l3))), M), .inl false, .inl false, .inl true, .inr (2, none, (sa_M (pt_wA M 19 0 (upd (pt_A M 19 0) (pt_nt (((pt_A M 17 0 (pt_nt (pt_A M 14 0 (pt_nt l3)))) * 10) + (pt_A M 17 0 (pt_nt ((pt_A M 14 0 (pt_nt l3)) + 1))))) l3)) (pt_A M 14 0 (pt_nt l3))))] (P := (¬ (pt_F M 4 1 0) ≤ l3) ∧ pt_Cal YX3_read (.invokevirtual 38) [pt_r 4 0, pt_i l3] M (some (pt_i (pt_A M 14 0 (pt_nt l3)))) M ∧ (¬ (pt_A M 14 0 (pt_nt l3)) < 0) ∧ (¬ (l2 - 2) < (pt_A M 14 0 (pt_nt l3))) ∧ (pt_in (pt_A M 14 0 (pt_nt l3)) 10) ∧ (pt_in ((pt_A M 14 0 (pt_nt l3)) + 1) 10) ∧ ((pt_A M 17 0 (pt_nt (pt_A M 14 0 (pt_nt l3)))) ≤ (pt_A M 17 0 (pt_nt ((pt_A M 14 0 (pt_nt l3)) + 1)))) ∧ (pt_in (pt_A M 14 0 (pt_nt l3)) 10) ∧ (pt_in ((pt_A M 14 0 (pt_nt l3)) + 1) 10) ∧ (pt_in (((pt_A M 17 0 (pt_nt (pt_A M 14 0 (pt_nt l3)))) * 10) + (pt_A M 17 0 (pt_nt ((pt_A M 14 0 (pt_nt l3)) + 1)))) 100) ∧ pt_Cal YX3_read (.invokevirtual 41) [pt_r 6 0, pt_i (pt_A M 14 0 (pt_nt l3))] (pt_wA M 19 0 (upd (pt_A M 19 0) (pt_nt (((pt_A M 17 0 (pt_nt (pt_A M 14 0 (pt_nt l3)))) * 10) + (pt_A M 17 0 (pt_nt ((pt_A M 14 0 (pt_nt l3)) + 1))))) l3)) none (sa_M (pt_wA M 19 0 (upd (pt_A M 19 0) (pt_nt (((pt_A M 17 0 (pt_nt (pt_A M 14 0 (pt_nt l3)))) * 10) + (pt_A M 17 0 (pt_nt ((pt_A M 14 0 (pt_nt l3)) + 1))))) l3)) (pt_A M 14 0 (pt_nt l3))) ∧ True) (by with_unfolding_all rfl) ⟨h1, (pt_callV (i := 0) kX3_read_38 mX5_byteAt rfl (by decide) rfl (dX5_byteAt h2)), h3, h4, h5, h6, h7, h5, h6, h8, (pt_callV (i := 0) kX3_read_41 mX3_swapAt rfl (by decide) rfl (dX3_swapAt h9)), trivial⟩ : pt_Go YX3_read _ (20, [(0, pt_r 6 0), (1, pt_r 4 0), (2, pt_i l2), (3, pt_i (l3 + 1)), (4, pt_i (pt_A M 14 0 (pt_nt l3)))], [], (sa_M (pt_wA M 19 0 (upd (pt_A M 19 0) (pt_nt (((pt_A M 17 0 (pt_nt (pt_A M 14 0 (pt_nt l3)))) * 10) + (pt_A M 17 0 (pt_nt ((pt_A M 14 0 (pt_nt l3)) + 1))))) l3)) (pt_A M 14 0 (pt_nt l3))))).tr (pt_pick [0, 1, 2, 3] (by with_unfolding_all rfl))
set_option maxRecDepth 100000 in
theorem gX3_read_20_3 (l2 : Int32) (l3 : Int32)  (M : pt_M) (h1 : ¬ (pt_F M 4 1 0) ≤ l3) (h2 : by_H M l3) (h3 : ¬ (pt_A M 14 0 (pt_nt l3)) < 0) (h4 : (l2 - 2) < (pt_A M 14 0 (pt_nt l3))) :
    pt_Go YX3_read (20, [(0, pt_r 6 0), (1, pt_r 4 0), (2, pt_i l2), (3, pt_i l3)], [], M)
      (68, [(0, pt_r 6 0), (1, pt_r 4 0), (2, pt_i l2), (3, pt_i l3), (4, pt_i (pt_A M 14 0 (pt_nt l3)))], [pt_i 0], M) :=
  pt_run_ok tX3_read_ok 16 [.inl false, .inr (2, some (pt_i (pt_A M 14 0 (pt_nt l3))), M), .inl false, .inl true] (P := (¬ (pt_F M 4 1 0) ≤ l3) ∧ pt_Cal YX3_read (.invokevirtual 38) [pt_r 4 0, pt_i l3] M (some (pt_i (pt_A M 14 0 (pt_nt l3)))) M ∧ (¬ (pt_A M 14 0 (pt_nt l3)) < 0) ∧ ((l2 - 2) < (pt_A M 14 0 (pt_nt l3))) ∧ True) (by with_unfolding_all rfl) ⟨h1, (pt_callV (i := 0) kX3_read_38 mX5_byteAt rfl (by decide) rfl (dX5_byteAt h2)), h3, h4, trivial⟩
set_option maxRecDepth 100000 in
theorem gX3_read_20_4 (l2 : Int32) (l3 : Int32)  (M : pt_M) (h1 : ¬ (pt_F M 4 1 0) ≤ l3) (h2 : by_H M l3) (h3 : (pt_A M 14 0 (pt_nt l3)) < 0) :
    pt_Go YX3_read (20, [(0, pt_r 6 0), (1, pt_r 4 0), (2, pt_i l2), (3, pt_i l3)], [], M)
      (68, [(0, pt_r 6 0), (1, pt_r 4 0), (2, pt_i l2), (3, pt_i l3), (4, pt_i (pt_A M 14 0 (pt_nt l3)))], [pt_i 0], M) :=
  pt_run_ok tX3_read_ok 11 [.inl false, .inr (2, some (pt_i (pt_A M 14 0 (pt_nt l3))), M), .inl true] (P := (¬ (pt_F M 4 1 0) ≤ l3) ∧ pt_Cal YX3_read (.invokevirtual 38) [pt_r 4 0, pt_i l3] M (some (pt_i (pt_A M 14 0 (pt_nt l3)))) M ∧ ((pt_A M 14 0 (pt_nt l3)) < 0) ∧ True) (by with_unfolding_all rfl) ⟨h1, (pt_callV (i := 0) kX3_read_38 mX5_byteAt rfl (by decide) rfl (dX5_byteAt h2)), h3, trivial⟩
set_option maxRecDepth 100000 in
theorem gX3_read_20_5 (l2 : Int32) (l3 : Int32)  (M : pt_M) (h1 : (pt_F M 4 1 0) ≤ l3) :
    pt_Go YX3_read (20, [(0, pt_r 6 0), (1, pt_r 4 0), (2, pt_i l2), (3, pt_i l3)], [], M)
      (108, [(0, pt_r 6 0), (1, pt_r 4 0), (2, pt_i l2), (3, pt_i l3)], [pt_i 1], M) :=
  pt_run_ok tX3_read_ok 5 [.inl true] (P := ((pt_F M 4 1 0) ≤ l3) ∧ True) (by with_unfolding_all rfl) ⟨h1, trivial⟩
def rr_F (n L : Nat) (b : Nat → Nat) (M : pt_M) : Option Nat := fs_F (L - 0) 0 fun k => if rd_F n (b k) (og_F (rm_M n b M k)) then none else some k
theorem dX3_read_no {n L : Nat} {b : Nat → Nat} {M : pt_M} (hn : n ≤ 10) (h : tp_P M L b) (hL : L ≠ sN_F n) : pt_Does yX3_read YX3_read [pt_r 6 0, pt_r 4 0, pt_i (nI n)] M (some (pt_i 0)) M := by
  obtain ⟨hso, h45⟩ := so_nI hn
  refine rX3_read_12 rfl (Nat.le_of_ble_eq_true rfl) rfl (gX3_read_0_1 (nI n) M ?_)
  rw [h.1, hso]
  have := h.2.1
  exact fun z => hL ((nI_eq (by omega) (by omega)).mp z)
theorem dX3_read {n : Nat} {b : Nat → Nat} {M : pt_M} (hn : n ≤ 10) (hn3 : 3 ≤ n) (h : tp_P M (sN_F n) b) : (rr_F n (sN_F n) b (sb_M M n) = none → pt_Does yX3_read YX3_read [pt_r 6 0, pt_r 4 0, pt_i (nI n)] M (some (pt_i 1)) (rm_M n b (sb_M M n) (sN_F n))) ∧ (∀ k, rr_F n (sN_F n) b (sb_M M n) = some k → pt_Does yX3_read YX3_read [pt_r 6 0, pt_r 4 0, pt_i (nI n)] M (some (pt_i 0)) (rm_M n b (sb_M M n) k)) := by
  obtain ⟨hso, h45⟩ := so_nI hn
  have hks : ∀ k, ks_P M (rm_M n b (sb_M M n) k) := fun k => ks_sb.tr (rm_ok (b := b) hn (sb_so hn) k).2
  have htp : ∀ k, tp_P (rm_M n b (sb_M M n) k) (sN_F n) b := fun k => h.ks (hks k)
  have K := pt_nest (Y := YX3_read) (σ := (0, [(0, pt_r 6 0), (1, pt_r 4 0), (2, pt_i (nI n))], [], M)) (τ := (108, [], [pt_i 1], rm_M n b (sb_M M n) (sN_F n))) (R := fun k => (68, [], [pt_i 0], rm_M n b (sb_M M n) k)) (n := sN_F n) (i := 0)
    (S := fun k => (20, [(0, pt_r 6 0), (1, pt_r 4 0), (2, pt_i (nI n)), (3, pt_i (nI k))], [], rm_M n b (sb_M M n) k)) (f := fun k => if rd_F n (b k) (og_F (rm_M n b (sb_M M n) k)) then none else some k)
    (Nat.zero_le _) ((gX3_read_0_2 (nI n) M (by rw [h.1, hso]) ⟨n, rfl, hn⟩).toM (by rw [pt_nt_nI (by omega)]; rfl)) ((gX3_read_20_5 (nI n) (nI (sN_F n)) (rm_M n b (sb_M M n) (sN_F n)) (by rw [(htp _).1]; exact Int32.le_refl _)).tr pt_dropA) fun k _ hk => by
      have hso' := (rm_ok (b := b) hn (sb_so (M := M) hn) k).1
      have hb := tp_by (htp k) hk
      obtain ⟨v1, v2⟩ := (htp k).2.2 k hk
      have hv : pt_A (rm_M n b (sb_M M n) k) 14 0 (pt_nt (nI k)) = nI (b k) := by rw [pt_nt_nI (by omega)]; exact v1
      have h2 : nI n - 2 = nI (n - 2) := pk_sub (a := n) (b := 2) (by omega)
      have hp0 : ¬ nI (b k) < 0 := nI_pos (by omega)
      by_cases c1 : b k + 2 ≤ n
      · have c1' : ¬ nI n - 2 < nI (b k) := by rw [h2]; exact nI_nlt (by omega) (by omega)
        obtain ⟨a1, a2, -, -⟩ := hso' (b k) (by omega)
        obtain ⟨b1, b2, -, -⟩ := hso' (b k + 1) (by omega)
        have r1 : pt_A (rm_M n b (sb_M M n) k) 17 0 (pt_nt (nI (b k))) = nI (og_F (rm_M n b (sb_M M n) k) (b k)) := by rw [pt_nt_nI (by omega)]; exact a1
        have r2 : pt_A (rm_M n b (sb_M M n) k) 17 0 (pt_nt (nI (b k) + 1)) = nI (og_F (rm_M n b (sb_M M n) k) (b k + 1)) := by rw [nI_1, pt_nt_nI (by omega)]; exact b1
        have hle := nI_leI (show og_F (rm_M n b (sb_M M n) k) (b k) < 2 ^ 31 by omega) (show og_F (rm_M n b (sb_M M n) k) (b k + 1) < 2 ^ 31 by omega)
        have g1 : pt_in (nI (b k)) 10 := pt_in_nI (by omega) (by decide)
        have g2 : pt_in (nI (b k) + 1) 10 := by rw [nI_1]; exact pt_in_nI (by omega) (by decide)
        by_cases c2 : og_F (rm_M n b (sb_M M n) k) (b k) ≤ og_F (rm_M n b (sb_M M n) k) (b k + 1)
        · have hr : rd_F n (b k) (og_F (rm_M n b (sb_M M n) k)) = true := by simp [rd_F, c1, c2]
          refine ⟨fun v z => by simp [hr] at z, fun _ => ?_⟩
          have hx : (nI (og_F (rm_M n b (sb_M M n) k) (b k)) * 10) + nI (og_F (rm_M n b (sb_M M n) k) (b k + 1)) = nI (10 * og_F (rm_M n b (sb_M M n) k) (b k) + og_F (rm_M n b (sb_M M n) k) (b k + 1)) := ix_nI _ _
          have hx2 : pt_in ((nI (og_F (rm_M n b (sb_M M n) k) (b k)) * 10) + nI (og_F (rm_M n b (sb_M M n) k) (b k + 1))) 100 := ix_in (by omega) (by omega)
          have hsa : ∀ g, sa_H (pt_wA (rm_M n b (sb_M M n) k) 19 0 g) (nI (b k)) := fun g => by
            refine ⟨g1, g2, ?_, ?_⟩
            · rw [pt_A_wA', if_neg (fun z => absurd z.1 (by decide)), r1]
              exact pt_in_nI (by omega) (by decide)
            · rw [pt_A_wA', if_neg (fun z => absurd z.1 (by decide)), r2]
              exact pt_in_nI (by omega) (by decide)
          refine (gX3_read_20_2 (nI n) (nI k) (rm_M n b (sb_M M n) k) hb.2.1 hb (by rw [hv]; exact hp0) (by rw [hv]; exact c1') (by rw [hv]; exact g1) (by rw [hv]; exact g2) (by rw [hv, r1, r2, hle]; exact c2) (by rw [hv, r1, r2]; exact hx2) (by rw [hv]; exact hsa _)).to ?_
          have e2 : rm_M n b (sb_M M n) (k + 1) = sa_M (pt_wA (rm_M n b (sb_M M n) k) 19 0 (upd (pt_A (rm_M n b (sb_M M n) k) 19 0) (10 * og_F (rm_M n b (sb_M M n) k) (b k) + og_F (rm_M n b (sb_M M n) k) (b k + 1)) (nI k))) (nI (b k)) := if_pos hr
          rw [nI_1, e2, hv, r1, r2, hx, pt_nt_nI (by omega)]
        · have hr : rd_F n (b k) (og_F (rm_M n b (sb_M M n) k)) = false := by simp [rd_F, c2]
          refine ⟨fun v z => ?_, fun z => by simp [hr] at z⟩
          rw [hr] at z
          simp only [Bool.false_eq_true, if_false, Option.some.injEq] at z
          subst z
          exact (gX3_read_20_1 (nI n) (nI k) (rm_M n b (sb_M M n) k) hb.2.1 hb (by rw [hv]; exact hp0) (by rw [hv]; exact c1') (by rw [hv]; exact g1) (by rw [hv]; exact g2) (by rw [hv, r1, r2, hle]; exact c2)).tr pt_dropA
      · have hr : rd_F n (b k) (og_F (rm_M n b (sb_M M n) k)) = false := by simp [rd_F, c1]
        have c1' : nI n - 2 < nI (b k) := by rw [h2]; exact nI_lt (by omega) (by omega)
        refine ⟨fun v z => ?_, fun z => by simp [hr] at z⟩
        rw [hr] at z
        simp only [Bool.false_eq_true, if_false, Option.some.injEq] at z
        subst z
        exact (gX3_read_20_3 (nI n) (nI k) (rm_M n b (sb_M M n) k) hb.2.1 hb (by rw [hv]; exact hp0) (by rw [hv]; exact c1')).tr pt_dropA
  exact ⟨fun hf => rX3_read_108 rfl (Nat.le_of_ble_eq_true rfl) (by rw [(hks _).2.2]) (K.2 hf), fun k hf => rX3_read_68 rfl (Nat.le_of_ble_eq_true rfl) (by rw [(hks _).2.2]) (K.1 k hf)⟩
/-! the tape's other reads -/
def sh_F (M : pt_M) (x : Int32) : Int32 := ((((pt_A M 14 0 (pt_nt x)) <<< ((8 : Int32) &&& 31)) ||| (pt_A M 14 0 (pt_nt (x + 1)))).toInt16.toInt32)
def hb_P (M : pt_M) (x : Int32) : Prop := (((pt_A M 14 0 (pt_nt (x / 8))) >>> ((7 - (x - x / 8 * 8)) &&& 31)) &&& 1) = 1
theorem rX5_shortAt_17 {vs : List pt_V} {M M' : pt_M} {x : Int32} {L : List (Nat × pt_V)} (hvs : (vs.map pt_w).sum ≤ 2) (hX : M'.2.2.2.2 = M.2.2.2.2) (h : pt_Go YX5_shortAt (0, pt_en 0 vs, [], M) (17, L, [pt_i x], M')) : pt_Does yX5_shortAt YX5_shortAt vs M (some (pt_i x)) M' := pt_does_go tX5_shortAt_ok nX5_shortAt hvs hX ⟨_, by with_unfolding_all rfl, rfl, _, rfl, rfl⟩ h
set_option maxRecDepth 100000 in
theorem gX5_shortAt_0_1 (x1 : Int32)  (M : pt_M) (h1 : by_H M x1) (h2 : by_H M (x1 + 1)) :
    pt_Go YX5_shortAt (0, [(0, pt_r 4 0), (1, pt_i x1)], [], M)
      (17, [(0, pt_r 4 0), (1, pt_i x1)], [pt_i ((((pt_A M 14 0 (pt_nt x1)) <<< ((8 : Int32) &&& 31)) ||| (pt_A M 14 0 (pt_nt (x1 + 1)))).toInt16.toInt32)], M) :=
  pt_run_ok tX5_shortAt_ok 12 [.inr (2, some (pt_i (pt_A M 14 0 (pt_nt x1))), M), .inr (2, some (pt_i (pt_A M 14 0 (pt_nt (x1 + 1)))), M)] (P := pt_Cal YX5_shortAt (.invokevirtual 19) [pt_r 4 0, pt_i x1] M (some (pt_i (pt_A M 14 0 (pt_nt x1)))) M ∧ pt_Cal YX5_shortAt (.invokevirtual 19) [pt_r 4 0, pt_i (x1 + 1)] M (some (pt_i (pt_A M 14 0 (pt_nt (x1 + 1))))) M ∧ True) (by with_unfolding_all rfl) ⟨(pt_callV (i := 0) kX5_shortAt_19 mX5_byteAt rfl (by decide) rfl (dX5_byteAt h1)), (pt_callV (i := 0) kX5_shortAt_19 mX5_byteAt rfl (by decide) rfl (dX5_byteAt h2)), trivial⟩
theorem dX5_shortAt {x : Int32} {M : pt_M} (h : by_H M x) (h' : by_H M (x + 1)) : pt_Does yX5_shortAt YX5_shortAt [pt_r 4 0, pt_i x] M (some (pt_i (sh_F M x))) M := rX5_shortAt_17 (Nat.le_of_ble_eq_true rfl) rfl (gX5_shortAt_0_1 x M h h')
theorem rX5_hasBit_27 {vs : List pt_V} {M M' : pt_M} {x : Int32} {L : List (Nat × pt_V)} (hn : narrow .boolean (.int x) = .int x) (hvs : (vs.map pt_w).sum ≤ 2) (hX : M'.2.2.2.2 = M.2.2.2.2) (h : pt_Go YX5_hasBit (0, pt_en 0 vs, [], M) (27, L, [pt_i x], M')) : pt_Does yX5_hasBit YX5_hasBit vs M (some (pt_i x)) M' := pt_does_go tX5_hasBit_ok nX5_hasBit hvs hX ⟨_, by with_unfolding_all rfl, rfl, _, rfl, hn⟩ h
set_option maxRecDepth 100000 in
theorem gX5_hasBit_0_1 (x1 : Int32)  (M : pt_M) (h1 : by_H M (x1 / 8)) (h2 : (((pt_A M 14 0 (pt_nt (x1 / 8))) >>> ((7 - (x1 - x1 / 8 * 8)) &&& 31)) &&& 1) = 1) :
    pt_Go YX5_hasBit (0, [(0, pt_r 4 0), (1, pt_i x1)], [], M)
      (27, [(0, pt_r 4 0), (1, pt_i x1)], [pt_i 1], M) :=
  pt_run_ok tX5_hasBit_ok 17 [.inr (2, some (pt_i (pt_A M 14 0 (pt_nt (x1 / 8)))), M), .inl false] (P := (¬ (8 : Int32) = 0) ∧ pt_Cal YX5_hasBit (.invokevirtual 19) [pt_r 4 0, pt_i (x1 / 8)] M (some (pt_i (pt_A M 14 0 (pt_nt (x1 / 8))))) M ∧ (¬ (8 : Int32) = 0) ∧ ((((pt_A M 14 0 (pt_nt (x1 / 8))) >>> ((7 - (x1 - x1 / 8 * 8)) &&& 31)) &&& 1) = 1) ∧ True) (by with_unfolding_all rfl) ⟨(by decide), (pt_callV (i := 0) kX5_hasBit_19 mX5_byteAt rfl (by decide) rfl (dX5_byteAt h1)), (by decide), h2, trivial⟩
set_option maxRecDepth 100000 in
theorem gX5_hasBit_0_2 (x1 : Int32)  (M : pt_M) (h1 : by_H M (x1 / 8)) (h2 : ¬ (((pt_A M 14 0 (pt_nt (x1 / 8))) >>> ((7 - (x1 - x1 / 8 * 8)) &&& 31)) &&& 1) = 1) :
    pt_Go YX5_hasBit (0, [(0, pt_r 4 0), (1, pt_i x1)], [], M)
      (27, [(0, pt_r 4 0), (1, pt_i x1)], [pt_i 0], M) :=
  pt_run_ok tX5_hasBit_ok 16 [.inr (2, some (pt_i (pt_A M 14 0 (pt_nt (x1 / 8)))), M), .inl true] (P := (¬ (8 : Int32) = 0) ∧ pt_Cal YX5_hasBit (.invokevirtual 19) [pt_r 4 0, pt_i (x1 / 8)] M (some (pt_i (pt_A M 14 0 (pt_nt (x1 / 8))))) M ∧ (¬ (8 : Int32) = 0) ∧ (¬ (((pt_A M 14 0 (pt_nt (x1 / 8))) >>> ((7 - (x1 - x1 / 8 * 8)) &&& 31)) &&& 1) = 1) ∧ True) (by with_unfolding_all rfl) ⟨(by decide), (pt_callV (i := 0) kX5_hasBit_19 mX5_byteAt rfl (by decide) rfl (dX5_byteAt h1)), (by decide), h2, trivial⟩
theorem dX5_hasBit_1 {x : Int32} {M : pt_M} (h : by_H M (x / 8)) (h' : hb_P M x) : pt_Does yX5_hasBit YX5_hasBit [pt_r 4 0, pt_i x] M (some (pt_i 1)) M := rX5_hasBit_27 rfl (Nat.le_of_ble_eq_true rfl) rfl (gX5_hasBit_0_1 x M h h')
theorem dX5_hasBit_0 {x : Int32} {M : pt_M} (h : by_H M (x / 8)) (h' : ¬ hb_P M x) : pt_Does yX5_hasBit YX5_hasBit [pt_r 4 0, pt_i x] M (some (pt_i 0)) M := rX5_hasBit_27 rfl (Nat.le_of_ble_eq_true rfl) rfl (gX5_hasBit_0_2 x M h h')
/-! slots -/
def tA_P (M : pt_M) (x : Int32) : Prop := sl_P x ∧ pt_in x 6 ∧ (pt_R M (pt_nt x + 1)) < 7 ∧ ¬ (pt_F M 3 0 (pt_R M (pt_nt x + 1))) ≤ 0
def tN_P (M : pt_M) (x : Int32) : Prop := ¬ sl_P x ∨ (sl_P x ∧ pt_in x 6 ∧ (pt_R M (pt_nt x + 1)) < 7 ∧ (pt_F M 3 0 (pt_R M (pt_nt x + 1))) ≤ 0)
theorem rX6_tableAt_29 {vs : List pt_V} {M M' : pt_M} {k i : Nat} {L : List (Nat × pt_V)} (hvs : (vs.map pt_w).sum ≤ 2) (hX : M'.2.2.2.2 = M.2.2.2.2) (h : pt_Go YX6_tableAt (0, pt_en 0 vs, [], M) (29, L, [pt_r k i], M')) : pt_Does yX6_tableAt YX6_tableAt vs M (some (pt_r k i)) M' := pt_does_go tX6_tableAt_ok nX6_tableAt hvs hX ⟨_, by with_unfolding_all rfl, rfl, _, rfl, Or.inl ⟨_, rfl⟩⟩ h
set_option maxRecDepth 100000 in
theorem gX6_tableAt_0_1 (x1 : Int32)  (M : pt_M) (h1 : sl_P x1) (h2 : pt_in x1 6) (h3 : (pt_R M (pt_nt x1 + 1)) < 7) (h4 : ¬ (pt_F M 3 0 (pt_R M (pt_nt x1 + 1))) ≤ 0) :
    pt_Go YX6_tableAt (0, [(0, pt_r 2 0), (1, pt_i x1)], [], M)
      (29, [(0, pt_r 2 0), (1, pt_i x1)], [pt_r 3 (pt_R M (pt_nt x1 + 1))], M) :=
  pt_run_ok tX6_tableAt_ok 14 [.inr (1, some (pt_i 1), M), .inl false, .inl false] (P := pt_Cal YX6_tableAt (.invokestatic 75) [pt_i x1] M (some (pt_i 1)) M ∧ (¬ (1 : Int32) = (0 : Int32)) ∧ (pt_in x1 6) ∧ ((pt_R M (pt_nt x1 + 1)) < 7) ∧ (¬ (pt_F M 3 0 (pt_R M (pt_nt x1 + 1))) ≤ 0) ∧ (pt_in x1 6) ∧ True) (by with_unfolding_all rfl) ⟨(pt_callS kX6_tableAt_75 mX6_isSlot rfl (dX6_isSlot_1 h1)), (by decide), h2, h3, h4, h2, trivial⟩
set_option maxRecDepth 100000 in
theorem gX6_tableAt_0_2 (x1 : Int32)  (M : pt_M) (h1 : sl_P x1) (h2 : pt_in x1 6) (h3 : (pt_R M (pt_nt x1 + 1)) < 7) (h4 : (pt_F M 3 0 (pt_R M (pt_nt x1 + 1))) ≤ 0) :
    pt_Go YX6_tableAt (0, [(0, pt_r 2 0), (1, pt_i x1)], [], M)
      (29, [(0, pt_r 2 0), (1, pt_i x1)], [pt_r 0 0], M) :=
  pt_run_ok tX6_tableAt_ok 10 [.inr (1, some (pt_i 1), M), .inl false, .inl true] (P := pt_Cal YX6_tableAt (.invokestatic 75) [pt_i x1] M (some (pt_i 1)) M ∧ (¬ (1 : Int32) = (0 : Int32)) ∧ (pt_in x1 6) ∧ ((pt_R M (pt_nt x1 + 1)) < 7) ∧ ((pt_F M 3 0 (pt_R M (pt_nt x1 + 1))) ≤ 0) ∧ True) (by with_unfolding_all rfl) ⟨(pt_callS kX6_tableAt_75 mX6_isSlot rfl (dX6_isSlot_1 h1)), (by decide), h2, h3, h4, trivial⟩
set_option maxRecDepth 100000 in
theorem gX6_tableAt_0_3 (x1 : Int32)  (M : pt_M) (h1 : ¬ sl_P x1) :
    pt_Go YX6_tableAt (0, [(0, pt_r 2 0), (1, pt_i x1)], [], M)
      (29, [(0, pt_r 2 0), (1, pt_i x1)], [pt_r 0 0], M) :=
  pt_run_ok tX6_tableAt_ok 4 [.inr (1, some (pt_i 0), M), .inl true] (P := pt_Cal YX6_tableAt (.invokestatic 75) [pt_i x1] M (some (pt_i 0)) M ∧ ((0 : Int32) = (0 : Int32)) ∧ True) (by with_unfolding_all rfl) ⟨(pt_callS kX6_tableAt_75 mX6_isSlot rfl (dX6_isSlot_0 h1)), (by decide), trivial⟩
theorem dX6_tableAt_1 {x : Int32} {M : pt_M} (h : tA_P M x) : pt_Does yX6_tableAt YX6_tableAt [pt_r 2 0, pt_i x] M (some (pt_r 3 (pt_R M (pt_nt x + 1)))) M := rX6_tableAt_29 (Nat.le_of_ble_eq_true rfl) rfl (gX6_tableAt_0_1 x M h.1 h.2.1 h.2.2.1 h.2.2.2)
theorem dX6_tableAt_0 {x : Int32} {M : pt_M} (h : tN_P M x) : pt_Does yX6_tableAt YX6_tableAt [pt_r 2 0, pt_i x] M (some (pt_r 0 0)) M := by
  rcases h with h | h
  · exact rX6_tableAt_29 (Nat.le_of_ble_eq_true rfl) rfl (gX6_tableAt_0_3 x M h)
  · exact rX6_tableAt_29 (Nat.le_of_ble_eq_true rfl) rfl (gX6_tableAt_0_2 x M h.1 h.2.1 h.2.2.1 h.2.2.2)
def kp_M (M : pt_M) (x : Int32) : pt_M := pt_wR (pt_wR M (pt_nt x + 1) (pt_R M 0)) 0 (pt_R M (pt_nt x + 1))
def kp_P (M : pt_M) (x : Int32) : Prop := sl_P x ∧ pt_in x 6 ∧ (pt_R M 0) < 7
theorem rX6_keepSpare_29 {vs : List pt_V} {M M' : pt_M} {L : List (Nat × pt_V)} (hvs : (vs.map pt_w).sum ≤ 3) (hX : M'.2.2.2.2 = M.2.2.2.2) (h : pt_Go YX6_keepSpare (0, pt_en 0 vs, [], M) (29, L, [], M')) : pt_Does yX6_keepSpare YX6_keepSpare vs M none M' := pt_does_go tX6_keepSpare_ok nX6_keepSpare hvs hX ⟨_, by with_unfolding_all rfl, rfl, rfl⟩ h
set_option maxRecDepth 100000 in
theorem gX6_keepSpare_0_1 (x1 : Int32)  (M : pt_M) (h1 : sl_P x1) (h2 : pt_in x1 6) (h3 : (pt_R M 0) < 7) :
    pt_Go YX6_keepSpare (0, [(0, pt_r 2 0), (1, pt_i x1)], [], M)
      (29, [(0, pt_r 2 0), (1, pt_i x1), (2, pt_r 3 (pt_R M (pt_nt x1 + 1)))], [], (pt_wR (pt_wR M (pt_nt x1 + 1) (pt_R M 0)) 0 (pt_R M (pt_nt x1 + 1)))) :=
  pt_run_ok tX6_keepSpare_ok 17 [.inr (1, some (pt_i 1), M), .inl false] (P := pt_Cal YX6_keepSpare (.invokestatic 75) [pt_i x1] M (some (pt_i 1)) M ∧ (¬ (1 : Int32) = (0 : Int32)) ∧ (pt_in x1 6) ∧ ((pt_in x1 6) ∧ ((pt_R M 0) < 7)) ∧ True) (by with_unfolding_all rfl) ⟨(pt_callS kX6_keepSpare_75 mX6_isSlot rfl (dX6_isSlot_1 h1)), (by decide), h2, ⟨h2, h3⟩, trivial⟩
set_option maxRecDepth 100000 in
theorem gX6_keepSpare_0_2 (x1 : Int32)  (M : pt_M) (h1 : ¬ sl_P x1) :
    pt_Go YX6_keepSpare (0, [(0, pt_r 2 0), (1, pt_i x1)], [], M)
      (29, [(0, pt_r 2 0), (1, pt_i x1)], [], M) :=
  pt_run_ok tX6_keepSpare_ok 3 [.inr (1, some (pt_i 0), M), .inl true] (P := pt_Cal YX6_keepSpare (.invokestatic 75) [pt_i x1] M (some (pt_i 0)) M ∧ ((0 : Int32) = (0 : Int32)) ∧ True) (by with_unfolding_all rfl) ⟨(pt_callS kX6_keepSpare_75 mX6_isSlot rfl (dX6_isSlot_0 h1)), (by decide), trivial⟩
theorem dX6_keepSpare {x : Int32} {M : pt_M} (h : kp_P M x) : pt_Does yX6_keepSpare YX6_keepSpare [pt_r 2 0, pt_i x] M none (kp_M M x) := rX6_keepSpare_29 (Nat.le_of_ble_eq_true rfl) rfl (gX6_keepSpare_0_1 x M h.1 h.2.1 h.2.2)
end
section
/-! PointTables: methods without loops, by program: a row for each road -/
theorem rX6_end_16 {vs : List pt_V} {M M' : pt_M} {x : Int32} {L : List (Nat × pt_V)} (hn : narrow .boolean (.int x) = .int x) (hvs : (vs.map pt_w).sum ≤ 2) (hX : M'.2.2.2.2 = M.2.2.2.2) (h : pt_Go YX6_end (0, pt_en 0 vs, [], M) (16, L, [pt_i x], M')) : pt_Does yX6_end YX6_end vs M (some (pt_i x)) M' := pt_does_go tX6_end_ok nX6_end hvs hX ⟨_, by with_unfolding_all rfl, rfl, _, rfl, hn⟩ h
theorem rX6_end_26 {vs : List pt_V} {M M' : pt_M} {x : Int32} {L : List (Nat × pt_V)} (hn : narrow .boolean (.int x) = .int x) (hvs : (vs.map pt_w).sum ≤ 2) (hX : M'.2.2.2.2 = M.2.2.2.2) (h : pt_Go YX6_end (0, pt_en 0 vs, [], M) (26, L, [pt_i x], M')) : pt_Does yX6_end YX6_end vs M (some (pt_i x)) M' := pt_does_go tX6_end_ok nX6_end hvs hX ⟨_, by with_unfolding_all rfl, rfl, _, rfl, hn⟩ h
set_option maxRecDepth 100000 in
theorem gX6_end_0_1 (x1 : Int32)  (M : pt_M) (h1 : ¬ x1 < 0) (h2 : ¬ x1 ≤ (pt_F M 4 1 0)) :
    pt_Go YX6_end (0, [(0, pt_r 2 0), (1, pt_i x1)], [], M)
      (16, [(0, pt_r 2 0), (1, pt_i x1)], [pt_i 0], M) :=
  pt_run_ok tX6_end_ok 8 [.inl false, .inl false] (P := (¬ x1 < 0) ∧ (¬ x1 ≤ (pt_F M 4 1 0)) ∧ True) (by with_unfolding_all rfl) ⟨h1, h2, trivial⟩
set_option maxRecDepth 100000 in
theorem gX6_end_0_2 (x1 : Int32)  (M : pt_M) (h1 : ¬ x1 < 0) (h2 : x1 ≤ (pt_F M 4 1 0)) :
    pt_Go YX6_end (0, [(0, pt_r 2 0), (1, pt_i x1)], [], M)
      (26, [(0, pt_r 2 0), (1, pt_i x1)], [pt_i 1], (pt_wF M 4 1 0 x1)) :=
  pt_run_ok tX6_end_ok 12 [.inl false, .inl true] (P := (¬ x1 < 0) ∧ (x1 ≤ (pt_F M 4 1 0)) ∧ True) (by with_unfolding_all rfl) ⟨h1, h2, trivial⟩
set_option maxRecDepth 100000 in
theorem gX6_end_0_3 (x1 : Int32)  (M : pt_M) (h1 : x1 < 0) :
    pt_Go YX6_end (0, [(0, pt_r 2 0), (1, pt_i x1)], [], M)
      (16, [(0, pt_r 2 0), (1, pt_i x1)], [pt_i 0], M) :=
  pt_run_ok tX6_end_ok 3 [.inl true] (P := (x1 < 0) ∧ True) (by with_unfolding_all rfl) ⟨h1, trivial⟩
theorem dX6_end_p1 (x1 : Int32)  (M : pt_M) (h1 : ¬ x1 < 0) (h2 : ¬ x1 ≤ (pt_F M 4 1 0)) : pt_Does yX6_end YX6_end [pt_r 2 0, pt_i x1] M (some (pt_i 0)) M :=
  rX6_end_16 pt_nar0 (Nat.le_of_ble_eq_true rfl) rfl (gX6_end_0_1 x1 M h1 h2)
theorem dX6_end_p2 (x1 : Int32)  (M : pt_M) (h1 : ¬ x1 < 0) (h2 : x1 ≤ (pt_F M 4 1 0)) : pt_Does yX6_end YX6_end [pt_r 2 0, pt_i x1] M (some (pt_i 1)) (pt_wF M 4 1 0 x1) :=
  rX6_end_26 pt_nar1 (Nat.le_of_ble_eq_true rfl) rfl (gX6_end_0_2 x1 M h1 h2)
theorem dX6_end_p3 (x1 : Int32)  (M : pt_M) (h1 : x1 < 0) : pt_Does yX6_end YX6_end [pt_r 2 0, pt_i x1] M (some (pt_i 0)) M :=
  rX6_end_16 pt_nar0 (Nat.le_of_ble_eq_true rfl) rfl (gX6_end_0_3 x1 M h1)
theorem rX6_line_4 {vs : List pt_V} {M M' : pt_M} {x : Int32} {L : List (Nat × pt_V)} (hvs : (vs.map pt_w).sum ≤ 1) (hX : M'.2.2.2.2 = M.2.2.2.2) (h : pt_Go YX6_line (0, pt_en 0 vs, [], M) (4, L, [pt_i x], M')) : pt_Does yX6_line YX6_line vs M (some (pt_i x)) M' := pt_does_go tX6_line_ok nX6_line hvs hX ⟨_, by with_unfolding_all rfl, rfl, _, rfl, rfl⟩ h
set_option maxRecDepth 100000 in
theorem gX6_line_0_1   (M : pt_M) :
    pt_Go YX6_line (0, [(0, pt_r 2 0)], [], M)
      (4, [(0, pt_r 2 0)], [pt_i (pt_F M 2 7 0)], M) :=
  pt_run_ok tX6_line_ok 2 [] (P := True) (by with_unfolding_all rfl) trivial
theorem dX6_line_p1   (M : pt_M) : pt_Does yX6_line YX6_line [pt_r 2 0] M (some (pt_i (pt_F M 2 7 0))) M :=
  rX6_line_4 (Nat.le_of_ble_eq_true rfl) rfl (gX6_line_0_1 M)
theorem rX6_points_20 {vs : List pt_V} {M M' : pt_M} {x : Int32} {L : List (Nat × pt_V)} (hvs : (vs.map pt_w).sum ≤ 2) (hX : M'.2.2.2.2 = M.2.2.2.2) (h : pt_Go YX6_points (0, pt_en 0 vs, [], M) (20, L, [pt_i x], M')) : pt_Does yX6_points YX6_points vs M (some (pt_i x)) M' := pt_does_go tX6_points_ok nX6_points hvs hX ⟨_, by with_unfolding_all rfl, rfl, _, rfl, rfl⟩ h
set_option maxRecDepth 100000 in
theorem gX6_points_0_1 (x1 : Int32)  (M : pt_M) (h1 : sl_P x1) (h2 : pt_in x1 6) (h3 : (pt_R M (pt_nt x1 + 1)) < 7) :
    pt_Go YX6_points (0, [(0, pt_r 2 0), (1, pt_i x1)], [], M)
      (20, [(0, pt_r 2 0), (1, pt_i x1)], [pt_i (pt_F M 3 0 (pt_R M (pt_nt x1 + 1)))], M) :=
  pt_run_ok tX6_points_ok 9 [.inr (1, some (pt_i 1), M), .inl false] (P := pt_Cal YX6_points (.invokestatic 75) [pt_i x1] M (some (pt_i 1)) M ∧ (¬ (1 : Int32) = (0 : Int32)) ∧ (pt_in x1 6) ∧ ((pt_R M (pt_nt x1 + 1)) < 7) ∧ True) (by with_unfolding_all rfl) ⟨(pt_callS kX6_points_75 mX6_isSlot rfl (dX6_isSlot_1 h1)), (by decide), h2, h3, trivial⟩
set_option maxRecDepth 100000 in
theorem gX6_points_0_2 (x1 : Int32)  (M : pt_M) (h1 : ¬ sl_P x1) :
    pt_Go YX6_points (0, [(0, pt_r 2 0), (1, pt_i x1)], [], M)
      (20, [(0, pt_r 2 0), (1, pt_i x1)], [pt_i 0], M) :=
  pt_run_ok tX6_points_ok 4 [.inr (1, some (pt_i 0), M), .inl true] (P := pt_Cal YX6_points (.invokestatic 75) [pt_i x1] M (some (pt_i 0)) M ∧ ((0 : Int32) = (0 : Int32)) ∧ True) (by with_unfolding_all rfl) ⟨(pt_callS kX6_points_75 mX6_isSlot rfl (dX6_isSlot_0 h1)), (by decide), trivial⟩
theorem dX6_points_p1 (x1 : Int32)  (M : pt_M) (h1 : sl_P x1) (h2 : pt_in x1 6) (h3 : (pt_R M (pt_nt x1 + 1)) < 7) : pt_Does yX6_points YX6_points [pt_r 2 0, pt_i x1] M (some (pt_i (pt_F M 3 0 (pt_R M (pt_nt x1 + 1))))) M :=
  rX6_points_20 (Nat.le_of_ble_eq_true rfl) rfl (gX6_points_0_1 x1 M h1 h2 h3)
theorem dX6_points_p2 (x1 : Int32)  (M : pt_M) (h1 : ¬ sl_P x1) : pt_Does yX6_points YX6_points [pt_r 2 0, pt_i x1] M (some (pt_i 0)) M :=
  rX6_points_20 (Nat.le_of_ble_eq_true rfl) rfl (gX6_points_0_2 x1 M h1)
theorem rX6_feed_17 {vs : List pt_V} {M M' : pt_M} {x : Int32} {L : List (Nat × pt_V)} (hvs : (vs.map pt_w).sum ≤ 6) (hX : M'.2.2.2.2 = M.2.2.2.2) (h : pt_Go YX6_feed (0, pt_en 0 vs, [], M) (17, L, [pt_i x], M')) : pt_Does yX6_feed YX6_feed vs M (some (pt_i x)) M' := pt_does_go tX6_feed_ok nX6_feed hvs hX ⟨_, by with_unfolding_all rfl, rfl, _, rfl, rfl⟩ h
theorem rX6_feed_67 {vs : List pt_V} {M M' : pt_M} {x : Int32} {L : List (Nat × pt_V)} (hvs : (vs.map pt_w).sum ≤ 6) (hX : M'.2.2.2.2 = M.2.2.2.2) (h : pt_Go YX6_feed (0, pt_en 0 vs, [], M) (67, L, [pt_i x], M')) : pt_Does yX6_feed YX6_feed vs M (some (pt_i x)) M' := pt_does_go tX6_feed_ok nX6_feed hvs hX ⟨_, by with_unfolding_all rfl, rfl, _, rfl, rfl⟩ h
set_option maxRecDepth 100000 in
theorem gX6_feed_0_1 (x1 : Int32) (x2 : Int32) (x3 : Int32) (x4 : Int32) (x5 : Int32)  (M : pt_M) (h1 : ¬ ((pt_F M 4 1 0) + 20) ≤ 140) :
    pt_Go YX6_feed (0, [(0, pt_r 2 0), (1, pt_i x1), (2, pt_i x2), (3, pt_i x3), (4, pt_i x4), (5, pt_i x5)], [], M)
      (17, [(0, pt_r 2 0), (1, pt_i x1), (2, pt_i x2), (3, pt_i x3), (4, pt_i x4), (5, pt_i x5)], [pt_i (-1)], M) :=
  pt_run_ok tX6_feed_ok 8 [.inl false] (P := (¬ ((pt_F M 4 1 0) + 20) ≤ 140) ∧ True) (by with_unfolding_all rfl) ⟨h1, trivial⟩
set_option maxRecDepth 100000 in
theorem gX6_feed_0_2 (x1 : Int32) (x2 : Int32) (x3 : Int32) (x4 : Int32) (x5 : Int32)  (M : pt_M) (h1 : ((pt_F M 4 1 0) + 20) ≤ 140) (h2 : ad_H M) (h3 : ad_H (ad_M M x1)) (h4 : ad_H (ad_M (ad_M M x1) x2)) (h5 : ad_H (ad_M (ad_M (ad_M M x1) x2) x3)) (h6 : ad_H (ad_M (ad_M (ad_M (ad_M M x1) x2) x3) x4)) :
    pt_Go YX6_feed (0, [(0, pt_r 2 0), (1, pt_i x1), (2, pt_i x2), (3, pt_i x3), (4, pt_i x4), (5, pt_i x5)], [], M)
      (67, [(0, pt_r 2 0), (1, pt_i x1), (2, pt_i x2), (3, pt_i x3), (4, pt_i x4), (5, pt_i x5)], [pt_i (pt_F (ad_M (ad_M (ad_M (ad_M (ad_M M x1) x2) x3) x4) x5) 4 1 0)], (ad_M (ad_M (ad_M (ad_M (ad_M M x1) x2) x3) x4) x5)) :=
  pt_run_ok tX6_feed_ok 30 [.inl true, .inr (2, none, (ad_M M x1)), .inr (2, none, (ad_M (ad_M M x1) x2)), .inr (2, none, (ad_M (ad_M (ad_M M x1) x2) x3)), .inr (2, none, (ad_M (ad_M (ad_M (ad_M M x1) x2) x3) x4)), .inr (2, none, (ad_M (ad_M (ad_M (ad_M (ad_M M x1) x2) x3) x4) x5))] (P := (((pt_F M 4 1 0) + 20) ≤ 140) ∧ pt_Cal YX6_feed (.invokevirtual 67) [pt_r 4 0, pt_i x1] M none (ad_M M x1) ∧ pt_Cal YX6_feed (.invokevirtual 67) [pt_r 4 0, pt_i x2] (ad_M M x1) none (ad_M (ad_M M x1) x2) ∧ pt_Cal YX6_feed (.invokevirtual 67) [pt_r 4 0, pt_i x3] (ad_M (ad_M M x1) x2) none (ad_M (ad_M (ad_M M x1) x2) x3) ∧ pt_Cal YX6_feed (.invokevirtual 67) [pt_r 4 0, pt_i x4] (ad_M (ad_M (ad_M M x1) x2) x3) none (ad_M (ad_M (ad_M (ad_M M x1) x2) x3) x4) ∧ pt_Cal YX6_feed (.invokevirtual 67) [pt_r 4 0, pt_i x5] (ad_M (ad_M (ad_M (ad_M M x1) x2) x3) x4) none (ad_M (ad_M (ad_M (ad_M (ad_M M x1) x2) x3) x4) x5) ∧ True) (by with_unfolding_all rfl) ⟨h1, (pt_callV (i := 0) kX6_feed_67 mX5_addNumber rfl (by decide) rfl (dX5_addNumber h2)), (pt_callV (i := 0) kX6_feed_67 mX5_addNumber rfl (by decide) rfl (dX5_addNumber h3)), (pt_callV (i := 0) kX6_feed_67 mX5_addNumber rfl (by decide) rfl (dX5_addNumber h4)), (pt_callV (i := 0) kX6_feed_67 mX5_addNumber rfl (by decide) rfl (dX5_addNumber h5)), (pt_callV (i := 0) kX6_feed_67 mX5_addNumber rfl (by decide) rfl (dX5_addNumber h6)), trivial⟩
theorem dX6_feed_p1 (x1 : Int32) (x2 : Int32) (x3 : Int32) (x4 : Int32) (x5 : Int32)  (M : pt_M) (h1 : ¬ ((pt_F M 4 1 0) + 20) ≤ 140) : pt_Does yX6_feed YX6_feed [pt_r 2 0, pt_i x1, pt_i x2, pt_i x3, pt_i x4, pt_i x5] M (some (pt_i (-1))) M :=
  rX6_feed_17 (Nat.le_of_ble_eq_true rfl) rfl (gX6_feed_0_1 x1 x2 x3 x4 x5 M h1)
theorem dX6_feed_p2 (x1 : Int32) (x2 : Int32) (x3 : Int32) (x4 : Int32) (x5 : Int32)  (M : pt_M) (h1 : ((pt_F M 4 1 0) + 20) ≤ 140) (h2 : ad_H M) (h3 : ad_H (ad_M M x1)) (h4 : ad_H (ad_M (ad_M M x1) x2)) (h5 : ad_H (ad_M (ad_M (ad_M M x1) x2) x3)) (h6 : ad_H (ad_M (ad_M (ad_M (ad_M M x1) x2) x3) x4)) : pt_Does yX6_feed YX6_feed [pt_r 2 0, pt_i x1, pt_i x2, pt_i x3, pt_i x4, pt_i x5] M (some (pt_i (pt_F (ad_M (ad_M (ad_M (ad_M (ad_M M x1) x2) x3) x4) x5) 4 1 0))) (ad_M (ad_M (ad_M (ad_M (ad_M M x1) x2) x3) x4) x5) :=
  rX6_feed_67 (Nat.le_of_ble_eq_true rfl) rfl (gX6_feed_0_2 x1 x2 x3 x4 x5 M h1 h2 h3 h4 h5 h6)
theorem rX6_turn_25 {vs : List pt_V} {M M' : pt_M} {x : Int32} {L : List (Nat × pt_V)} (hvs : (vs.map pt_w).sum ≤ 6) (hX : M'.2.2.2.2 = M.2.2.2.2) (h : pt_Go YX6_turn (0, pt_en 0 vs, [], M) (25, L, [pt_i x], M')) : pt_Does yX6_turn YX6_turn vs M (some (pt_i x)) M' := pt_does_go tX6_turn_ok nX6_turn hvs hX ⟨_, by with_unfolding_all rfl, rfl, _, rfl, rfl⟩ h
theorem rX6_turn_43 {vs : List pt_V} {M M' : pt_M} {x : Int32} {L : List (Nat × pt_V)} (hvs : (vs.map pt_w).sum ≤ 6) (hX : M'.2.2.2.2 = M.2.2.2.2) (h : pt_Go YX6_turn (0, pt_en 0 vs, [], M) (43, L, [pt_i x], M')) : pt_Does yX6_turn YX6_turn vs M (some (pt_i x)) M' := pt_does_go tX6_turn_ok nX6_turn hvs hX ⟨_, by with_unfolding_all rfl, rfl, _, rfl, rfl⟩ h
set_option maxRecDepth 100000 in
theorem gX6_turn_0_1 (x1 : Int32) (x2 : Int32) (x3 : Int32) (x4 : Int32)  (M : pt_M) (h1 : tA_P M x1) (h2 : (pt_R M (pt_nt x1 + 1)) < 7) (h3 : ht_P M (pt_R M (pt_nt x1 + 1)) x2 x3 x4) (h4 : pt_in x2 10) (h5 : pt_in x3 10) (h6 : ¬ (lb_F M (pt_R M (pt_nt x1 + 1)) x2 x3 x4) = 0) :
    pt_Go YX6_turn (0, [(0, pt_r 2 0), (1, pt_i x1), (2, pt_i x2), (3, pt_i x3), (4, pt_i x4)], [], M)
      (43, [(0, pt_r 2 0), (1, pt_i x1), (2, pt_i x2), (3, pt_i x3), (4, pt_i x4), (5, pt_r 3 (pt_R M (pt_nt x1 + 1)))], [pt_i 1], M) :=
  pt_run_ok tX6_turn_ok 20 [.inr (2, some (pt_r 3 (pt_R M (pt_nt x1 + 1))), M), .inr (4, some (pt_i 1), M), .inl true, .inr (4, some (pt_i (lb_F M (pt_R M (pt_nt x1 + 1)) x2 x3 x4)), M), .inl false] (P := pt_Cal YX6_turn (.invokevirtual 120) [pt_r 2 0, pt_i x1] M (some (pt_r 3 (pt_R M (pt_nt x1 + 1)))) M ∧ pt_Cal YX6_turn (.invokevirtual 124) [pt_r 3 (pt_R M (pt_nt x1 + 1)), pt_i x2, pt_i x3, pt_i x4] M (some (pt_i 1)) M ∧ (¬ (1 : Int32) = (0 : Int32)) ∧ pt_Cal YX6_turn (.invokevirtual 128) [pt_r 3 (pt_R M (pt_nt x1 + 1)), pt_i x2, pt_i x3, pt_i x4] M (some (pt_i (lb_F M (pt_R M (pt_nt x1 + 1)) x2 x3 x4))) M ∧ (¬ (lb_F M (pt_R M (pt_nt x1 + 1)) x2 x3 x4) = 0) ∧ True) (by with_unfolding_all rfl) ⟨(pt_callV (i := 0) kX6_turn_120 mX6_tableAt rfl (by decide) rfl (dX6_tableAt_1 h1)), (pt_callV (i := (pt_R M (pt_nt x1 + 1))) kX6_turn_124 mX4_hasThree rfl h2 rfl (dX4_hasThree_1 h2 h3)), (by decide), (pt_callV (i := (pt_R M (pt_nt x1 + 1))) kX6_turn_128 mX4_isLeft rfl h2 rfl (dX4_isLeft_v h2 h4 h5)), h6, trivial⟩
set_option maxRecDepth 100000 in
theorem gX6_turn_0_2 (x1 : Int32) (x2 : Int32) (x3 : Int32) (x4 : Int32)  (M : pt_M) (h1 : tA_P M x1) (h2 : (pt_R M (pt_nt x1 + 1)) < 7) (h3 : ht_P M (pt_R M (pt_nt x1 + 1)) x2 x3 x4) (h4 : pt_in x2 10) (h5 : pt_in x3 10) (h6 : (lb_F M (pt_R M (pt_nt x1 + 1)) x2 x3 x4) = 0) :
    pt_Go YX6_turn (0, [(0, pt_r 2 0), (1, pt_i x1), (2, pt_i x2), (3, pt_i x3), (4, pt_i x4)], [], M)
      (43, [(0, pt_r 2 0), (1, pt_i x1), (2, pt_i x2), (3, pt_i x3), (4, pt_i x4), (5, pt_r 3 (pt_R M (pt_nt x1 + 1)))], [pt_i (-1)], M) :=
  pt_run_ok tX6_turn_ok 19 [.inr (2, some (pt_r 3 (pt_R M (pt_nt x1 + 1))), M), .inr (4, some (pt_i 1), M), .inl true, .inr (4, some (pt_i (lb_F M (pt_R M (pt_nt x1 + 1)) x2 x3 x4)), M), .inl true] (P := pt_Cal YX6_turn (.invokevirtual 120) [pt_r 2 0, pt_i x1] M (some (pt_r 3 (pt_R M (pt_nt x1 + 1)))) M ∧ pt_Cal YX6_turn (.invokevirtual 124) [pt_r 3 (pt_R M (pt_nt x1 + 1)), pt_i x2, pt_i x3, pt_i x4] M (some (pt_i 1)) M ∧ (¬ (1 : Int32) = (0 : Int32)) ∧ pt_Cal YX6_turn (.invokevirtual 128) [pt_r 3 (pt_R M (pt_nt x1 + 1)), pt_i x2, pt_i x3, pt_i x4] M (some (pt_i (lb_F M (pt_R M (pt_nt x1 + 1)) x2 x3 x4))) M ∧ ((lb_F M (pt_R M (pt_nt x1 + 1)) x2 x3 x4) = 0) ∧ True) (by with_unfolding_all rfl) ⟨(pt_callV (i := 0) kX6_turn_120 mX6_tableAt rfl (by decide) rfl (dX6_tableAt_1 h1)), (pt_callV (i := (pt_R M (pt_nt x1 + 1))) kX6_turn_124 mX4_hasThree rfl h2 rfl (dX4_hasThree_1 h2 h3)), (by decide), (pt_callV (i := (pt_R M (pt_nt x1 + 1))) kX6_turn_128 mX4_isLeft rfl h2 rfl (dX4_isLeft_v h2 h4 h5)), h6, trivial⟩
set_option maxRecDepth 100000 in
theorem gX6_turn_0_3 (x1 : Int32) (x2 : Int32) (x3 : Int32) (x4 : Int32)  (M : pt_M) (h1 : tA_P M x1) (h2 : (pt_R M (pt_nt x1 + 1)) < 7) (h3 : ¬ ht_P M (pt_R M (pt_nt x1 + 1)) x2 x3 x4) :
    pt_Go YX6_turn (0, [(0, pt_r 2 0), (1, pt_i x1), (2, pt_i x2), (3, pt_i x3), (4, pt_i x4)], [], M)
      (25, [(0, pt_r 2 0), (1, pt_i x1), (2, pt_i x2), (3, pt_i x3), (4, pt_i x4), (5, pt_r 3 (pt_R M (pt_nt x1 + 1)))], [pt_i 0], M) :=
  pt_run_ok tX6_turn_ok 13 [.inr (2, some (pt_r 3 (pt_R M (pt_nt x1 + 1))), M), .inr (4, some (pt_i 0), M), .inl false] (P := pt_Cal YX6_turn (.invokevirtual 120) [pt_r 2 0, pt_i x1] M (some (pt_r 3 (pt_R M (pt_nt x1 + 1)))) M ∧ pt_Cal YX6_turn (.invokevirtual 124) [pt_r 3 (pt_R M (pt_nt x1 + 1)), pt_i x2, pt_i x3, pt_i x4] M (some (pt_i 0)) M ∧ ((0 : Int32) = (0 : Int32)) ∧ True) (by with_unfolding_all rfl) ⟨(pt_callV (i := 0) kX6_turn_120 mX6_tableAt rfl (by decide) rfl (dX6_tableAt_1 h1)), (pt_callV (i := (pt_R M (pt_nt x1 + 1))) kX6_turn_124 mX4_hasThree rfl h2 rfl (dX4_hasThree_0 h2 h3)), (by decide), trivial⟩
set_option maxRecDepth 100000 in
theorem gX6_turn_0_4 (x1 : Int32) (x2 : Int32) (x3 : Int32) (x4 : Int32)  (M : pt_M) (h1 : tN_P M x1) :
    pt_Go YX6_turn (0, [(0, pt_r 2 0), (1, pt_i x1), (2, pt_i x2), (3, pt_i x3), (4, pt_i x4)], [], M)
      (25, [(0, pt_r 2 0), (1, pt_i x1), (2, pt_i x2), (3, pt_i x3), (4, pt_i x4), (5, pt_r 0 0)], [pt_i 0], M) :=
  pt_run_ok tX6_turn_ok 7 [.inr (2, some (pt_r 0 0), M)] (P := pt_Cal YX6_turn (.invokevirtual 120) [pt_r 2 0, pt_i x1] M (some (pt_r 0 0)) M ∧ True) (by with_unfolding_all rfl) ⟨(pt_callV (i := 0) kX6_turn_120 mX6_tableAt rfl (by decide) rfl (dX6_tableAt_0 h1)), trivial⟩
theorem dX6_turn_p1 (x1 : Int32) (x2 : Int32) (x3 : Int32) (x4 : Int32)  (M : pt_M) (h1 : tA_P M x1) (h2 : (pt_R M (pt_nt x1 + 1)) < 7) (h3 : ht_P M (pt_R M (pt_nt x1 + 1)) x2 x3 x4) (h4 : pt_in x2 10) (h5 : pt_in x3 10) (h6 : ¬ (lb_F M (pt_R M (pt_nt x1 + 1)) x2 x3 x4) = 0) : pt_Does yX6_turn YX6_turn [pt_r 2 0, pt_i x1, pt_i x2, pt_i x3, pt_i x4] M (some (pt_i 1)) M :=
  rX6_turn_43 (Nat.le_of_ble_eq_true rfl) rfl (gX6_turn_0_1 x1 x2 x3 x4 M h1 h2 h3 h4 h5 h6)
theorem dX6_turn_p2 (x1 : Int32) (x2 : Int32) (x3 : Int32) (x4 : Int32)  (M : pt_M) (h1 : tA_P M x1) (h2 : (pt_R M (pt_nt x1 + 1)) < 7) (h3 : ht_P M (pt_R M (pt_nt x1 + 1)) x2 x3 x4) (h4 : pt_in x2 10) (h5 : pt_in x3 10) (h6 : (lb_F M (pt_R M (pt_nt x1 + 1)) x2 x3 x4) = 0) : pt_Does yX6_turn YX6_turn [pt_r 2 0, pt_i x1, pt_i x2, pt_i x3, pt_i x4] M (some (pt_i (-1))) M :=
  rX6_turn_43 (Nat.le_of_ble_eq_true rfl) rfl (gX6_turn_0_2 x1 x2 x3 x4 M h1 h2 h3 h4 h5 h6)
theorem dX6_turn_p3 (x1 : Int32) (x2 : Int32) (x3 : Int32) (x4 : Int32)  (M : pt_M) (h1 : tA_P M x1) (h2 : (pt_R M (pt_nt x1 + 1)) < 7) (h3 : ¬ ht_P M (pt_R M (pt_nt x1 + 1)) x2 x3 x4) : pt_Does yX6_turn YX6_turn [pt_r 2 0, pt_i x1, pt_i x2, pt_i x3, pt_i x4] M (some (pt_i 0)) M :=
  rX6_turn_25 (Nat.le_of_ble_eq_true rfl) rfl (gX6_turn_0_3 x1 x2 x3 x4 M h1 h2 h3)
theorem dX6_turn_p4 (x1 : Int32) (x2 : Int32) (x3 : Int32) (x4 : Int32)  (M : pt_M) (h1 : tN_P M x1) : pt_Does yX6_turn YX6_turn [pt_r 2 0, pt_i x1, pt_i x2, pt_i x3, pt_i x4] M (some (pt_i 0)) M :=
  rX6_turn_25 (Nat.le_of_ble_eq_true rfl) rfl (gX6_turn_0_4 x1 x2 x3 x4 M h1)
theorem rX6_inside_54 {vs : List pt_V} {M M' : pt_M} {x : Int32} {L : List (Nat × pt_V)} (hvs : (vs.map pt_w).sum ≤ 9) (hX : M'.2.2.2.2 = M.2.2.2.2) (h : pt_Go YX6_inside (0, pt_en 0 vs, [], M) (54, L, [pt_i x], M')) : pt_Does yX6_inside YX6_inside vs M (some (pt_i x)) M' := pt_does_go tX6_inside_ok nX6_inside hvs hX ⟨_, by with_unfolding_all rfl, rfl, _, rfl, rfl⟩ h
theorem rX6_inside_127 {vs : List pt_V} {M M' : pt_M} {x : Int32} {L : List (Nat × pt_V)} (hvs : (vs.map pt_w).sum ≤ 9) (hX : M'.2.2.2.2 = M.2.2.2.2) (h : pt_Go YX6_inside (0, pt_en 0 vs, [], M) (127, L, [pt_i x], M')) : pt_Does yX6_inside YX6_inside vs M (some (pt_i x)) M' := pt_does_go tX6_inside_ok nX6_inside hvs hX ⟨_, by with_unfolding_all rfl, rfl, _, rfl, rfl⟩ h
set_option maxRecDepth 100000 in
theorem gX6_inside_0_1 (x1 : Int32) (x2 : Int32) (x3 : Int32) (x4 : Int32) (x5 : Int32)  (M : pt_M) (h1 : tA_P M x1) (h2 : (pt_R M (pt_nt x1 + 1)) < 7) (h3 : ht_P M (pt_R M (pt_nt x1 + 1)) x2 x3 x4) (h4 : hp_P M (pt_R M (pt_nt x1 + 1)) x5) (h5 : ¬ x5 = x2) (h6 : ¬ x5 = x3) (h7 : x5 = x4) :
    pt_Go YX6_inside (0, [(0, pt_r 2 0), (1, pt_i x1), (2, pt_i x2), (3, pt_i x3), (4, pt_i x4), (5, pt_i x5)], [], M)
      (54, [(0, pt_r 2 0), (1, pt_i x1), (2, pt_i x2), (3, pt_i x3), (4, pt_i x4), (5, pt_i x5), (6, pt_r 3 (pt_R M (pt_nt x1 + 1)))], [pt_i (-1)], M) :=
  pt_run_ok tX6_inside_ok 26 [.inr (2, some (pt_r 3 (pt_R M (pt_nt x1 + 1))), M), .inr (4, some (pt_i 1), M), .inl false, .inr (2, some (pt_i 1), M), .inl false, .inl false, .inl false, .inl false] (P := pt_Cal YX6_inside (.invokevirtual 120) [pt_r 2 0, pt_i x1] M (some (pt_r 3 (pt_R M (pt_nt x1 + 1)))) M ∧ pt_Cal YX6_inside (.invokevirtual 124) [pt_r 3 (pt_R M (pt_nt x1 + 1)), pt_i x2, pt_i x3, pt_i x4] M (some (pt_i 1)) M ∧ (¬ (1 : Int32) = (0 : Int32)) ∧ pt_Cal YX6_inside (.invokevirtual 147) [pt_r 3 (pt_R M (pt_nt x1 + 1)), pt_i x5] M (some (pt_i 1)) M ∧ (¬ (1 : Int32) = (0 : Int32)) ∧ (¬ x5 = x2) ∧ (¬ x5 = x3) ∧ (x5 = x4) ∧ True) (by with_unfolding_all rfl) ⟨(pt_callV (i := 0) kX6_inside_120 mX6_tableAt rfl (by decide) rfl (dX6_tableAt_1 h1)), (pt_callV (i := (pt_R M (pt_nt x1 + 1))) kX6_inside_124 mX4_hasThree rfl h2 rfl (dX4_hasThree_1 h2 h3)), (by decide), (pt_callV (i := (pt_R M (pt_nt x1 + 1))) kX6_inside_147 mX4_hasPoint rfl h2 rfl (dX4_hasPoint_1 h2 h4)), (by decide), h5, h6, h7, trivial⟩
set_option maxRecDepth 100000 in
theorem gX6_inside_0_2 (x1 : Int32) (x2 : Int32) (x3 : Int32) (x4 : Int32) (x5 : Int32)  (M : pt_M) (h1 : tA_P M x1) (h2 : (pt_R M (pt_nt x1 + 1)) < 7) (h3 : ht_P M (pt_R M (pt_nt x1 + 1)) x2 x3 x4) (h4 : hp_P M (pt_R M (pt_nt x1 + 1)) x5) (h5 : ¬ x5 = x2) (h6 : ¬ x5 = x3) (h7 : ¬ x5 = x4) (h8 : pt_in x2 10) (h9 : pt_in x3 10) (h10 : (lb_F M (pt_R M (pt_nt x1 + 1)) x2 x3 x5) = (lb_F M (pt_R M (pt_nt x1 + 1)) x2 x3 x4)) (h11 : pt_in x4 10) (h12 : (lb_F M (pt_R M (pt_nt x1 + 1)) x3 x4 x5) = (lb_F M (pt_R M (pt_nt x1 + 1)) x2 x3 x4)) (h13 : (lb_F M (pt_R M (pt_nt x1 + 1)) x4 x2 x5) = (lb_F M (pt_R M (pt_nt x1 + 1)) x2 x3 x4)) :
    pt_Go YX6_inside (0, [(0, pt_r 2 0), (1, pt_i x1), (2, pt_i x2), (3, pt_i x3), (4, pt_i x4), (5, pt_i x5)], [], M)
      (127, [(0, pt_r 2 0), (1, pt_i x1), (2, pt_i x2), (3, pt_i x3), (4, pt_i x4), (5, pt_i x5), (6, pt_r 3 (pt_R M (pt_nt x1 + 1))), (7, pt_i (lb_F M (pt_R M (pt_nt x1 + 1)) x2 x3 x4)), (8, pt_i 1)], [pt_i 1], M) :=
  pt_run_ok tX6_inside_ok 59 [.inr (2, some (pt_r 3 (pt_R M (pt_nt x1 + 1))), M), .inr (4, some (pt_i 1), M), .inl false, .inr (2, some (pt_i 1), M), .inl false, .inl false, .inl false, .inl true, .inr (4, some (pt_i (lb_F M (pt_R M (pt_nt x1 + 1)) x2 x3 x4)), M), .inr (4, some (pt_i (lb_F M (pt_R M (pt_nt x1 + 1)) x2 x3 x5)), M), .inl false, .inr (4, some (pt_i (lb_F M (pt_R M (pt_nt x1 + 1)) x3 x4 x5)), M), .inl false, .inr (4, some (pt_i (lb_F M (pt_R M (pt_nt x1 + 1)) x4 x2 x5)), M), .inl false, .inl false] (P := pt_Cal YX6_inside (.invokevirtual 120) [pt_r 2 0, pt_i x1] M (some (pt_r 3 (pt_R M (pt_nt x1 + 1)))) M ∧ pt_Cal YX6_inside (.invokevirtual 124) [pt_r 3 (pt_R M (pt_nt x1 + 1)), pt_i x2, pt_i x3, pt_i x4] M (some (pt_i 1)) M ∧ (¬ (1 : Int32) = (0 : Int32)) ∧ pt_Cal YX6_inside (.invokevirtual 147) [pt_r 3 (pt_R M (pt_nt x1 + 1)), pt_i x5] M (some (pt_i 1)) M ∧ (¬ (1 : Int32) = (0 : Int32)) ∧ (¬ x5 = x2) ∧ (¬ x5 = x3) ∧ (¬ x5 = x4) ∧ pt_Cal YX6_inside (.invokevirtual 128) [pt_r 3 (pt_R M (pt_nt x1 + 1)), pt_i x2, pt_i x3, pt_i x4] M (some (pt_i (lb_F M (pt_R M (pt_nt x1 + 1)) x2 x3 x4))) M ∧ pt_Cal YX6_inside (.invokevirtual 128) [pt_r 3 (pt_R M (pt_nt x1 + 1)), pt_i x2, pt_i x3, pt_i x5] M (some (pt_i (lb_F M (pt_R M (pt_nt x1 + 1)) x2 x3 x5))) M ∧ ((lb_F M (pt_R M (pt_nt x1 + 1)) x2 x3 x5) = (lb_F M (pt_R M (pt_nt x1 + 1)) x2 x3 x4)) ∧ pt_Cal YX6_inside (.invokevirtual 128) [pt_r 3 (pt_R M (pt_nt x1 + 1)), pt_i x3, pt_i x4, pt_i x5] M (some (pt_i (lb_F M (pt_R M (pt_nt x1 + 1)) x3 x4 x5))) M ∧ ((lb_F M (pt_R M (pt_nt x1 + 1)) x3 x4 x5) = (lb_F M (pt_R M (pt_nt x1 + 1)) x2 x3 x4)) ∧ pt_Cal YX6_inside (.invokevirtual 128) [pt_r 3 (pt_R M (pt_nt x1 + 1)), pt_i x4, pt_i x2, pt_i x5] M (some (pt_i (lb_F M (pt_R M (pt_nt x1 + 1)) x4 x2 x5))) M ∧ ((lb_F M (pt_R M (pt_nt x1 + 1)) x4 x2 x5) = (lb_F M (pt_R M (pt_nt x1 + 1)) x2 x3 x4)) ∧ (¬ (1 : Int32) = (0 : Int32)) ∧ True) (by with_unfolding_all rfl) ⟨(pt_callV (i := 0) kX6_inside_120 mX6_tableAt rfl (by decide) rfl (dX6_tableAt_1 h1)), (pt_callV (i := (pt_R M (pt_nt x1 + 1))) kX6_inside_124 mX4_hasThree rfl h2 rfl (dX4_hasThree_1 h2 h3)), (by decide), (pt_callV (i := (pt_R M (pt_nt x1 + 1))) kX6_inside_147 mX4_hasPoint rfl h2 rfl (dX4_hasPoint_1 h2 h4)), (by decide), h5, h6, h7, (pt_callV (i := (pt_R M (pt_nt x1 + 1))) kX6_inside_128 mX4_isLeft rfl h2 rfl (dX4_isLeft_v h2 h8 h9)), (pt_callV (i := (pt_R M (pt_nt x1 + 1))) kX6_inside_128 mX4_isLeft rfl h2 rfl (dX4_isLeft_v h2 h8 h9)), h10, (pt_callV (i := (pt_R M (pt_nt x1 + 1))) kX6_inside_128 mX4_isLeft rfl h2 rfl (dX4_isLeft_v h2 h9 h11)), h12, (pt_callV (i := (pt_R M (pt_nt x1 + 1))) kX6_inside_128 mX4_isLeft rfl h2 rfl (dX4_isLeft_v h2 h11 h8)), h13, (by decide), trivial⟩
set_option maxRecDepth 100000 in
theorem gX6_inside_0_3 (x1 : Int32) (x2 : Int32) (x3 : Int32) (x4 : Int32) (x5 : Int32)  (M : pt_M) (h1 : tA_P M x1) (h2 : (pt_R M (pt_nt x1 + 1)) < 7) (h3 : ht_P M (pt_R M (pt_nt x1 + 1)) x2 x3 x4) (h4 : hp_P M (pt_R M (pt_nt x1 + 1)) x5) (h5 : ¬ x5 = x2) (h6 : ¬ x5 = x3) (h7 : ¬ x5 = x4) (h8 : pt_in x2 10) (h9 : pt_in x3 10) (h10 : (lb_F M (pt_R M (pt_nt x1 + 1)) x2 x3 x5) = (lb_F M (pt_R M (pt_nt x1 + 1)) x2 x3 x4)) (h11 : pt_in x4 10) (h12 : (lb_F M (pt_R M (pt_nt x1 + 1)) x3 x4 x5) = (lb_F M (pt_R M (pt_nt x1 + 1)) x2 x3 x4)) (h13 : ¬ (lb_F M (pt_R M (pt_nt x1 + 1)) x4 x2 x5) = (lb_F M (pt_R M (pt_nt x1 + 1)) x2 x3 x4)) :
    pt_Go YX6_inside (0, [(0, pt_r 2 0), (1, pt_i x1), (2, pt_i x2), (3, pt_i x3), (4, pt_i x4), (5, pt_i x5)], [], M)
      (127, [(0, pt_r 2 0), (1, pt_i x1), (2, pt_i x2), (3, pt_i x3), (4, pt_i x4), (5, pt_i x5), (6, pt_r 3 (pt_R M (pt_nt x1 + 1))), (7, pt_i (lb_F M (pt_R M (pt_nt x1 + 1)) x2 x3 x4)), (8, pt_i 0)], [pt_i 0], M) :=
  pt_run_ok tX6_inside_ok 57 [.inr (2, some (pt_r 3 (pt_R M (pt_nt x1 + 1))), M), .inr (4, some (pt_i 1), M), .inl false, .inr (2, some (pt_i 1), M), .inl false, .inl false, .inl false, .inl true, .inr (4, some (pt_i (lb_F M (pt_R M (pt_nt x1 + 1)) x2 x3 x4)), M), .inr (4, some (pt_i (lb_F M (pt_R M (pt_nt x1 + 1)) x2 x3 x5)), M), .inl false, .inr (4, some (pt_i (lb_F M (pt_R M (pt_nt x1 + 1)) x3 x4 x5)), M), .inl false, .inr (4, some (pt_i (lb_F M (pt_R M (pt_nt x1 + 1)) x4 x2 x5)), M), .inl true, .inl true] (P := pt_Cal YX6_inside (.invokevirtual 120) [pt_r 2 0, pt_i x1] M (some (pt_r 3 (pt_R M (pt_nt x1 + 1)))) M ∧ pt_Cal YX6_inside (.invokevirtual 124) [pt_r 3 (pt_R M (pt_nt x1 + 1)), pt_i x2, pt_i x3, pt_i x4] M (some (pt_i 1)) M ∧ (¬ (1 : Int32) = (0 : Int32)) ∧ pt_Cal YX6_inside (.invokevirtual 147) [pt_r 3 (pt_R M (pt_nt x1 + 1)), pt_i x5] M (some (pt_i 1)) M ∧ (¬ (1 : Int32) = (0 : Int32)) ∧ (¬ x5 = x2) ∧ (¬ x5 = x3) ∧ (¬ x5 = x4) ∧ pt_Cal YX6_inside (.invokevirtual 128) [pt_r 3 (pt_R M (pt_nt x1 + 1)), pt_i x2, pt_i x3, pt_i x4] M (some (pt_i (lb_F M (pt_R M (pt_nt x1 + 1)) x2 x3 x4))) M ∧ pt_Cal YX6_inside (.invokevirtual 128) [pt_r 3 (pt_R M (pt_nt x1 + 1)), pt_i x2, pt_i x3, pt_i x5] M (some (pt_i (lb_F M (pt_R M (pt_nt x1 + 1)) x2 x3 x5))) M ∧ ((lb_F M (pt_R M (pt_nt x1 + 1)) x2 x3 x5) = (lb_F M (pt_R M (pt_nt x1 + 1)) x2 x3 x4)) ∧ pt_Cal YX6_inside (.invokevirtual 128) [pt_r 3 (pt_R M (pt_nt x1 + 1)), pt_i x3, pt_i x4, pt_i x5] M (some (pt_i (lb_F M (pt_R M (pt_nt x1 + 1)) x3 x4 x5))) M ∧ ((lb_F M (pt_R M (pt_nt x1 + 1)) x3 x4 x5) = (lb_F M (pt_R M (pt_nt x1 + 1)) x2 x3 x4)) ∧ pt_Cal YX6_inside (.invokevirtual 128) [pt_r 3 (pt_R M (pt_nt x1 + 1)), pt_i x4, pt_i x2, pt_i x5] M (some (pt_i (lb_F M (pt_R M (pt_nt x1 + 1)) x4 x2 x5))) M ∧ (¬ (lb_F M (pt_R M (pt_nt x1 + 1)) x4 x2 x5) = (lb_F M (pt_R M (pt_nt x1 + 1)) x2 x3 x4)) ∧ ((0 : Int32) = (0 : Int32)) ∧ True) (by with_unfolding_all rfl) ⟨(pt_callV (i := 0) kX6_inside_120 mX6_tableAt rfl (by decide) rfl (dX6_tableAt_1 h1)), (pt_callV (i := (pt_R M (pt_nt x1 + 1))) kX6_inside_124 mX4_hasThree rfl h2 rfl (dX4_hasThree_1 h2 h3)), (by decide), (pt_callV (i := (pt_R M (pt_nt x1 + 1))) kX6_inside_147 mX4_hasPoint rfl h2 rfl (dX4_hasPoint_1 h2 h4)), (by decide), h5, h6, h7, (pt_callV (i := (pt_R M (pt_nt x1 + 1))) kX6_inside_128 mX4_isLeft rfl h2 rfl (dX4_isLeft_v h2 h8 h9)), (pt_callV (i := (pt_R M (pt_nt x1 + 1))) kX6_inside_128 mX4_isLeft rfl h2 rfl (dX4_isLeft_v h2 h8 h9)), h10, (pt_callV (i := (pt_R M (pt_nt x1 + 1))) kX6_inside_128 mX4_isLeft rfl h2 rfl (dX4_isLeft_v h2 h9 h11)), h12, (pt_callV (i := (pt_R M (pt_nt x1 + 1))) kX6_inside_128 mX4_isLeft rfl h2 rfl (dX4_isLeft_v h2 h11 h8)), h13, (by decide), trivial⟩
set_option maxRecDepth 100000 in
theorem gX6_inside_0_4 (x1 : Int32) (x2 : Int32) (x3 : Int32) (x4 : Int32) (x5 : Int32)  (M : pt_M) (h1 : tA_P M x1) (h2 : (pt_R M (pt_nt x1 + 1)) < 7) (h3 : ht_P M (pt_R M (pt_nt x1 + 1)) x2 x3 x4) (h4 : hp_P M (pt_R M (pt_nt x1 + 1)) x5) (h5 : ¬ x5 = x2) (h6 : ¬ x5 = x3) (h7 : ¬ x5 = x4) (h8 : pt_in x2 10) (h9 : pt_in x3 10) (h10 : (lb_F M (pt_R M (pt_nt x1 + 1)) x2 x3 x5) = (lb_F M (pt_R M (pt_nt x1 + 1)) x2 x3 x4)) (h11 : pt_in x4 10) (h12 : ¬ (lb_F M (pt_R M (pt_nt x1 + 1)) x3 x4 x5) = (lb_F M (pt_R M (pt_nt x1 + 1)) x2 x3 x4)) :
    pt_Go YX6_inside (0, [(0, pt_r 2 0), (1, pt_i x1), (2, pt_i x2), (3, pt_i x3), (4, pt_i x4), (5, pt_i x5)], [], M)
      (127, [(0, pt_r 2 0), (1, pt_i x1), (2, pt_i x2), (3, pt_i x3), (4, pt_i x4), (5, pt_i x5), (6, pt_r 3 (pt_R M (pt_nt x1 + 1))), (7, pt_i (lb_F M (pt_R M (pt_nt x1 + 1)) x2 x3 x4)), (8, pt_i 0)], [pt_i 0], M) :=
  pt_run_ok tX6_inside_ok 50 [.inr (2, some (pt_r 3 (pt_R M (pt_nt x1 + 1))), M), .inr (4, some (pt_i 1), M), .inl false, .inr (2, some (pt_i 1), M), .inl false, .inl false, .inl false, .inl true, .inr (4, some (pt_i (lb_F M (pt_R M (pt_nt x1 + 1)) x2 x3 x4)), M), .inr (4, some (pt_i (lb_F M (pt_R M (pt_nt x1 + 1)) x2 x3 x5)), M), .inl false, .inr (4, some (pt_i (lb_F M (pt_R M (pt_nt x1 + 1)) x3 x4 x5)), M), .inl true, .inl true] (P := pt_Cal YX6_inside (.invokevirtual 120) [pt_r 2 0, pt_i x1] M (some (pt_r 3 (pt_R M (pt_nt x1 + 1)))) M ∧ pt_Cal YX6_inside (.invokevirtual 124) [pt_r 3 (pt_R M (pt_nt x1 + 1)), pt_i x2, pt_i x3, pt_i x4] M (some (pt_i 1)) M ∧ (¬ (1 : Int32) = (0 : Int32)) ∧ pt_Cal YX6_inside (.invokevirtual 147) [pt_r 3 (pt_R M (pt_nt x1 + 1)), pt_i x5] M (some (pt_i 1)) M ∧ (¬ (1 : Int32) = (0 : Int32)) ∧ (¬ x5 = x2) ∧ (¬ x5 = x3) ∧ (¬ x5 = x4) ∧ pt_Cal YX6_inside (.invokevirtual 128) [pt_r 3 (pt_R M (pt_nt x1 + 1)), pt_i x2, pt_i x3, pt_i x4] M (some (pt_i (lb_F M (pt_R M (pt_nt x1 + 1)) x2 x3 x4))) M ∧ pt_Cal YX6_inside (.invokevirtual 128) [pt_r 3 (pt_R M (pt_nt x1 + 1)), pt_i x2, pt_i x3, pt_i x5] M (some (pt_i (lb_F M (pt_R M (pt_nt x1 + 1)) x2 x3 x5))) M ∧ ((lb_F M (pt_R M (pt_nt x1 + 1)) x2 x3 x5) = (lb_F M (pt_R M (pt_nt x1 + 1)) x2 x3 x4)) ∧ pt_Cal YX6_inside (.invokevirtual 128) [pt_r 3 (pt_R M (pt_nt x1 + 1)), pt_i x3, pt_i x4, pt_i x5] M (some (pt_i (lb_F M (pt_R M (pt_nt x1 + 1)) x3 x4 x5))) M ∧ (¬ (lb_F M (pt_R M (pt_nt x1 + 1)) x3 x4 x5) = (lb_F M (pt_R M (pt_nt x1 + 1)) x2 x3 x4)) ∧ ((0 : Int32) = (0 : Int32)) ∧ True) (by with_unfolding_all rfl) ⟨(pt_callV (i := 0) kX6_inside_120 mX6_tableAt rfl (by decide) rfl (dX6_tableAt_1 h1)), (pt_callV (i := (pt_R M (pt_nt x1 + 1))) kX6_inside_124 mX4_hasThree rfl h2 rfl (dX4_hasThree_1 h2 h3)), (by decide), (pt_callV (i := (pt_R M (pt_nt x1 + 1))) kX6_inside_147 mX4_hasPoint rfl h2 rfl (dX4_hasPoint_1 h2 h4)), (by decide), h5, h6, h7, (pt_callV (i := (pt_R M (pt_nt x1 + 1))) kX6_inside_128 mX4_isLeft rfl h2 rfl (dX4_isLeft_v h2 h8 h9)), (pt_callV (i := (pt_R M (pt_nt x1 + 1))) kX6_inside_128 mX4_isLeft rfl h2 rfl (dX4_isLeft_v h2 h8 h9)), h10, (pt_callV (i := (pt_R M (pt_nt x1 + 1))) kX6_inside_128 mX4_isLeft rfl h2 rfl (dX4_isLeft_v h2 h9 h11)), h12, (by decide), trivial⟩
set_option maxRecDepth 100000 in
theorem gX6_inside_0_5 (x1 : Int32) (x2 : Int32) (x3 : Int32) (x4 : Int32) (x5 : Int32)  (M : pt_M) (h1 : tA_P M x1) (h2 : (pt_R M (pt_nt x1 + 1)) < 7) (h3 : ht_P M (pt_R M (pt_nt x1 + 1)) x2 x3 x4) (h4 : hp_P M (pt_R M (pt_nt x1 + 1)) x5) (h5 : ¬ x5 = x2) (h6 : ¬ x5 = x3) (h7 : ¬ x5 = x4) (h8 : pt_in x2 10) (h9 : pt_in x3 10) (h10 : ¬ (lb_F M (pt_R M (pt_nt x1 + 1)) x2 x3 x5) = (lb_F M (pt_R M (pt_nt x1 + 1)) x2 x3 x4)) :
    pt_Go YX6_inside (0, [(0, pt_r 2 0), (1, pt_i x1), (2, pt_i x2), (3, pt_i x3), (4, pt_i x4), (5, pt_i x5)], [], M)
      (127, [(0, pt_r 2 0), (1, pt_i x1), (2, pt_i x2), (3, pt_i x3), (4, pt_i x4), (5, pt_i x5), (6, pt_r 3 (pt_R M (pt_nt x1 + 1))), (7, pt_i (lb_F M (pt_R M (pt_nt x1 + 1)) x2 x3 x4)), (8, pt_i 0)], [pt_i 0], M) :=
  pt_run_ok tX6_inside_ok 43 [.inr (2, some (pt_r 3 (pt_R M (pt_nt x1 + 1))), M), .inr (4, some (pt_i 1), M), .inl false, .inr (2, some (pt_i 1), M), .inl false, .inl false, .inl false, .inl true, .inr (4, some (pt_i (lb_F M (pt_R M (pt_nt x1 + 1)) x2 x3 x4)), M), .inr (4, some (pt_i (lb_F M (pt_R M (pt_nt x1 + 1)) x2 x3 x5)), M), .inl true, .inl true] (P := pt_Cal YX6_inside (.invokevirtual 120) [pt_r 2 0, pt_i x1] M (some (pt_r 3 (pt_R M (pt_nt x1 + 1)))) M ∧ pt_Cal YX6_inside (.invokevirtual 124) [pt_r 3 (pt_R M (pt_nt x1 + 1)), pt_i x2, pt_i x3, pt_i x4] M (some (pt_i 1)) M ∧ (¬ (1 : Int32) = (0 : Int32)) ∧ pt_Cal YX6_inside (.invokevirtual 147) [pt_r 3 (pt_R M (pt_nt x1 + 1)), pt_i x5] M (some (pt_i 1)) M ∧ (¬ (1 : Int32) = (0 : Int32)) ∧ (¬ x5 = x2) ∧ (¬ x5 = x3) ∧ (¬ x5 = x4) ∧ pt_Cal YX6_inside (.invokevirtual 128) [pt_r 3 (pt_R M (pt_nt x1 + 1)), pt_i x2, pt_i x3, pt_i x4] M (some (pt_i (lb_F M (pt_R M (pt_nt x1 + 1)) x2 x3 x4))) M ∧ pt_Cal YX6_inside (.invokevirtual 128) [pt_r 3 (pt_R M (pt_nt x1 + 1)), pt_i x2, pt_i x3, pt_i x5] M (some (pt_i (lb_F M (pt_R M (pt_nt x1 + 1)) x2 x3 x5))) M ∧ (¬ (lb_F M (pt_R M (pt_nt x1 + 1)) x2 x3 x5) = (lb_F M (pt_R M (pt_nt x1 + 1)) x2 x3 x4)) ∧ ((0 : Int32) = (0 : Int32)) ∧ True) (by with_unfolding_all rfl) ⟨(pt_callV (i := 0) kX6_inside_120 mX6_tableAt rfl (by decide) rfl (dX6_tableAt_1 h1)), (pt_callV (i := (pt_R M (pt_nt x1 + 1))) kX6_inside_124 mX4_hasThree rfl h2 rfl (dX4_hasThree_1 h2 h3)), (by decide), (pt_callV (i := (pt_R M (pt_nt x1 + 1))) kX6_inside_147 mX4_hasPoint rfl h2 rfl (dX4_hasPoint_1 h2 h4)), (by decide), h5, h6, h7, (pt_callV (i := (pt_R M (pt_nt x1 + 1))) kX6_inside_128 mX4_isLeft rfl h2 rfl (dX4_isLeft_v h2 h8 h9)), (pt_callV (i := (pt_R M (pt_nt x1 + 1))) kX6_inside_128 mX4_isLeft rfl h2 rfl (dX4_isLeft_v h2 h8 h9)), h10, (by decide), trivial⟩
set_option maxRecDepth 100000 in
theorem gX6_inside_0_6 (x1 : Int32) (x2 : Int32) (x3 : Int32) (x4 : Int32) (x5 : Int32)  (M : pt_M) (h1 : tA_P M x1) (h2 : (pt_R M (pt_nt x1 + 1)) < 7) (h3 : ht_P M (pt_R M (pt_nt x1 + 1)) x2 x3 x4) (h4 : hp_P M (pt_R M (pt_nt x1 + 1)) x5) (h5 : ¬ x5 = x2) (h6 : x5 = x3) :
    pt_Go YX6_inside (0, [(0, pt_r 2 0), (1, pt_i x1), (2, pt_i x2), (3, pt_i x3), (4, pt_i x4), (5, pt_i x5)], [], M)
      (54, [(0, pt_r 2 0), (1, pt_i x1), (2, pt_i x2), (3, pt_i x3), (4, pt_i x4), (5, pt_i x5), (6, pt_r 3 (pt_R M (pt_nt x1 + 1)))], [pt_i (-1)], M) :=
  pt_run_ok tX6_inside_ok 23 [.inr (2, some (pt_r 3 (pt_R M (pt_nt x1 + 1))), M), .inr (4, some (pt_i 1), M), .inl false, .inr (2, some (pt_i 1), M), .inl false, .inl false, .inl true] (P := pt_Cal YX6_inside (.invokevirtual 120) [pt_r 2 0, pt_i x1] M (some (pt_r 3 (pt_R M (pt_nt x1 + 1)))) M ∧ pt_Cal YX6_inside (.invokevirtual 124) [pt_r 3 (pt_R M (pt_nt x1 + 1)), pt_i x2, pt_i x3, pt_i x4] M (some (pt_i 1)) M ∧ (¬ (1 : Int32) = (0 : Int32)) ∧ pt_Cal YX6_inside (.invokevirtual 147) [pt_r 3 (pt_R M (pt_nt x1 + 1)), pt_i x5] M (some (pt_i 1)) M ∧ (¬ (1 : Int32) = (0 : Int32)) ∧ (¬ x5 = x2) ∧ (x5 = x3) ∧ True) (by with_unfolding_all rfl) ⟨(pt_callV (i := 0) kX6_inside_120 mX6_tableAt rfl (by decide) rfl (dX6_tableAt_1 h1)), (pt_callV (i := (pt_R M (pt_nt x1 + 1))) kX6_inside_124 mX4_hasThree rfl h2 rfl (dX4_hasThree_1 h2 h3)), (by decide), (pt_callV (i := (pt_R M (pt_nt x1 + 1))) kX6_inside_147 mX4_hasPoint rfl h2 rfl (dX4_hasPoint_1 h2 h4)), (by decide), h5, h6, trivial⟩
set_option maxRecDepth 100000 in
theorem gX6_inside_0_7 (x1 : Int32) (x2 : Int32) (x3 : Int32) (x4 : Int32) (x5 : Int32)  (M : pt_M) (h1 : tA_P M x1) (h2 : (pt_R M (pt_nt x1 + 1)) < 7) (h3 : ht_P M (pt_R M (pt_nt x1 + 1)) x2 x3 x4) (h4 : hp_P M (pt_R M (pt_nt x1 + 1)) x5) (h5 : x5 = x2) :
    pt_Go YX6_inside (0, [(0, pt_r 2 0), (1, pt_i x1), (2, pt_i x2), (3, pt_i x3), (4, pt_i x4), (5, pt_i x5)], [], M)
      (54, [(0, pt_r 2 0), (1, pt_i x1), (2, pt_i x2), (3, pt_i x3), (4, pt_i x4), (5, pt_i x5), (6, pt_r 3 (pt_R M (pt_nt x1 + 1)))], [pt_i (-1)], M) :=
  pt_run_ok tX6_inside_ok 20 [.inr (2, some (pt_r 3 (pt_R M (pt_nt x1 + 1))), M), .inr (4, some (pt_i 1), M), .inl false, .inr (2, some (pt_i 1), M), .inl false, .inl true] (P := pt_Cal YX6_inside (.invokevirtual 120) [pt_r 2 0, pt_i x1] M (some (pt_r 3 (pt_R M (pt_nt x1 + 1)))) M ∧ pt_Cal YX6_inside (.invokevirtual 124) [pt_r 3 (pt_R M (pt_nt x1 + 1)), pt_i x2, pt_i x3, pt_i x4] M (some (pt_i 1)) M ∧ (¬ (1 : Int32) = (0 : Int32)) ∧ pt_Cal YX6_inside (.invokevirtual 147) [pt_r 3 (pt_R M (pt_nt x1 + 1)), pt_i x5] M (some (pt_i 1)) M ∧ (¬ (1 : Int32) = (0 : Int32)) ∧ (x5 = x2) ∧ True) (by with_unfolding_all rfl) ⟨(pt_callV (i := 0) kX6_inside_120 mX6_tableAt rfl (by decide) rfl (dX6_tableAt_1 h1)), (pt_callV (i := (pt_R M (pt_nt x1 + 1))) kX6_inside_124 mX4_hasThree rfl h2 rfl (dX4_hasThree_1 h2 h3)), (by decide), (pt_callV (i := (pt_R M (pt_nt x1 + 1))) kX6_inside_147 mX4_hasPoint rfl h2 rfl (dX4_hasPoint_1 h2 h4)), (by decide), h5, trivial⟩
set_option maxRecDepth 100000 in
theorem gX6_inside_0_8 (x1 : Int32) (x2 : Int32) (x3 : Int32) (x4 : Int32) (x5 : Int32)  (M : pt_M) (h1 : tA_P M x1) (h2 : (pt_R M (pt_nt x1 + 1)) < 7) (h3 : ht_P M (pt_R M (pt_nt x1 + 1)) x2 x3 x4) (h4 : ¬ hp_P M (pt_R M (pt_nt x1 + 1)) x5) :
    pt_Go YX6_inside (0, [(0, pt_r 2 0), (1, pt_i x1), (2, pt_i x2), (3, pt_i x3), (4, pt_i x4), (5, pt_i x5)], [], M)
      (54, [(0, pt_r 2 0), (1, pt_i x1), (2, pt_i x2), (3, pt_i x3), (4, pt_i x4), (5, pt_i x5), (6, pt_r 3 (pt_R M (pt_nt x1 + 1)))], [pt_i (-1)], M) :=
  pt_run_ok tX6_inside_ok 17 [.inr (2, some (pt_r 3 (pt_R M (pt_nt x1 + 1))), M), .inr (4, some (pt_i 1), M), .inl false, .inr (2, some (pt_i 0), M), .inl true] (P := pt_Cal YX6_inside (.invokevirtual 120) [pt_r 2 0, pt_i x1] M (some (pt_r 3 (pt_R M (pt_nt x1 + 1)))) M ∧ pt_Cal YX6_inside (.invokevirtual 124) [pt_r 3 (pt_R M (pt_nt x1 + 1)), pt_i x2, pt_i x3, pt_i x4] M (some (pt_i 1)) M ∧ (¬ (1 : Int32) = (0 : Int32)) ∧ pt_Cal YX6_inside (.invokevirtual 147) [pt_r 3 (pt_R M (pt_nt x1 + 1)), pt_i x5] M (some (pt_i 0)) M ∧ ((0 : Int32) = (0 : Int32)) ∧ True) (by with_unfolding_all rfl) ⟨(pt_callV (i := 0) kX6_inside_120 mX6_tableAt rfl (by decide) rfl (dX6_tableAt_1 h1)), (pt_callV (i := (pt_R M (pt_nt x1 + 1))) kX6_inside_124 mX4_hasThree rfl h2 rfl (dX4_hasThree_1 h2 h3)), (by decide), (pt_callV (i := (pt_R M (pt_nt x1 + 1))) kX6_inside_147 mX4_hasPoint rfl h2 rfl (dX4_hasPoint_0 h2 h4)), (by decide), trivial⟩
set_option maxRecDepth 100000 in
theorem gX6_inside_0_9 (x1 : Int32) (x2 : Int32) (x3 : Int32) (x4 : Int32) (x5 : Int32)  (M : pt_M) (h1 : tA_P M x1) (h2 : (pt_R M (pt_nt x1 + 1)) < 7) (h3 : ¬ ht_P M (pt_R M (pt_nt x1 + 1)) x2 x3 x4) :
    pt_Go YX6_inside (0, [(0, pt_r 2 0), (1, pt_i x1), (2, pt_i x2), (3, pt_i x3), (4, pt_i x4), (5, pt_i x5)], [], M)
      (54, [(0, pt_r 2 0), (1, pt_i x1), (2, pt_i x2), (3, pt_i x3), (4, pt_i x4), (5, pt_i x5), (6, pt_r 3 (pt_R M (pt_nt x1 + 1)))], [pt_i (-1)], M) :=
  pt_run_ok tX6_inside_ok 13 [.inr (2, some (pt_r 3 (pt_R M (pt_nt x1 + 1))), M), .inr (4, some (pt_i 0), M), .inl true] (P := pt_Cal YX6_inside (.invokevirtual 120) [pt_r 2 0, pt_i x1] M (some (pt_r 3 (pt_R M (pt_nt x1 + 1)))) M ∧ pt_Cal YX6_inside (.invokevirtual 124) [pt_r 3 (pt_R M (pt_nt x1 + 1)), pt_i x2, pt_i x3, pt_i x4] M (some (pt_i 0)) M ∧ ((0 : Int32) = (0 : Int32)) ∧ True) (by with_unfolding_all rfl) ⟨(pt_callV (i := 0) kX6_inside_120 mX6_tableAt rfl (by decide) rfl (dX6_tableAt_1 h1)), (pt_callV (i := (pt_R M (pt_nt x1 + 1))) kX6_inside_124 mX4_hasThree rfl h2 rfl (dX4_hasThree_0 h2 h3)), (by decide), trivial⟩
set_option maxRecDepth 100000 in
theorem gX6_inside_0_10 (x1 : Int32) (x2 : Int32) (x3 : Int32) (x4 : Int32) (x5 : Int32)  (M : pt_M) (h1 : tN_P M x1) :
    pt_Go YX6_inside (0, [(0, pt_r 2 0), (1, pt_i x1), (2, pt_i x2), (3, pt_i x3), (4, pt_i x4), (5, pt_i x5)], [], M)
      (54, [(0, pt_r 2 0), (1, pt_i x1), (2, pt_i x2), (3, pt_i x3), (4, pt_i x4), (5, pt_i x5), (6, pt_r 0 0)], [pt_i (-1)], M) :=
  pt_run_ok tX6_inside_ok 7 [.inr (2, some (pt_r 0 0), M)] (P := pt_Cal YX6_inside (.invokevirtual 120) [pt_r 2 0, pt_i x1] M (some (pt_r 0 0)) M ∧ True) (by with_unfolding_all rfl) ⟨(pt_callV (i := 0) kX6_inside_120 mX6_tableAt rfl (by decide) rfl (dX6_tableAt_0 h1)), trivial⟩
theorem dX6_inside_p1 (x1 : Int32) (x2 : Int32) (x3 : Int32) (x4 : Int32) (x5 : Int32)  (M : pt_M) (h1 : tA_P M x1) (h2 : (pt_R M (pt_nt x1 + 1)) < 7) (h3 : ht_P M (pt_R M (pt_nt x1 + 1)) x2 x3 x4) (h4 : hp_P M (pt_R M (pt_nt x1 + 1)) x5) (h5 : ¬ x5 = x2) (h6 : ¬ x5 = x3) (h7 : x5 = x4) : pt_Does yX6_inside YX6_inside [pt_r 2 0, pt_i x1, pt_i x2, pt_i x3, pt_i x4, pt_i x5] M (some (pt_i (-1))) M :=
  rX6_inside_54 (Nat.le_of_ble_eq_true rfl) rfl (gX6_inside_0_1 x1 x2 x3 x4 x5 M h1 h2 h3 h4 h5 h6 h7)
theorem dX6_inside_p2 (x1 : Int32) (x2 : Int32) (x3 : Int32) (x4 : Int32) (x5 : Int32)  (M : pt_M) (h1 : tA_P M x1) (h2 : (pt_R M (pt_nt x1 + 1)) < 7) (h3 : ht_P M (pt_R M (pt_nt x1 + 1)) x2 x3 x4) (h4 : hp_P M (pt_R M (pt_nt x1 + 1)) x5) (h5 : ¬ x5 = x2) (h6 : ¬ x5 = x3) (h7 : ¬ x5 = x4) (h8 : pt_in x2 10) (h9 : pt_in x3 10) (h10 : (lb_F M (pt_R M (pt_nt x1 + 1)) x2 x3 x5) = (lb_F M (pt_R M (pt_nt x1 + 1)) x2 x3 x4)) (h11 : pt_in x4 10) (h12 : (lb_F M (pt_R M (pt_nt x1 + 1)) x3 x4 x5) = (lb_F M (pt_R M (pt_nt x1 + 1)) x2 x3 x4)) (h13 : (lb_F M (pt_R M (pt_nt x1 + 1)) x4 x2 x5) = (lb_F M (pt_R M (pt_nt x1 + 1)) x2 x3 x4)) : pt_Does yX6_inside YX6_inside [pt_r 2 0, pt_i x1, pt_i x2, pt_i x3, pt_i x4, pt_i x5] M (some (pt_i 1)) M :=
  rX6_inside_127 (Nat.le_of_ble_eq_true rfl) rfl (gX6_inside_0_2 x1 x2 x3 x4 x5 M h1 h2 h3 h4 h5 h6 h7 h8 h9 h10 h11 h12 h13)
theorem dX6_inside_p3 (x1 : Int32) (x2 : Int32) (x3 : Int32) (x4 : Int32) (x5 : Int32)  (M : pt_M) (h1 : tA_P M x1) (h2 : (pt_R M (pt_nt x1 + 1)) < 7) (h3 : ht_P M (pt_R M (pt_nt x1 + 1)) x2 x3 x4) (h4 : hp_P M (pt_R M (pt_nt x1 + 1)) x5) (h5 : ¬ x5 = x2) (h6 : ¬ x5 = x3) (h7 : ¬ x5 = x4) (h8 : pt_in x2 10) (h9 : pt_in x3 10) (h10 : (lb_F M (pt_R M (pt_nt x1 + 1)) x2 x3 x5) = (lb_F M (pt_R M (pt_nt x1 + 1)) x2 x3 x4)) (h11 : pt_in x4 10) (h12 : (lb_F M (pt_R M (pt_nt x1 + 1)) x3 x4 x5) = (lb_F M (pt_R M (pt_nt x1 + 1)) x2 x3 x4)) (h13 : ¬ (lb_F M (pt_R M (pt_nt x1 + 1)) x4 x2 x5) = (lb_F M (pt_R M (pt_nt x1 + 1)) x2 x3 x4)) : pt_Does yX6_inside YX6_inside [pt_r 2 0, pt_i x1, pt_i x2, pt_i x3, pt_i x4, pt_i x5] M (some (pt_i 0)) M :=
  rX6_inside_127 (Nat.le_of_ble_eq_true rfl) rfl (gX6_inside_0_3 x1 x2 x3 x4 x5 M h1 h2 h3 h4 h5 h6 h7 h8 h9 h10 h11 h12 h13)
theorem dX6_inside_p4 (x1 : Int32) (x2 : Int32) (x3 : Int32) (x4 : Int32) (x5 : Int32)  (M : pt_M) (h1 : tA_P M x1) (h2 : (pt_R M (pt_nt x1 + 1)) < 7) (h3 : ht_P M (pt_R M (pt_nt x1 + 1)) x2 x3 x4) (h4 : hp_P M (pt_R M (pt_nt x1 + 1)) x5) (h5 : ¬ x5 = x2) (h6 : ¬ x5 = x3) (h7 : ¬ x5 = x4) (h8 : pt_in x2 10) (h9 : pt_in x3 10) (h10 : (lb_F M (pt_R M (pt_nt x1 + 1)) x2 x3 x5) = (lb_F M (pt_R M (pt_nt x1 + 1)) x2 x3 x4)) (h11 : pt_in x4 10) (h12 : ¬ (lb_F M (pt_R M (pt_nt x1 + 1)) x3 x4 x5) = (lb_F M (pt_R M (pt_nt x1 + 1)) x2 x3 x4)) : pt_Does yX6_inside YX6_inside [pt_r 2 0, pt_i x1, pt_i x2, pt_i x3, pt_i x4, pt_i x5] M (some (pt_i 0)) M :=
  rX6_inside_127 (Nat.le_of_ble_eq_true rfl) rfl (gX6_inside_0_4 x1 x2 x3 x4 x5 M h1 h2 h3 h4 h5 h6 h7 h8 h9 h10 h11 h12)
theorem dX6_inside_p5 (x1 : Int32) (x2 : Int32) (x3 : Int32) (x4 : Int32) (x5 : Int32)  (M : pt_M) (h1 : tA_P M x1) (h2 : (pt_R M (pt_nt x1 + 1)) < 7) (h3 : ht_P M (pt_R M (pt_nt x1 + 1)) x2 x3 x4) (h4 : hp_P M (pt_R M (pt_nt x1 + 1)) x5) (h5 : ¬ x5 = x2) (h6 : ¬ x5 = x3) (h7 : ¬ x5 = x4) (h8 : pt_in x2 10) (h9 : pt_in x3 10) (h10 : ¬ (lb_F M (pt_R M (pt_nt x1 + 1)) x2 x3 x5) = (lb_F M (pt_R M (pt_nt x1 + 1)) x2 x3 x4)) : pt_Does yX6_inside YX6_inside [pt_r 2 0, pt_i x1, pt_i x2, pt_i x3, pt_i x4, pt_i x5] M (some (pt_i 0)) M :=
  rX6_inside_127 (Nat.le_of_ble_eq_true rfl) rfl (gX6_inside_0_5 x1 x2 x3 x4 x5 M h1 h2 h3 h4 h5 h6 h7 h8 h9 h10)
theorem dX6_inside_p6 (x1 : Int32) (x2 : Int32) (x3 : Int32) (x4 : Int32) (x5 : Int32)  (M : pt_M) (h1 : tA_P M x1) (h2 : (pt_R M (pt_nt x1 + 1)) < 7) (h3 : ht_P M (pt_R M (pt_nt x1 + 1)) x2 x3 x4) (h4 : hp_P M (pt_R M (pt_nt x1 + 1)) x5) (h5 : ¬ x5 = x2) (h6 : x5 = x3) : pt_Does yX6_inside YX6_inside [pt_r 2 0, pt_i x1, pt_i x2, pt_i x3, pt_i x4, pt_i x5] M (some (pt_i (-1))) M :=
  rX6_inside_54 (Nat.le_of_ble_eq_true rfl) rfl (gX6_inside_0_6 x1 x2 x3 x4 x5 M h1 h2 h3 h4 h5 h6)
theorem dX6_inside_p7 (x1 : Int32) (x2 : Int32) (x3 : Int32) (x4 : Int32) (x5 : Int32)  (M : pt_M) (h1 : tA_P M x1) (h2 : (pt_R M (pt_nt x1 + 1)) < 7) (h3 : ht_P M (pt_R M (pt_nt x1 + 1)) x2 x3 x4) (h4 : hp_P M (pt_R M (pt_nt x1 + 1)) x5) (h5 : x5 = x2) : pt_Does yX6_inside YX6_inside [pt_r 2 0, pt_i x1, pt_i x2, pt_i x3, pt_i x4, pt_i x5] M (some (pt_i (-1))) M :=
  rX6_inside_54 (Nat.le_of_ble_eq_true rfl) rfl (gX6_inside_0_7 x1 x2 x3 x4 x5 M h1 h2 h3 h4 h5)
theorem dX6_inside_p8 (x1 : Int32) (x2 : Int32) (x3 : Int32) (x4 : Int32) (x5 : Int32)  (M : pt_M) (h1 : tA_P M x1) (h2 : (pt_R M (pt_nt x1 + 1)) < 7) (h3 : ht_P M (pt_R M (pt_nt x1 + 1)) x2 x3 x4) (h4 : ¬ hp_P M (pt_R M (pt_nt x1 + 1)) x5) : pt_Does yX6_inside YX6_inside [pt_r 2 0, pt_i x1, pt_i x2, pt_i x3, pt_i x4, pt_i x5] M (some (pt_i (-1))) M :=
  rX6_inside_54 (Nat.le_of_ble_eq_true rfl) rfl (gX6_inside_0_8 x1 x2 x3 x4 x5 M h1 h2 h3 h4)
theorem dX6_inside_p9 (x1 : Int32) (x2 : Int32) (x3 : Int32) (x4 : Int32) (x5 : Int32)  (M : pt_M) (h1 : tA_P M x1) (h2 : (pt_R M (pt_nt x1 + 1)) < 7) (h3 : ¬ ht_P M (pt_R M (pt_nt x1 + 1)) x2 x3 x4) : pt_Does yX6_inside YX6_inside [pt_r 2 0, pt_i x1, pt_i x2, pt_i x3, pt_i x4, pt_i x5] M (some (pt_i (-1))) M :=
  rX6_inside_54 (Nat.le_of_ble_eq_true rfl) rfl (gX6_inside_0_9 x1 x2 x3 x4 x5 M h1 h2 h3)
theorem dX6_inside_p10 (x1 : Int32) (x2 : Int32) (x3 : Int32) (x4 : Int32) (x5 : Int32)  (M : pt_M) (h1 : tN_P M x1) : pt_Does yX6_inside YX6_inside [pt_r 2 0, pt_i x1, pt_i x2, pt_i x3, pt_i x4, pt_i x5] M (some (pt_i (-1))) M :=
  rX6_inside_54 (Nat.le_of_ble_eq_true rfl) rfl (gX6_inside_0_10 x1 x2 x3 x4 x5 M h1)
theorem rX6_flip_25 {vs : List pt_V} {M M' : pt_M} {x : Int32} {L : List (Nat × pt_V)} (hn : narrow .boolean (.int x) = .int x) (hvs : (vs.map pt_w).sum ≤ 6) (hX : M'.2.2.2.2 = M.2.2.2.2) (h : pt_Go YX6_flip (0, pt_en 0 vs, [], M) (25, L, [pt_i x], M')) : pt_Does yX6_flip YX6_flip vs M (some (pt_i x)) M' := pt_does_go tX6_flip_ok nX6_flip hvs hX ⟨_, by with_unfolding_all rfl, rfl, _, rfl, hn⟩ h
theorem rX6_flip_58 {vs : List pt_V} {M M' : pt_M} {x : Int32} {L : List (Nat × pt_V)} (hn : narrow .boolean (.int x) = .int x) (hvs : (vs.map pt_w).sum ≤ 6) (hX : M'.2.2.2.2 = M.2.2.2.2) (h : pt_Go YX6_flip (0, pt_en 0 vs, [], M) (58, L, [pt_i x], M')) : pt_Does yX6_flip YX6_flip vs M (some (pt_i x)) M' := pt_does_go tX6_flip_ok nX6_flip hvs hX ⟨_, by with_unfolding_all rfl, rfl, _, rfl, hn⟩ h
set_option maxRecDepth 100000 in
theorem gX6_flip_0_1 (x1 : Int32) (x2 : Int32) (x3 : Int32) (x4 : Int32)  (M : pt_M) (h1 : tA_P M x1) (h2 : (pt_R M (pt_nt x1 + 1)) < 7) (h3 : ht_P M (pt_R M (pt_nt x1 + 1)) x2 x3 x4) (h4 : pt_in x2 10) (h5 : pt_in x3 10) (h6 : (lb_F M (pt_R M (pt_nt x1 + 1)) x2 x3 x4) = 0) (h7 : pu_P x2 x3 x4) :
    pt_Go YX6_flip (0, [(0, pt_r 2 0), (1, pt_i x1), (2, pt_i x2), (3, pt_i x3), (4, pt_i x4)], [], M)
      (58, [(0, pt_r 2 0), (1, pt_i x1), (2, pt_i x2), (3, pt_i x3), (4, pt_i x4), (5, pt_r 3 (pt_R M (pt_nt x1 + 1)))], [pt_i 1], (fg_F (pu_F M (pt_R M (pt_nt x1 + 1)) x2 x3 x4 1) (pt_R M (pt_nt x1 + 1)))) :=
  pt_run_ok tX6_flip_ok 28 [.inr (2, some (pt_r 3 (pt_R M (pt_nt x1 + 1))), M), .inr (4, some (pt_i 1), M), .inl true, .inr (4, some (pt_i (lb_F M (pt_R M (pt_nt x1 + 1)) x2 x3 x4)), M), .inl false, .inr (5, none, (pu_F M (pt_R M (pt_nt x1 + 1)) x2 x3 x4 1)), .inr (1, none, (fg_F (pu_F M (pt_R M (pt_nt x1 + 1)) x2 x3 x4 1) (pt_R M (pt_nt x1 + 1))))] (P := pt_Cal YX6_flip (.invokevirtual 120) [pt_r 2 0, pt_i x1] M (some (pt_r 3 (pt_R M (pt_nt x1 + 1)))) M ∧ pt_Cal YX6_flip (.invokevirtual 124) [pt_r 3 (pt_R M (pt_nt x1 + 1)), pt_i x2, pt_i x3, pt_i x4] M (some (pt_i 1)) M ∧ (¬ (1 : Int32) = (0 : Int32)) ∧ pt_Cal YX6_flip (.invokevirtual 128) [pt_r 3 (pt_R M (pt_nt x1 + 1)), pt_i x2, pt_i x3, pt_i x4] M (some (pt_i (lb_F M (pt_R M (pt_nt x1 + 1)) x2 x3 x4))) M ∧ ((lb_F M (pt_R M (pt_nt x1 + 1)) x2 x3 x4) = 0) ∧ pt_Cal YX6_flip (.invokevirtual 102) [pt_r 3 (pt_R M (pt_nt x1 + 1)), pt_i x2, pt_i x3, pt_i x4, pt_i 1] M none (pu_F M (pt_R M (pt_nt x1 + 1)) x2 x3 x4 1) ∧ pt_Cal YX6_flip (.invokevirtual 131) [pt_r 3 (pt_R M (pt_nt x1 + 1))] (pu_F M (pt_R M (pt_nt x1 + 1)) x2 x3 x4 1) none (fg_F (pu_F M (pt_R M (pt_nt x1 + 1)) x2 x3 x4 1) (pt_R M (pt_nt x1 + 1))) ∧ True) (by with_unfolding_all rfl) ⟨(pt_callV (i := 0) kX6_flip_120 mX6_tableAt rfl (by decide) rfl (dX6_tableAt_1 h1)), (pt_callV (i := (pt_R M (pt_nt x1 + 1))) kX6_flip_124 mX4_hasThree rfl h2 rfl (dX4_hasThree_1 h2 h3)), (by decide), (pt_callV (i := (pt_R M (pt_nt x1 + 1))) kX6_flip_128 mX4_isLeft rfl h2 rfl (dX4_isLeft_v h2 h4 h5)), h6, (pt_callV (i := (pt_R M (pt_nt x1 + 1))) kX6_flip_102 mX4_put rfl h2 rfl (dX4_putP h2 h7)), (pt_callV (i := (pt_R M (pt_nt x1 + 1))) kX6_flip_131 mX4_forget rfl h2 rfl (dX4_forget h2)), trivial⟩
set_option maxRecDepth 100000 in
theorem gX6_flip_0_2 (x1 : Int32) (x2 : Int32) (x3 : Int32) (x4 : Int32)  (M : pt_M) (h1 : tA_P M x1) (h2 : (pt_R M (pt_nt x1 + 1)) < 7) (h3 : ht_P M (pt_R M (pt_nt x1 + 1)) x2 x3 x4) (h4 : pt_in x2 10) (h5 : pt_in x3 10) (h6 : ¬ (lb_F M (pt_R M (pt_nt x1 + 1)) x2 x3 x4) = 0) (h7 : pu_P x2 x3 x4) :
    pt_Go YX6_flip (0, [(0, pt_r 2 0), (1, pt_i x1), (2, pt_i x2), (3, pt_i x3), (4, pt_i x4)], [], M)
      (58, [(0, pt_r 2 0), (1, pt_i x1), (2, pt_i x2), (3, pt_i x3), (4, pt_i x4), (5, pt_r 3 (pt_R M (pt_nt x1 + 1)))], [pt_i 1], (fg_F (pu_F M (pt_R M (pt_nt x1 + 1)) x2 x3 x4 0) (pt_R M (pt_nt x1 + 1)))) :=
  pt_run_ok tX6_flip_ok 27 [.inr (2, some (pt_r 3 (pt_R M (pt_nt x1 + 1))), M), .inr (4, some (pt_i 1), M), .inl true, .inr (4, some (pt_i (lb_F M (pt_R M (pt_nt x1 + 1)) x2 x3 x4)), M), .inl true, .inr (5, none, (pu_F M (pt_R M (pt_nt x1 + 1)) x2 x3 x4 0)), .inr (1, none, (fg_F (pu_F M (pt_R M (pt_nt x1 + 1)) x2 x3 x4 0) (pt_R M (pt_nt x1 + 1))))] (P := pt_Cal YX6_flip (.invokevirtual 120) [pt_r 2 0, pt_i x1] M (some (pt_r 3 (pt_R M (pt_nt x1 + 1)))) M ∧ pt_Cal YX6_flip (.invokevirtual 124) [pt_r 3 (pt_R M (pt_nt x1 + 1)), pt_i x2, pt_i x3, pt_i x4] M (some (pt_i 1)) M ∧ (¬ (1 : Int32) = (0 : Int32)) ∧ pt_Cal YX6_flip (.invokevirtual 128) [pt_r 3 (pt_R M (pt_nt x1 + 1)), pt_i x2, pt_i x3, pt_i x4] M (some (pt_i (lb_F M (pt_R M (pt_nt x1 + 1)) x2 x3 x4))) M ∧ (¬ (lb_F M (pt_R M (pt_nt x1 + 1)) x2 x3 x4) = 0) ∧ pt_Cal YX6_flip (.invokevirtual 102) [pt_r 3 (pt_R M (pt_nt x1 + 1)), pt_i x2, pt_i x3, pt_i x4, pt_i 0] M none (pu_F M (pt_R M (pt_nt x1 + 1)) x2 x3 x4 0) ∧ pt_Cal YX6_flip (.invokevirtual 131) [pt_r 3 (pt_R M (pt_nt x1 + 1))] (pu_F M (pt_R M (pt_nt x1 + 1)) x2 x3 x4 0) none (fg_F (pu_F M (pt_R M (pt_nt x1 + 1)) x2 x3 x4 0) (pt_R M (pt_nt x1 + 1))) ∧ True) (by with_unfolding_all rfl) ⟨(pt_callV (i := 0) kX6_flip_120 mX6_tableAt rfl (by decide) rfl (dX6_tableAt_1 h1)), (pt_callV (i := (pt_R M (pt_nt x1 + 1))) kX6_flip_124 mX4_hasThree rfl h2 rfl (dX4_hasThree_1 h2 h3)), (by decide), (pt_callV (i := (pt_R M (pt_nt x1 + 1))) kX6_flip_128 mX4_isLeft rfl h2 rfl (dX4_isLeft_v h2 h4 h5)), h6, (pt_callV (i := (pt_R M (pt_nt x1 + 1))) kX6_flip_102 mX4_put rfl h2 rfl (dX4_putP h2 h7)), (pt_callV (i := (pt_R M (pt_nt x1 + 1))) kX6_flip_131 mX4_forget rfl h2 rfl (dX4_forget h2)), trivial⟩
set_option maxRecDepth 100000 in
theorem gX6_flip_0_3 (x1 : Int32) (x2 : Int32) (x3 : Int32) (x4 : Int32)  (M : pt_M) (h1 : tA_P M x1) (h2 : (pt_R M (pt_nt x1 + 1)) < 7) (h3 : ¬ ht_P M (pt_R M (pt_nt x1 + 1)) x2 x3 x4) :
    pt_Go YX6_flip (0, [(0, pt_r 2 0), (1, pt_i x1), (2, pt_i x2), (3, pt_i x3), (4, pt_i x4)], [], M)
      (25, [(0, pt_r 2 0), (1, pt_i x1), (2, pt_i x2), (3, pt_i x3), (4, pt_i x4), (5, pt_r 3 (pt_R M (pt_nt x1 + 1)))], [pt_i 0], M) :=
  pt_run_ok tX6_flip_ok 13 [.inr (2, some (pt_r 3 (pt_R M (pt_nt x1 + 1))), M), .inr (4, some (pt_i 0), M), .inl false] (P := pt_Cal YX6_flip (.invokevirtual 120) [pt_r 2 0, pt_i x1] M (some (pt_r 3 (pt_R M (pt_nt x1 + 1)))) M ∧ pt_Cal YX6_flip (.invokevirtual 124) [pt_r 3 (pt_R M (pt_nt x1 + 1)), pt_i x2, pt_i x3, pt_i x4] M (some (pt_i 0)) M ∧ ((0 : Int32) = (0 : Int32)) ∧ True) (by with_unfolding_all rfl) ⟨(pt_callV (i := 0) kX6_flip_120 mX6_tableAt rfl (by decide) rfl (dX6_tableAt_1 h1)), (pt_callV (i := (pt_R M (pt_nt x1 + 1))) kX6_flip_124 mX4_hasThree rfl h2 rfl (dX4_hasThree_0 h2 h3)), (by decide), trivial⟩
set_option maxRecDepth 100000 in
theorem gX6_flip_0_4 (x1 : Int32) (x2 : Int32) (x3 : Int32) (x4 : Int32)  (M : pt_M) (h1 : tN_P M x1) :
    pt_Go YX6_flip (0, [(0, pt_r 2 0), (1, pt_i x1), (2, pt_i x2), (3, pt_i x3), (4, pt_i x4)], [], M)
      (25, [(0, pt_r 2 0), (1, pt_i x1), (2, pt_i x2), (3, pt_i x3), (4, pt_i x4), (5, pt_r 0 0)], [pt_i 0], M) :=
  pt_run_ok tX6_flip_ok 7 [.inr (2, some (pt_r 0 0), M)] (P := pt_Cal YX6_flip (.invokevirtual 120) [pt_r 2 0, pt_i x1] M (some (pt_r 0 0)) M ∧ True) (by with_unfolding_all rfl) ⟨(pt_callV (i := 0) kX6_flip_120 mX6_tableAt rfl (by decide) rfl (dX6_tableAt_0 h1)), trivial⟩
theorem dX6_flip_p1 (x1 : Int32) (x2 : Int32) (x3 : Int32) (x4 : Int32)  (M : pt_M) (h1 : tA_P M x1) (h2 : (pt_R M (pt_nt x1 + 1)) < 7) (h3 : ht_P M (pt_R M (pt_nt x1 + 1)) x2 x3 x4) (h4 : pt_in x2 10) (h5 : pt_in x3 10) (h6 : (lb_F M (pt_R M (pt_nt x1 + 1)) x2 x3 x4) = 0) (h7 : pu_P x2 x3 x4) : pt_Does yX6_flip YX6_flip [pt_r 2 0, pt_i x1, pt_i x2, pt_i x3, pt_i x4] M (some (pt_i 1)) (fg_F (pu_F M (pt_R M (pt_nt x1 + 1)) x2 x3 x4 1) (pt_R M (pt_nt x1 + 1))) :=
  rX6_flip_58 pt_nar1 (Nat.le_of_ble_eq_true rfl) rfl (gX6_flip_0_1 x1 x2 x3 x4 M h1 h2 h3 h4 h5 h6 h7)
theorem dX6_flip_p2 (x1 : Int32) (x2 : Int32) (x3 : Int32) (x4 : Int32)  (M : pt_M) (h1 : tA_P M x1) (h2 : (pt_R M (pt_nt x1 + 1)) < 7) (h3 : ht_P M (pt_R M (pt_nt x1 + 1)) x2 x3 x4) (h4 : pt_in x2 10) (h5 : pt_in x3 10) (h6 : ¬ (lb_F M (pt_R M (pt_nt x1 + 1)) x2 x3 x4) = 0) (h7 : pu_P x2 x3 x4) : pt_Does yX6_flip YX6_flip [pt_r 2 0, pt_i x1, pt_i x2, pt_i x3, pt_i x4] M (some (pt_i 1)) (fg_F (pu_F M (pt_R M (pt_nt x1 + 1)) x2 x3 x4 0) (pt_R M (pt_nt x1 + 1))) :=
  rX6_flip_58 pt_nar1 (Nat.le_of_ble_eq_true rfl) rfl (gX6_flip_0_2 x1 x2 x3 x4 M h1 h2 h3 h4 h5 h6 h7)
theorem dX6_flip_p3 (x1 : Int32) (x2 : Int32) (x3 : Int32) (x4 : Int32)  (M : pt_M) (h1 : tA_P M x1) (h2 : (pt_R M (pt_nt x1 + 1)) < 7) (h3 : ¬ ht_P M (pt_R M (pt_nt x1 + 1)) x2 x3 x4) : pt_Does yX6_flip YX6_flip [pt_r 2 0, pt_i x1, pt_i x2, pt_i x3, pt_i x4] M (some (pt_i 0)) M :=
  rX6_flip_25 pt_nar0 (Nat.le_of_ble_eq_true rfl) rfl (gX6_flip_0_3 x1 x2 x3 x4 M h1 h2 h3)
theorem dX6_flip_p4 (x1 : Int32) (x2 : Int32) (x3 : Int32) (x4 : Int32)  (M : pt_M) (h1 : tN_P M x1) : pt_Does yX6_flip YX6_flip [pt_r 2 0, pt_i x1, pt_i x2, pt_i x3, pt_i x4] M (some (pt_i 0)) M :=
  rX6_flip_25 pt_nar0 (Nat.le_of_ble_eq_true rfl) rfl (gX6_flip_0_4 x1 x2 x3 x4 M h1)
theorem dX_x5 {y : MethodName} {Y : pt_Y} {vs : List pt_V} {M M' : pt_M} {r : Option pt_V} (h : pt_Does y Y vs M r M') : M'.2.2.2.2 = M.2.2.2.2 := h.1
theorem rX6_place_15 {vs : List pt_V} {M M' : pt_M} {x : Int32} {L : List (Nat × pt_V)} (hvs : (vs.map pt_w).sum ≤ 3) (hX : M'.2.2.2.2 = M.2.2.2.2) (h : pt_Go YX6_place (0, pt_en 0 vs, [], M) (15, L, [pt_i x], M')) : pt_Does yX6_place YX6_place vs M (some (pt_i x)) M' := pt_does_go tX6_place_ok nX6_place hvs hX ⟨_, by with_unfolding_all rfl, rfl, _, rfl, rfl⟩ h
set_option maxRecDepth 100000 in
theorem gX6_place_0_1 (x1 : Int32) (r : Int32) (M2 : pt_M) (M : pt_M) (h1 : pt_Does yX6_placeByTape YX6_placeByTape [pt_r 2 0, pt_i x1] M (some (pt_i r)) M2) :
    pt_Go YX6_place (0, [(0, pt_r 2 0), (1, pt_i x1)], [], M)
      (15, [(0, pt_r 2 0), (1, pt_i x1), (2, pt_i r)], [pt_i r], (pt_wF M2 4 1 0 0)) :=
  pt_run_ok tX6_place_ok 9 [.inr (2, some (pt_i r), M2)] (P := pt_Cal YX6_place (.invokevirtual 71) [pt_r 2 0, pt_i x1] M (some (pt_i r)) M2 ∧ True) (by with_unfolding_all rfl) ⟨(pt_callV (i := 0) kX6_place_71 mX6_placeByTape rfl (by decide) rfl h1), trivial⟩
theorem dX6_place_p1 (x1 : Int32) (r : Int32) (M2 : pt_M) (M : pt_M) (h1 : pt_Does yX6_placeByTape YX6_placeByTape [pt_r 2 0, pt_i x1] M (some (pt_i r)) M2) : pt_Does yX6_place YX6_place [pt_r 2 0, pt_i x1] M (some (pt_i r)) (pt_wF M2 4 1 0 0) :=
  rX6_place_15 (Nat.le_of_ble_eq_true rfl) (show M2.2.2.2.2 = M.2.2.2.2 from dX_x5 h1) (gX6_place_0_1 x1 r M2 M h1)
theorem rX6_table_16 {vs : List pt_V} {M M' : pt_M} {x : Int32} {L : List (Nat × pt_V)} (hn : narrow .boolean (.int x) = .int x) (hvs : (vs.map pt_w).sum ≤ 4) (hX : M'.2.2.2.2 = M.2.2.2.2) (h : pt_Go YX6_table (0, pt_en 0 vs, [], M) (16, L, [pt_i x], M')) : pt_Does yX6_table YX6_table vs M (some (pt_i x)) M' := pt_does_go tX6_table_ok nX6_table hvs hX ⟨_, by with_unfolding_all rfl, rfl, _, rfl, hn⟩ h
set_option maxRecDepth 100000 in
theorem gX6_table_0_1 (x1 : Int32) (x2 : Int32) (r : Int32) (M2 : pt_M) (M : pt_M) (h1 : pt_Does yX6_tableByTape YX6_tableByTape [pt_r 2 0, pt_i x1, pt_i x2] M (some (pt_i r)) M2) :
    pt_Go YX6_table (0, [(0, pt_r 2 0), (1, pt_i x1), (2, pt_i x2)], [], M)
      (16, [(0, pt_r 2 0), (1, pt_i x1), (2, pt_i x2), (3, pt_i r)], [pt_i r], (pt_wF M2 4 1 0 0)) :=
  pt_run_ok tX6_table_ok 10 [.inr (3, some (pt_i r), M2)] (P := pt_Cal YX6_table (.invokevirtual 106) [pt_r 2 0, pt_i x1, pt_i x2] M (some (pt_i r)) M2 ∧ True) (by with_unfolding_all rfl) ⟨(pt_callV (i := 0) kX6_table_106 mX6_tableByTape rfl (by decide) rfl h1), trivial⟩
theorem dX6_table_p1 (x1 : Int32) (x2 : Int32) (r : Int32) (M2 : pt_M) (M : pt_M) (h1 : pt_Does yX6_tableByTape YX6_tableByTape [pt_r 2 0, pt_i x1, pt_i x2] M (some (pt_i r)) M2) (hnar : narrow .boolean (.int r) = .int r) : pt_Does yX6_table YX6_table [pt_r 2 0, pt_i x1, pt_i x2] M (some (pt_i r)) (pt_wF M2 4 1 0 0) :=
  rX6_table_16 hnar (Nat.le_of_ble_eq_true rfl) (show M2.2.2.2.2 = M.2.2.2.2 from dX_x5 h1) (gX6_table_0_1 x1 x2 r M2 M h1)
theorem rX6_rename_16 {vs : List pt_V} {M M' : pt_M} {x : Int32} {L : List (Nat × pt_V)} (hn : narrow .boolean (.int x) = .int x) (hvs : (vs.map pt_w).sum ≤ 4) (hX : M'.2.2.2.2 = M.2.2.2.2) (h : pt_Go YX6_rename (0, pt_en 0 vs, [], M) (16, L, [pt_i x], M')) : pt_Does yX6_rename YX6_rename vs M (some (pt_i x)) M' := pt_does_go tX6_rename_ok nX6_rename hvs hX ⟨_, by with_unfolding_all rfl, rfl, _, rfl, hn⟩ h
set_option maxRecDepth 100000 in
theorem gX6_rename_0_1 (x1 : Int32) (x2 : Int32) (r : Int32) (M2 : pt_M) (M : pt_M) (h1 : pt_Does yX6_renameByTape YX6_renameByTape [pt_r 2 0, pt_i x1, pt_i x2] M (some (pt_i r)) M2) :
    pt_Go YX6_rename (0, [(0, pt_r 2 0), (1, pt_i x1), (2, pt_i x2)], [], M)
      (16, [(0, pt_r 2 0), (1, pt_i x1), (2, pt_i x2), (3, pt_i r)], [pt_i r], (pt_wF M2 4 1 0 0)) :=
  pt_run_ok tX6_rename_ok 10 [.inr (3, some (pt_i r), M2)] (P := pt_Cal YX6_rename (.invokevirtual 141) [pt_r 2 0, pt_i x1, pt_i x2] M (some (pt_i r)) M2 ∧ True) (by with_unfolding_all rfl) ⟨(pt_callV (i := 0) kX6_rename_141 mX6_renameByTape rfl (by decide) rfl h1), trivial⟩
theorem dX6_rename_p1 (x1 : Int32) (x2 : Int32) (r : Int32) (M2 : pt_M) (M : pt_M) (h1 : pt_Does yX6_renameByTape YX6_renameByTape [pt_r 2 0, pt_i x1, pt_i x2] M (some (pt_i r)) M2) (hnar : narrow .boolean (.int r) = .int r) : pt_Does yX6_rename YX6_rename [pt_r 2 0, pt_i x1, pt_i x2] M (some (pt_i r)) (pt_wF M2 4 1 0 0) :=
  rX6_rename_16 hnar (Nat.le_of_ble_eq_true rfl) (show M2.2.2.2.2 = M.2.2.2.2 from dX_x5 h1) (gX6_rename_0_1 x1 x2 r M2 M h1)
theorem rX6_swept_16 {vs : List pt_V} {M M' : pt_M} {x : Int32} {L : List (Nat × pt_V)} (hn : narrow .boolean (.int x) = .int x) (hvs : (vs.map pt_w).sum ≤ 4) (hX : M'.2.2.2.2 = M.2.2.2.2) (h : pt_Go YX6_swept (0, pt_en 0 vs, [], M) (16, L, [pt_i x], M')) : pt_Does yX6_swept YX6_swept vs M (some (pt_i x)) M' := pt_does_go tX6_swept_ok nX6_swept hvs hX ⟨_, by with_unfolding_all rfl, rfl, _, rfl, hn⟩ h
set_option maxRecDepth 100000 in
theorem gX6_swept_0_1 (x1 : Int32) (x2 : Int32) (r : Int32) (M2 : pt_M) (M : pt_M) (h1 : pt_Does yX6_sweptByTape YX6_sweptByTape [pt_r 2 0, pt_i x1, pt_i x2] M (some (pt_i r)) M2) :
    pt_Go YX6_swept (0, [(0, pt_r 2 0), (1, pt_i x1), (2, pt_i x2)], [], M)
      (16, [(0, pt_r 2 0), (1, pt_i x1), (2, pt_i x2), (3, pt_i r)], [pt_i r], (pt_wF M2 4 1 0 0)) :=
  pt_run_ok tX6_swept_ok 10 [.inr (3, some (pt_i r), M2)] (P := pt_Cal YX6_swept (.invokevirtual 218) [pt_r 2 0, pt_i x1, pt_i x2] M (some (pt_i r)) M2 ∧ True) (by with_unfolding_all rfl) ⟨(pt_callV (i := 0) kX6_swept_218 mX6_sweptByTape rfl (by decide) rfl h1), trivial⟩
theorem dX6_swept_p1 (x1 : Int32) (x2 : Int32) (r : Int32) (M2 : pt_M) (M : pt_M) (h1 : pt_Does yX6_sweptByTape YX6_sweptByTape [pt_r 2 0, pt_i x1, pt_i x2] M (some (pt_i r)) M2) (hnar : narrow .boolean (.int r) = .int r) : pt_Does yX6_swept YX6_swept [pt_r 2 0, pt_i x1, pt_i x2] M (some (pt_i r)) (pt_wF M2 4 1 0 0) :=
  rX6_swept_16 hnar (Nat.le_of_ble_eq_true rfl) (show M2.2.2.2.2 = M.2.2.2.2 from dX_x5 h1) (gX6_swept_0_1 x1 x2 r M2 M h1)
theorem rX6_why_18 {vs : List pt_V} {M M' : pt_M} {x : Int32} {L : List (Nat × pt_V)} (hvs : (vs.map pt_w).sum ≤ 3) (hX : M'.2.2.2.2 = M.2.2.2.2) (h : pt_Go YX6_why (0, pt_en 0 vs, [], M) (18, L, [pt_i x], M')) : pt_Does yX6_why YX6_why vs M (some (pt_i x)) M' := pt_does_go tX6_why_ok nX6_why hvs hX ⟨_, by with_unfolding_all rfl, rfl, _, rfl, rfl⟩ h
set_option maxRecDepth 100000 in
theorem gX6_why_0_1 (x1 : Int32) (n : Nat) (B : Nat → Nat → Nat → Bool) (M : pt_M) (h1 : tA_P M x1) (h2 : tb_P M (pt_R M (pt_nt x1 + 1)) n B) (h3 : fa_P M (pt_R M (pt_nt x1 + 1)) n B) :
    pt_Go YX6_why (0, [(0, pt_r 2 0), (1, pt_i x1)], [], M)
      (18, [(0, pt_r 2 0), (1, pt_i x1), (2, pt_r 3 (pt_R M (pt_nt x1 + 1)))], [pt_i (nI (wy_F n B))], (pt_wF M 3 2 (pt_R M (pt_nt x1 + 1)) (nI (wy_F n B)))) :=
  pt_run_ok tX6_why_ok 8 [.inr (2, some (pt_r 3 (pt_R M (pt_nt x1 + 1))), M), .inr (1, some (pt_i (nI (wy_F n B))), (pt_wF M 3 2 (pt_R M (pt_nt x1 + 1)) (nI (wy_F n B))))] (P := pt_Cal YX6_why (.invokevirtual 120) [pt_r 2 0, pt_i x1] M (some (pt_r 3 (pt_R M (pt_nt x1 + 1)))) M ∧ pt_Cal YX6_why (.invokestatic 157) [pt_r 3 (pt_R M (pt_nt x1 + 1))] M (some (pt_i (nI (wy_F n B)))) (pt_wF M 3 2 (pt_R M (pt_nt x1 + 1)) (nI (wy_F n B))) ∧ True) (by with_unfolding_all rfl) ⟨(pt_callV (i := 0) kX6_why_120 mX6_tableAt rfl (by decide) rfl (dX6_tableAt_1 h1)), (pt_callS kX6_why_157 mX1_faultOf rfl (dX1_faultOf h2 h3)), trivial⟩
set_option maxRecDepth 100000 in
theorem gX6_why_0_2 (x1 : Int32) (n : Nat) (B : Nat → Nat → Nat → Bool) (M : pt_M) (h1 : tN_P M x1) :
    pt_Go YX6_why (0, [(0, pt_r 2 0), (1, pt_i x1)], [], M)
      (18, [(0, pt_r 2 0), (1, pt_i x1), (2, pt_r 0 0)], [pt_i (-1)], M) :=
  pt_run_ok tX6_why_ok 8 [.inr (2, some (pt_r 0 0), M)] (P := pt_Cal YX6_why (.invokevirtual 120) [pt_r 2 0, pt_i x1] M (some (pt_r 0 0)) M ∧ True) (by with_unfolding_all rfl) ⟨(pt_callV (i := 0) kX6_why_120 mX6_tableAt rfl (by decide) rfl (dX6_tableAt_0 h1)), trivial⟩
theorem dX6_why_p1 (x1 : Int32) (n : Nat) (B : Nat → Nat → Nat → Bool) (M : pt_M) (h1 : tA_P M x1) (h2 : tb_P M (pt_R M (pt_nt x1 + 1)) n B) (h3 : fa_P M (pt_R M (pt_nt x1 + 1)) n B) : pt_Does yX6_why YX6_why [pt_r 2 0, pt_i x1] M (some (pt_i (nI (wy_F n B)))) (pt_wF M 3 2 (pt_R M (pt_nt x1 + 1)) (nI (wy_F n B))) :=
  rX6_why_18 (Nat.le_of_ble_eq_true rfl) rfl (gX6_why_0_1 x1 n B M h1 h2 h3)
theorem dX6_why_p2 (x1 : Int32) (n : Nat) (B : Nat → Nat → Nat → Bool) (M : pt_M) (h1 : tN_P M x1) : pt_Does yX6_why YX6_why [pt_r 2 0, pt_i x1] M (some (pt_i (-1))) M :=
  rX6_why_18 (Nat.le_of_ble_eq_true rfl) rfl (gX6_why_0_2 x1 n B M h1)
theorem rX6_lawful_12 {vs : List pt_V} {M M' : pt_M} {x : Int32} {L : List (Nat × pt_V)} (hvs : (vs.map pt_w).sum ≤ 3) (hX : M'.2.2.2.2 = M.2.2.2.2) (h : pt_Go YX6_lawful (0, pt_en 0 vs, [], M) (12, L, [pt_i x], M')) : pt_Does yX6_lawful YX6_lawful vs M (some (pt_i x)) M' := pt_does_go tX6_lawful_ok nX6_lawful hvs hX ⟨_, by with_unfolding_all rfl, rfl, _, rfl, rfl⟩ h
theorem rX6_lawful_22 {vs : List pt_V} {M M' : pt_M} {x : Int32} {L : List (Nat × pt_V)} (hvs : (vs.map pt_w).sum ≤ 3) (hX : M'.2.2.2.2 = M.2.2.2.2) (h : pt_Go YX6_lawful (0, pt_en 0 vs, [], M) (22, L, [pt_i x], M')) : pt_Does yX6_lawful YX6_lawful vs M (some (pt_i x)) M' := pt_does_go tX6_lawful_ok nX6_lawful hvs hX ⟨_, by with_unfolding_all rfl, rfl, _, rfl, rfl⟩ h
set_option maxRecDepth 100000 in
theorem gX6_lawful_0_1 (x1 : Int32) (r : Int32) (M2 : pt_M) (M : pt_M) (h1 : pt_Does yX6_why YX6_why [pt_r 2 0, pt_i x1] M (some (pt_i r)) M2) (h2 : r = (-1)) :
    pt_Go YX6_lawful (0, [(0, pt_r 2 0), (1, pt_i x1)], [], M)
      (12, [(0, pt_r 2 0), (1, pt_i x1), (2, pt_i r)], [pt_i (-1)], M2) :=
  pt_run_ok tX6_lawful_ok 8 [.inr (2, some (pt_i r), M2), .inl false] (P := pt_Cal YX6_lawful (.invokevirtual 154) [pt_r 2 0, pt_i x1] M (some (pt_i r)) M2 ∧ (r = (-1)) ∧ True) (by with_unfolding_all rfl) ⟨(pt_callV (i := 0) kX6_lawful_154 mX6_why rfl (by decide) rfl h1), h2, trivial⟩
set_option maxRecDepth 100000 in
theorem gX6_lawful_0_2 (x1 : Int32) (r : Int32) (M2 : pt_M) (M : pt_M) (h1 : pt_Does yX6_why YX6_why [pt_r 2 0, pt_i x1] M (some (pt_i r)) M2) (h2 : ¬ r = (-1)) (h3 : r = 0) :
    pt_Go YX6_lawful (0, [(0, pt_r 2 0), (1, pt_i x1)], [], M)
      (22, [(0, pt_r 2 0), (1, pt_i x1), (2, pt_i r)], [pt_i 1], M2) :=
  pt_run_ok tX6_lawful_ok 11 [.inr (2, some (pt_i r), M2), .inl true, .inl false] (P := pt_Cal YX6_lawful (.invokevirtual 154) [pt_r 2 0, pt_i x1] M (some (pt_i r)) M2 ∧ (¬ r = (-1)) ∧ (r = 0) ∧ True) (by with_unfolding_all rfl) ⟨(pt_callV (i := 0) kX6_lawful_154 mX6_why rfl (by decide) rfl h1), h2, h3, trivial⟩
set_option maxRecDepth 100000 in
theorem gX6_lawful_0_3 (x1 : Int32) (r : Int32) (M2 : pt_M) (M : pt_M) (h1 : pt_Does yX6_why YX6_why [pt_r 2 0, pt_i x1] M (some (pt_i r)) M2) (h2 : ¬ r = (-1)) (h3 : ¬ r = 0) :
    pt_Go YX6_lawful (0, [(0, pt_r 2 0), (1, pt_i x1)], [], M)
      (22, [(0, pt_r 2 0), (1, pt_i x1), (2, pt_i r)], [pt_i 0], M2) :=
  pt_run_ok tX6_lawful_ok 10 [.inr (2, some (pt_i r), M2), .inl true, .inl true] (P := pt_Cal YX6_lawful (.invokevirtual 154) [pt_r 2 0, pt_i x1] M (some (pt_i r)) M2 ∧ (¬ r = (-1)) ∧ (¬ r = 0) ∧ True) (by with_unfolding_all rfl) ⟨(pt_callV (i := 0) kX6_lawful_154 mX6_why rfl (by decide) rfl h1), h2, h3, trivial⟩
theorem dX6_lawful_p1 (x1 : Int32) (r : Int32) (M2 : pt_M) (M : pt_M) (h1 : pt_Does yX6_why YX6_why [pt_r 2 0, pt_i x1] M (some (pt_i r)) M2) (h2 : r = (-1)) : pt_Does yX6_lawful YX6_lawful [pt_r 2 0, pt_i x1] M (some (pt_i (-1))) M2 :=
  rX6_lawful_12 (Nat.le_of_ble_eq_true rfl) (show M2.2.2.2.2 = M.2.2.2.2 from dX_x5 h1) (gX6_lawful_0_1 x1 r M2 M h1 h2)
theorem dX6_lawful_p2 (x1 : Int32) (r : Int32) (M2 : pt_M) (M : pt_M) (h1 : pt_Does yX6_why YX6_why [pt_r 2 0, pt_i x1] M (some (pt_i r)) M2) (h2 : ¬ r = (-1)) (h3 : r = 0) : pt_Does yX6_lawful YX6_lawful [pt_r 2 0, pt_i x1] M (some (pt_i 1)) M2 :=
  rX6_lawful_22 (Nat.le_of_ble_eq_true rfl) (show M2.2.2.2.2 = M.2.2.2.2 from dX_x5 h1) (gX6_lawful_0_2 x1 r M2 M h1 h2 h3)
theorem dX6_lawful_p3 (x1 : Int32) (r : Int32) (M2 : pt_M) (M : pt_M) (h1 : pt_Does yX6_why YX6_why [pt_r 2 0, pt_i x1] M (some (pt_i r)) M2) (h2 : ¬ r = (-1)) (h3 : ¬ r = 0) : pt_Does yX6_lawful YX6_lawful [pt_r 2 0, pt_i x1] M (some (pt_i 0)) M2 :=
  rX6_lawful_22 (Nat.le_of_ble_eq_true rfl) (show M2.2.2.2.2 = M.2.2.2.2 from dX_x5 h1) (gX6_lawful_0_3 x1 r M2 M h1 h2 h3)
theorem rX6_lawfulAt_22 {vs : List pt_V} {M M' : pt_M} {k i : Nat} {L : List (Nat × pt_V)} (hvs : (vs.map pt_w).sum ≤ 3) (hX : M'.2.2.2.2 = M.2.2.2.2) (h : pt_Go YX6_lawfulAt (0, pt_en 0 vs, [], M) (22, L, [pt_r k i], M')) : pt_Does yX6_lawfulAt YX6_lawfulAt vs M (some (pt_r k i)) M' := pt_does_go tX6_lawfulAt_ok nX6_lawfulAt hvs hX ⟨_, by with_unfolding_all rfl, rfl, _, rfl, Or.inl ⟨_, rfl⟩⟩ h
set_option maxRecDepth 100000 in
theorem gX6_lawfulAt_0_1 (x1 : Int32) (n : Nat) (B : Nat → Nat → Nat → Bool) (M : pt_M) (h1 : tA_P M x1) (h2 : tb_P M (pt_R M (pt_nt x1 + 1)) n B) (h3 : fa_P M (pt_R M (pt_nt x1 + 1)) n B) (h4 : (nI (wy_F n B)) = 0) :
    pt_Go YX6_lawfulAt (0, [(0, pt_r 2 0), (1, pt_i x1)], [], M)
      (22, [(0, pt_r 2 0), (1, pt_i x1), (2, pt_r 3 (pt_R M (pt_nt x1 + 1)))], [pt_r 3 (pt_R M (pt_nt x1 + 1))], (pt_wF M 3 2 (pt_R M (pt_nt x1 + 1)) (nI (wy_F n B)))) :=
  pt_run_ok tX6_lawfulAt_ok 11 [.inr (2, some (pt_r 3 (pt_R M (pt_nt x1 + 1))), M), .inr (1, some (pt_i (nI (wy_F n B))), (pt_wF M 3 2 (pt_R M (pt_nt x1 + 1)) (nI (wy_F n B)))), .inl false] (P := pt_Cal YX6_lawfulAt (.invokevirtual 120) [pt_r 2 0, pt_i x1] M (some (pt_r 3 (pt_R M (pt_nt x1 + 1)))) M ∧ pt_Cal YX6_lawfulAt (.invokestatic 157) [pt_r 3 (pt_R M (pt_nt x1 + 1))] M (some (pt_i (nI (wy_F n B)))) (pt_wF M 3 2 (pt_R M (pt_nt x1 + 1)) (nI (wy_F n B))) ∧ ((nI (wy_F n B)) = 0) ∧ True) (by with_unfolding_all rfl) ⟨(pt_callV (i := 0) kX6_lawfulAt_120 mX6_tableAt rfl (by decide) rfl (dX6_tableAt_1 h1)), (pt_callS kX6_lawfulAt_157 mX1_faultOf rfl (dX1_faultOf h2 h3)), h4, trivial⟩
set_option maxRecDepth 100000 in
theorem gX6_lawfulAt_0_2 (x1 : Int32) (n : Nat) (B : Nat → Nat → Nat → Bool) (M : pt_M) (h1 : tA_P M x1) (h2 : tb_P M (pt_R M (pt_nt x1 + 1)) n B) (h3 : fa_P M (pt_R M (pt_nt x1 + 1)) n B) (h4 : ¬ (nI (wy_F n B)) = 0) :
    pt_Go YX6_lawfulAt (0, [(0, pt_r 2 0), (1, pt_i x1)], [], M)
      (22, [(0, pt_r 2 0), (1, pt_i x1), (2, pt_r 3 (pt_R M (pt_nt x1 + 1)))], [pt_r 0 0], (pt_wF M 3 2 (pt_R M (pt_nt x1 + 1)) (nI (wy_F n B)))) :=
  pt_run_ok tX6_lawfulAt_ok 10 [.inr (2, some (pt_r 3 (pt_R M (pt_nt x1 + 1))), M), .inr (1, some (pt_i (nI (wy_F n B))), (pt_wF M 3 2 (pt_R M (pt_nt x1 + 1)) (nI (wy_F n B)))), .inl true] (P := pt_Cal YX6_lawfulAt (.invokevirtual 120) [pt_r 2 0, pt_i x1] M (some (pt_r 3 (pt_R M (pt_nt x1 + 1)))) M ∧ pt_Cal YX6_lawfulAt (.invokestatic 157) [pt_r 3 (pt_R M (pt_nt x1 + 1))] M (some (pt_i (nI (wy_F n B)))) (pt_wF M 3 2 (pt_R M (pt_nt x1 + 1)) (nI (wy_F n B))) ∧ (¬ (nI (wy_F n B)) = 0) ∧ True) (by with_unfolding_all rfl) ⟨(pt_callV (i := 0) kX6_lawfulAt_120 mX6_tableAt rfl (by decide) rfl (dX6_tableAt_1 h1)), (pt_callS kX6_lawfulAt_157 mX1_faultOf rfl (dX1_faultOf h2 h3)), h4, trivial⟩
set_option maxRecDepth 100000 in
theorem gX6_lawfulAt_0_3 (x1 : Int32) (n : Nat) (B : Nat → Nat → Nat → Bool) (M : pt_M) (h1 : tN_P M x1) :
    pt_Go YX6_lawfulAt (0, [(0, pt_r 2 0), (1, pt_i x1)], [], M)
      (22, [(0, pt_r 2 0), (1, pt_i x1), (2, pt_r 0 0)], [pt_r 0 0], M) :=
  pt_run_ok tX6_lawfulAt_ok 7 [.inr (2, some (pt_r 0 0), M)] (P := pt_Cal YX6_lawfulAt (.invokevirtual 120) [pt_r 2 0, pt_i x1] M (some (pt_r 0 0)) M ∧ True) (by with_unfolding_all rfl) ⟨(pt_callV (i := 0) kX6_lawfulAt_120 mX6_tableAt rfl (by decide) rfl (dX6_tableAt_0 h1)), trivial⟩
theorem dX6_lawfulAt_p1 (x1 : Int32) (n : Nat) (B : Nat → Nat → Nat → Bool) (M : pt_M) (h1 : tA_P M x1) (h2 : tb_P M (pt_R M (pt_nt x1 + 1)) n B) (h3 : fa_P M (pt_R M (pt_nt x1 + 1)) n B) (h4 : (nI (wy_F n B)) = 0) : pt_Does yX6_lawfulAt YX6_lawfulAt [pt_r 2 0, pt_i x1] M (some (pt_r 3 (pt_R M (pt_nt x1 + 1)))) (pt_wF M 3 2 (pt_R M (pt_nt x1 + 1)) (nI (wy_F n B))) :=
  rX6_lawfulAt_22 (Nat.le_of_ble_eq_true rfl) rfl (gX6_lawfulAt_0_1 x1 n B M h1 h2 h3 h4)
theorem dX6_lawfulAt_p2 (x1 : Int32) (n : Nat) (B : Nat → Nat → Nat → Bool) (M : pt_M) (h1 : tA_P M x1) (h2 : tb_P M (pt_R M (pt_nt x1 + 1)) n B) (h3 : fa_P M (pt_R M (pt_nt x1 + 1)) n B) (h4 : ¬ (nI (wy_F n B)) = 0) : pt_Does yX6_lawfulAt YX6_lawfulAt [pt_r 2 0, pt_i x1] M (some (pt_r 0 0)) (pt_wF M 3 2 (pt_R M (pt_nt x1 + 1)) (nI (wy_F n B))) :=
  rX6_lawfulAt_22 (Nat.le_of_ble_eq_true rfl) rfl (gX6_lawfulAt_0_2 x1 n B M h1 h2 h3 h4)
theorem dX6_lawfulAt_p3 (x1 : Int32) (n : Nat) (B : Nat → Nat → Nat → Bool) (M : pt_M) (h1 : tN_P M x1) : pt_Does yX6_lawfulAt YX6_lawfulAt [pt_r 2 0, pt_i x1] M (some (pt_r 0 0)) M :=
  rX6_lawfulAt_22 (Nat.le_of_ble_eq_true rfl) rfl (gX6_lawfulAt_0_3 x1 n B M h1)
def lA_P (M : pt_M) (x : Int32) (n : Nat) (B : Nat → Nat → Nat → Bool) : Prop := tA_P M x ∧ tb_P M (pt_R M (pt_nt x + 1)) n B ∧ fa_P M (pt_R M (pt_nt x + 1)) n B ∧ wy_F n B = 0
def lN_P (M : pt_M) (x : Int32) (n : Nat) (B : Nat → Nat → Nat → Bool) : Prop := tA_P M x ∧ tb_P M (pt_R M (pt_nt x + 1)) n B ∧ fa_P M (pt_R M (pt_nt x + 1)) n B ∧ ¬ wy_F n B = 0
def wl_M (M : pt_M) (x : Int32) (n : Nat) (B : Nat → Nat → Nat → Bool) : pt_M := pt_wF M 3 2 (pt_R M (pt_nt x + 1)) (nI (wy_F n B))
theorem dX6_lawfulAt_y {x : Int32} {n : Nat} {B : Nat → Nat → Nat → Bool} {M : pt_M} (h : lA_P M x n B) : pt_Does yX6_lawfulAt YX6_lawfulAt [pt_r 2 0, pt_i x] M (some (pt_r 3 (pt_R M (pt_nt x + 1)))) (wl_M M x n B) := dX6_lawfulAt_p1 x n B M h.1 h.2.1 h.2.2.1 (by rw [h.2.2.2]; rfl)
theorem dX6_lawfulAt_n {x : Int32} {n : Nat} {B : Nat → Nat → Nat → Bool} {M : pt_M} (h : lN_P M x n B) : pt_Does yX6_lawfulAt YX6_lawfulAt [pt_r 2 0, pt_i x] M (some (pt_r 0 0)) (wl_M M x n B) := dX6_lawfulAt_p2 x n B M h.1 h.2.1 h.2.2.1 (fun z => h.2.2.2 ((nI_0' (by have := wy_lt (B := B) h.2.1.2.1; omega)).mp z))
theorem dX6_lawfulAt_0 {x : Int32} {M : pt_M} (h : tN_P M x) : pt_Does yX6_lawfulAt YX6_lawfulAt [pt_r 2 0, pt_i x] M (some (pt_r 0 0)) M := dX6_lawfulAt_p3 x 0 (fun _ _ _ => false) M h
def tt_H (M : pt_M) (t u : Nat) (x : Int32) (n : Nat) (B : Nat → Nat → Nat → Bool) (og : Nat → Nat) : Prop := t < 7 ∧ u < 7 ∧ u ≠ t ∧ x = nI n ∧ n ≤ 10 ∧ ct_B M u B ∧ ∀ i, i < n → pt_A M 23 0 i = nI (og i) ∧ og i < 10
theorem dX4_takeTurns_t {t u n : Nat} {x : Int32} {mr : Bool} {M : pt_M} {B : Nat → Nat → Nat → Bool} {og : Nat → Nat} (h : tt_H M t u x n B og) : pt_Does yX4_takeTurns YX4_takeTurns [pt_r 3 t, pt_r 3 u, pt_r 23 0, pt_i x, pt_i (pt_b mr)] M none (mt_F M t n fun i j k => B (og i) (og j) (og k) != mr) := by
  obtain ⟨h1, h2, h3, rfl, h5, h6, h7⟩ := h
  exact dX4_takeTurns h1 h2 h3 h5 h6 h7
def tr_H (t : Nat) (x : Int32) (u n : Nat) : Prop := t < 7 ∧ u < 7 ∧ x = nI n ∧ n ≤ 10
theorem dX4_takeRow_t24 {t n : Nat} {x : Int32} {M : pt_M} (h : tr_H t x 0 n) : pt_Does yX4_takeRow YX4_takeRow [pt_r 3 t, pt_i x, pt_r 24 0] M none (mt_F M t n fun i j k => decide (pt_A M 24 0 (rk_F n i j k) = 1)) := by
  obtain ⟨h1, h2, rfl, h4⟩ := h
  exact dX4_takeRow_24 h1 h4
theorem dX4_takeRow_t12 {t u n : Nat} {x : Int32} {M : pt_M} (h : tr_H t x u n) : pt_Does yX4_takeRow YX4_takeRow [pt_r 3 t, pt_i x, pt_r 12 u] M none (mt_F M t n fun i j k => decide (pt_A M 12 u (rk_F n i j k) = 1)) := by
  obtain ⟨h1, h2, rfl, h4⟩ := h
  exact dX4_takeRow_12 h1 h2 h4
theorem dX4_takeRow_t13 {t u n : Nat} {x : Int32} {M : pt_M} (h : tr_H t x u n) : pt_Does yX4_takeRow YX4_takeRow [pt_r 3 t, pt_i x, pt_r 13 u] M none (mt_F M t n fun i j k => decide (pt_A M 13 u (rk_F n i j k) = 1)) := by
  obtain ⟨h1, h2, rfl, h4⟩ := h
  exact dX4_takeRow_13 h1 h2 h4
theorem rX6_rim_25 {vs : List pt_V} {M M' : pt_M} {x : Int32} {L : List (Nat × pt_V)} (hvs : (vs.map pt_w).sum ≤ 3) (hX : M'.2.2.2.2 = M.2.2.2.2) (h : pt_Go YX6_rim (0, pt_en 0 vs, [], M) (25, L, [pt_i x], M')) : pt_Does yX6_rim YX6_rim vs M (some (pt_i x)) M' := pt_does_go tX6_rim_ok nX6_rim hvs hX ⟨_, by with_unfolding_all rfl, rfl, _, rfl, rfl⟩ h
set_option maxRecDepth 100000 in
theorem gX6_rim_0_1 (x1 : Int32) (n : Nat) (B : Nat → Nat → Nat → Bool) (M : pt_M) (h1 : lA_P M x1 n B) (h2 : (pt_R M (pt_nt x1 + 1)) < 7) (h3 : tb_P (wl_M M x1 n B) (pt_R M (pt_nt x1 + 1)) n B) (h4 : st_P (ep_F (wl_M M x1 n B) (pt_R M (pt_nt x1 + 1))) n) :
    pt_Go YX6_rim (0, [(0, pt_r 2 0), (1, pt_i x1)], [], M)
      (25, [(0, pt_r 2 0), (1, pt_i x1), (2, pt_r 3 (pt_R M (pt_nt x1 + 1)))], [pt_i (bc_F (ri_I n B (ep_F (wl_M M x1 n B) (pt_R M (pt_nt x1 + 1)))))], (wl_M M x1 n B)) :=
  pt_run_ok tX6_rim_ok 11 [.inr (2, some (pt_r 3 (pt_R M (pt_nt x1 + 1))), (wl_M M x1 n B)), .inr (1, some (pt_i (ep_F (wl_M M x1 n B) (pt_R M (pt_nt x1 + 1)))), (wl_M M x1 n B)), .inr (2, some (pt_i (ri_I n B (ep_F (wl_M M x1 n B) (pt_R M (pt_nt x1 + 1))))), (wl_M M x1 n B)), .inr (1, some (pt_i (bc_F (ri_I n B (ep_F (wl_M M x1 n B) (pt_R M (pt_nt x1 + 1)))))), (wl_M M x1 n B))] (P := pt_Cal YX6_rim (.invokevirtual 163) [pt_r 2 0, pt_i x1] M (some (pt_r 3 (pt_R M (pt_nt x1 + 1)))) (wl_M M x1 n B) ∧ pt_Cal YX6_rim (.invokevirtual 150) [pt_r 3 (pt_R M (pt_nt x1 + 1))] (wl_M M x1 n B) (some (pt_i (ep_F (wl_M M x1 n B) (pt_R M (pt_nt x1 + 1))))) (wl_M M x1 n B) ∧ pt_Cal YX6_rim (.invokestatic 166) [pt_r 3 (pt_R M (pt_nt x1 + 1)), pt_i (ep_F (wl_M M x1 n B) (pt_R M (pt_nt x1 + 1)))] (wl_M M x1 n B) (some (pt_i (ri_I n B (ep_F (wl_M M x1 n B) (pt_R M (pt_nt x1 + 1)))))) (wl_M M x1 n B) ∧ pt_Cal YX6_rim (.invokestatic 172) [pt_i (ri_I n B (ep_F (wl_M M x1 n B) (pt_R M (pt_nt x1 + 1))))] (wl_M M x1 n B) (some (pt_i (bc_F (ri_I n B (ep_F (wl_M M x1 n B) (pt_R M (pt_nt x1 + 1))))))) (wl_M M x1 n B) ∧ True) (by with_unfolding_all rfl) ⟨(pt_callV (i := 0) kX6_rim_163 mX6_lawfulAt rfl (by decide) rfl (dX6_lawfulAt_y h1)), (pt_callV (i := (pt_R M (pt_nt x1 + 1))) kX6_rim_150 mX4_everyPoint rfl h2 rfl (dX4_everyPoint h2)), (pt_callS kX6_rim_166 mX2_rimOf rfl (dX2_rimOf h3 h4)), (pt_callS kX6_rim_172 mJ6_bitCount_0f7a4 rfl (dJ6_bitCount (ri_I n B (ep_F (wl_M M x1 n B) (pt_R M (pt_nt x1 + 1)))) (wl_M M x1 n B))), trivial⟩
set_option maxRecDepth 100000 in
theorem gX6_rim_0_2 (x1 : Int32) (n : Nat) (B : Nat → Nat → Nat → Bool) (M : pt_M) (h1 : lN_P M x1 n B) :
    pt_Go YX6_rim (0, [(0, pt_r 2 0), (1, pt_i x1)], [], M)
      (25, [(0, pt_r 2 0), (1, pt_i x1), (2, pt_r 0 0)], [pt_i (-1)], (wl_M M x1 n B)) :=
  pt_run_ok tX6_rim_ok 8 [.inr (2, some (pt_r 0 0), (wl_M M x1 n B))] (P := pt_Cal YX6_rim (.invokevirtual 163) [pt_r 2 0, pt_i x1] M (some (pt_r 0 0)) (wl_M M x1 n B) ∧ True) (by with_unfolding_all rfl) ⟨(pt_callV (i := 0) kX6_rim_163 mX6_lawfulAt rfl (by decide) rfl (dX6_lawfulAt_n h1)), trivial⟩
set_option maxRecDepth 100000 in
theorem gX6_rim_0_3 (x1 : Int32) (n : Nat) (B : Nat → Nat → Nat → Bool) (M : pt_M) (h1 : tN_P M x1) :
    pt_Go YX6_rim (0, [(0, pt_r 2 0), (1, pt_i x1)], [], M)
      (25, [(0, pt_r 2 0), (1, pt_i x1), (2, pt_r 0 0)], [pt_i (-1)], M) :=
  pt_run_ok tX6_rim_ok 8 [.inr (2, some (pt_r 0 0), M)] (P := pt_Cal YX6_rim (.invokevirtual 163) [pt_r 2 0, pt_i x1] M (some (pt_r 0 0)) M ∧ True) (by with_unfolding_all rfl) ⟨(pt_callV (i := 0) kX6_rim_163 mX6_lawfulAt rfl (by decide) rfl (dX6_lawfulAt_0 h1)), trivial⟩
theorem dX6_rim_p1 (x1 : Int32) (n : Nat) (B : Nat → Nat → Nat → Bool) (M : pt_M) (h1 : lA_P M x1 n B) (h2 : (pt_R M (pt_nt x1 + 1)) < 7) (h3 : tb_P (wl_M M x1 n B) (pt_R M (pt_nt x1 + 1)) n B) (h4 : st_P (ep_F (wl_M M x1 n B) (pt_R M (pt_nt x1 + 1))) n) : pt_Does yX6_rim YX6_rim [pt_r 2 0, pt_i x1] M (some (pt_i (bc_F (ri_I n B (ep_F (wl_M M x1 n B) (pt_R M (pt_nt x1 + 1))))))) (wl_M M x1 n B) :=
  rX6_rim_25 (Nat.le_of_ble_eq_true rfl) rfl (gX6_rim_0_1 x1 n B M h1 h2 h3 h4)
theorem dX6_rim_p2 (x1 : Int32) (n : Nat) (B : Nat → Nat → Nat → Bool) (M : pt_M) (h1 : lN_P M x1 n B) : pt_Does yX6_rim YX6_rim [pt_r 2 0, pt_i x1] M (some (pt_i (-1))) (wl_M M x1 n B) :=
  rX6_rim_25 (Nat.le_of_ble_eq_true rfl) rfl (gX6_rim_0_2 x1 n B M h1)
theorem dX6_rim_p3 (x1 : Int32) (n : Nat) (B : Nat → Nat → Nat → Bool) (M : pt_M) (h1 : tN_P M x1) : pt_Does yX6_rim YX6_rim [pt_r 2 0, pt_i x1] M (some (pt_i (-1))) M :=
  rX6_rim_25 (Nat.le_of_ble_eq_true rfl) rfl (gX6_rim_0_3 x1 n B M h1)
end
