section
-- ===== PART A: goes FIRST, ahead of the names: the tables' words, and 'selects' of the private methods out of them =====
/-- a private method of a class that the tables say can be made, by its rows of tables_1 -/
def lw_okq (q : MethodName × Nat) : Prop := (q.1.cls ≠ "java/lang/invoke/MethodHandle" ∧ q.1.cls ≠ "java/lang/invoke/VarHandle") ∧ Cond.instantiable q.1.cls q.2 ∈ tables_1 ∧ Cond.privateMethod q.1 ∈ tables_1 ∧ Cond.instanceMethod q.1 ∈ tables_1
theorem lw_p0 : lw_okq (⟨"PointTables", "placeByTape", "(I)I"⟩, 12) := ⟨⟨by decide +kernel, by decide +kernel⟩, List.mem_of_getElem? (i := 18) (by decide +kernel), List.mem_of_getElem? (i := 162) (by decide +kernel), List.mem_of_getElem? (i := 163) (by decide +kernel)⟩
theorem lw_p1 : lw_okq (⟨"PointTables", "readPlaces", "(I)Z"⟩, 12) := ⟨⟨by decide +kernel, by decide +kernel⟩, List.mem_of_getElem? (i := 18) (by decide +kernel), List.mem_of_getElem? (i := 172) (by decide +kernel), List.mem_of_getElem? (i := 173) (by decide +kernel)⟩
theorem lw_p2 : lw_okq (⟨"PointTables", "placeSpare", "(I)I"⟩, 12) := ⟨⟨by decide +kernel, by decide +kernel⟩, List.mem_of_getElem? (i := 18) (by decide +kernel), List.mem_of_getElem? (i := 187) (by decide +kernel), List.mem_of_getElem? (i := 188) (by decide +kernel)⟩
theorem lw_p3 : lw_okq (⟨"PointTables$Table", "putOne", "(IIIZ)V"⟩, 6) := ⟨⟨by decide +kernel, by decide +kernel⟩, List.mem_of_getElem? (i := 27) (by decide +kernel), List.mem_of_getElem? (i := 206) (by decide +kernel), List.mem_of_getElem? (i := 207) (by decide +kernel)⟩
theorem lw_p4 : lw_okq (⟨"PointTables", "keepSpare", "(I)V"⟩, 12) := ⟨⟨by decide +kernel, by decide +kernel⟩, List.mem_of_getElem? (i := 18) (by decide +kernel), List.mem_of_getElem? (i := 210) (by decide +kernel), List.mem_of_getElem? (i := 211) (by decide +kernel)⟩
theorem lw_p5 : lw_okq (⟨"PointTables", "tableByTape", "(II)Z"⟩, 12) := ⟨⟨by decide +kernel, by decide +kernel⟩, List.mem_of_getElem? (i := 18) (by decide +kernel), List.mem_of_getElem? (i := 222) (by decide +kernel), List.mem_of_getElem? (i := 223) (by decide +kernel)⟩
theorem lw_p6 : lw_okq (⟨"PointTables", "tableAt", "(I)LPointTables$Table;"⟩, 12) := ⟨⟨by decide +kernel, by decide +kernel⟩, List.mem_of_getElem? (i := 18) (by decide +kernel), List.mem_of_getElem? (i := 243) (by decide +kernel), List.mem_of_getElem? (i := 244) (by decide +kernel)⟩
theorem lw_p7 : lw_okq (⟨"PointTables", "renameByTape", "(II)Z"⟩, 12) := ⟨⟨by decide +kernel, by decide +kernel⟩, List.mem_of_getElem? (i := 18) (by decide +kernel), List.mem_of_getElem? (i := 277) (by decide +kernel), List.mem_of_getElem? (i := 278) (by decide +kernel)⟩
theorem lw_p8 : lw_okq (⟨"PointTables", "lawfulAt", "(I)LPointTables$Table;"⟩, 12) := ⟨⟨by decide +kernel, by decide +kernel⟩, List.mem_of_getElem? (i := 18) (by decide +kernel), List.mem_of_getElem? (i := 323) (by decide +kernel), List.mem_of_getElem? (i := 324) (by decide +kernel)⟩
theorem lw_p9 : lw_okq (⟨"PointTables$Coder", "findFirstRow", "(LPointTables$Table;Z[I)V"⟩, 1) := ⟨⟨by decide +kernel, by decide +kernel⟩, List.mem_of_getElem? (i := 79) (by decide +kernel), List.mem_of_getElem? (i := 368) (by decide +kernel), List.mem_of_getElem? (i := 369) (by decide +kernel)⟩
theorem lw_p10 : lw_okq (⟨"PointTables$Coder", "nameBy", "(LPointTables$Table;IZ)V"⟩, 1) := ⟨⟨by decide +kernel, by decide +kernel⟩, List.mem_of_getElem? (i := 79) (by decide +kernel), List.mem_of_getElem? (i := 376) (by decide +kernel), List.mem_of_getElem? (i := 377) (by decide +kernel)⟩
theorem lw_p11 : lw_okq (⟨"PointTables$Coder", "offerRow", "(LPointTables$Table;Z[I)V"⟩, 1) := ⟨⟨by decide +kernel, by decide +kernel⟩, List.mem_of_getElem? (i := 79) (by decide +kernel), List.mem_of_getElem? (i := 382) (by decide +kernel), List.mem_of_getElem? (i := 383) (by decide +kernel)⟩
theorem lw_p12 : lw_okq (⟨"PointTables", "setOut", "([II)V"⟩, 12) := ⟨⟨by decide +kernel, by decide +kernel⟩, List.mem_of_getElem? (i := 18) (by decide +kernel), List.mem_of_getElem? (i := 394) (by decide +kernel), List.mem_of_getElem? (i := 395) (by decide +kernel)⟩
theorem lw_p13 : lw_okq (⟨"PointTables", "sweptByTape", "(II)Z"⟩, 12) := ⟨⟨by decide +kernel, by decide +kernel⟩, List.mem_of_getElem? (i := 18) (by decide +kernel), List.mem_of_getElem? (i := 418) (by decide +kernel), List.mem_of_getElem? (i := 419) (by decide +kernel)⟩
theorem lw_p14 : lw_okq (⟨"PointTables$Sweeper", "begin", "(I)V"⟩, 4) := ⟨⟨by decide +kernel, by decide +kernel⟩, List.mem_of_getElem? (i := 89) (by decide +kernel), List.mem_of_getElem? (i := 429) (by decide +kernel), List.mem_of_getElem? (i := 430) (by decide +kernel)⟩
theorem lw_p15 : lw_okq (⟨"PointTables$Sweeper", "swapAt", "(I)V"⟩, 4) := ⟨⟨by decide +kernel, by decide +kernel⟩, List.mem_of_getElem? (i := 89) (by decide +kernel), List.mem_of_getElem? (i := 434) (by decide +kernel), List.mem_of_getElem? (i := 435) (by decide +kernel)⟩
def lw_privs_1 : List (MethodName × Nat) := [(⟨"PointTables", "placeByTape", "(I)I"⟩, 12), (⟨"PointTables", "readPlaces", "(I)Z"⟩, 12), (⟨"PointTables", "placeSpare", "(I)I"⟩, 12), (⟨"PointTables$Table", "putOne", "(IIIZ)V"⟩, 6), (⟨"PointTables", "keepSpare", "(I)V"⟩, 12), (⟨"PointTables", "tableByTape", "(II)Z"⟩, 12), (⟨"PointTables", "tableAt", "(I)LPointTables$Table;"⟩, 12), (⟨"PointTables", "renameByTape", "(II)Z"⟩, 12), (⟨"PointTables", "lawfulAt", "(I)LPointTables$Table;"⟩, 12), (⟨"PointTables$Coder", "findFirstRow", "(LPointTables$Table;Z[I)V"⟩, 1), (⟨"PointTables$Coder", "nameBy", "(LPointTables$Table;IZ)V"⟩, 1), (⟨"PointTables$Coder", "offerRow", "(LPointTables$Table;Z[I)V"⟩, 1), (⟨"PointTables", "setOut", "([II)V"⟩, 12), (⟨"PointTables", "sweptByTape", "(II)Z"⟩, 12), (⟨"PointTables$Sweeper", "begin", "(I)V"⟩, 4), (⟨"PointTables$Sweeper", "swapAt", "(I)V"⟩, 4)]
theorem lw_r1 : ∀ q ∈ lw_privs_1, lw_okq q := List.forall_mem_cons.mpr ⟨lw_p0, List.forall_mem_cons.mpr ⟨lw_p1, List.forall_mem_cons.mpr ⟨lw_p2, List.forall_mem_cons.mpr ⟨lw_p3, List.forall_mem_cons.mpr ⟨lw_p4, List.forall_mem_cons.mpr ⟨lw_p5, List.forall_mem_cons.mpr ⟨lw_p6, List.forall_mem_cons.mpr ⟨lw_p7, List.forall_mem_cons.mpr ⟨lw_p8, List.forall_mem_cons.mpr ⟨lw_p9, List.forall_mem_cons.mpr ⟨lw_p10, List.forall_mem_cons.mpr ⟨lw_p11, List.forall_mem_cons.mpr ⟨lw_p12, List.forall_mem_cons.mpr ⟨lw_p13, List.forall_mem_cons.mpr ⟨lw_p14, List.forall_mem_cons.mpr ⟨lw_p15, fun _ h => absurd h List.not_mem_nil⟩⟩⟩⟩⟩⟩⟩⟩⟩⟩⟩⟩⟩⟩⟩⟩
theorem lw_p16 : lw_okq (⟨"PointTables$Sweeper", "leastPlace", "(LPointTables$Table;)I"⟩, 4) := ⟨⟨by decide +kernel, by decide +kernel⟩, List.mem_of_getElem? (i := 89) (by decide +kernel), List.mem_of_getElem? (i := 452) (by decide +kernel), List.mem_of_getElem? (i := 453) (by decide +kernel)⟩
theorem lw_p17 : lw_okq (⟨"PointTables$Sweeper", "isDue", "(LPointTables$Table;II)Z"⟩, 4) := ⟨⟨by decide +kernel, by decide +kernel⟩, List.mem_of_getElem? (i := 89) (by decide +kernel), List.mem_of_getElem? (i := 456) (by decide +kernel), List.mem_of_getElem? (i := 457) (by decide +kernel)⟩
theorem lw_p18 : lw_okq (⟨"PointTables$Sweeper", "isDueWith", "(LPointTables$Table;III)Z"⟩, 4) := ⟨⟨by decide +kernel, by decide +kernel⟩, List.mem_of_getElem? (i := 89) (by decide +kernel), List.mem_of_getElem? (i := 460) (by decide +kernel), List.mem_of_getElem? (i := 461) (by decide +kernel)⟩
theorem lw_p19 : lw_okq (⟨"PointTables$Sweeper", "areSwapped", "(II)Z"⟩, 4) := ⟨⟨by decide +kernel, by decide +kernel⟩, List.mem_of_getElem? (i := 89) (by decide +kernel), List.mem_of_getElem? (i := 464) (by decide +kernel), List.mem_of_getElem? (i := 465) (by decide +kernel)⟩
theorem lw_p20 : lw_okq (⟨"java/lang/Throwable", "fillInStackTrace", "(I)Ljava/lang/Throwable;"⟩, 6) := ⟨⟨by decide +kernel, by decide +kernel⟩, List.mem_of_getElem? (i := 565) (by decide +kernel), List.mem_of_getElem? (i := 563) (by decide +kernel), List.mem_of_getElem? (i := 564) (by decide +kernel)⟩
theorem lw_p21 : lw_okq (⟨"PointTablesModel", "four", "(I)V"⟩, 21) := ⟨⟨by decide +kernel, by decide +kernel⟩, List.mem_of_getElem? (i := 608) (by decide +kernel), List.mem_of_getElem? (i := 687) (by decide +kernel), List.mem_of_getElem? (i := 688) (by decide +kernel)⟩
theorem lw_p22 : lw_okq (⟨"PointTablesModel", "has", "(I)Z"⟩, 21) := ⟨⟨by decide +kernel, by decide +kernel⟩, List.mem_of_getElem? (i := 608) (by decide +kernel), List.mem_of_getElem? (i := 699) (by decide +kernel), List.mem_of_getElem? (i := 700) (by decide +kernel)⟩
theorem lw_p23 : lw_okq (⟨"PointTablesModel", "taken", "()V"⟩, 21) := ⟨⟨by decide +kernel, by decide +kernel⟩, List.mem_of_getElem? (i := 608) (by decide +kernel), List.mem_of_getElem? (i := 710) (by decide +kernel), List.mem_of_getElem? (i := 711) (by decide +kernel)⟩
theorem lw_p24 : lw_okq (⟨"PointTablesModel", "set", "(IIIII)V"⟩, 21) := ⟨⟨by decide +kernel, by decide +kernel⟩, List.mem_of_getElem? (i := 608) (by decide +kernel), List.mem_of_getElem? (i := 716) (by decide +kernel), List.mem_of_getElem? (i := 717) (by decide +kernel)⟩
theorem lw_p25 : lw_okq (⟨"PointTablesModel", "copy", "(II)V"⟩, 21) := ⟨⟨by decide +kernel, by decide +kernel⟩, List.mem_of_getElem? (i := 608) (by decide +kernel), List.mem_of_getElem? (i := 723) (by decide +kernel), List.mem_of_getElem? (i := 724) (by decide +kernel)⟩
theorem lw_p26 : lw_okq (⟨"PointTablesModel", "areThree", "(IIII)Z"⟩, 21) := ⟨⟨by decide +kernel, by decide +kernel⟩, List.mem_of_getElem? (i := 608) (by decide +kernel), List.mem_of_getElem? (i := 739) (by decide +kernel), List.mem_of_getElem? (i := 740) (by decide +kernel)⟩
theorem lw_p27 : lw_okq (⟨"PointTablesModel", "turnAt", "(IIII)I"⟩, 21) := ⟨⟨by decide +kernel, by decide +kernel⟩, List.mem_of_getElem? (i := 608) (by decide +kernel), List.mem_of_getElem? (i := 743) (by decide +kernel), List.mem_of_getElem? (i := 744) (by decide +kernel)⟩
theorem lw_p28 : lw_okq (⟨"PointTablesModel", "turnAll", "(I)V"⟩, 21) := ⟨⟨by decide +kernel, by decide +kernel⟩, List.mem_of_getElem? (i := 608) (by decide +kernel), List.mem_of_getElem? (i := 755) (by decide +kernel), List.mem_of_getElem? (i := 756) (by decide +kernel)⟩
theorem lw_p29 : lw_okq (⟨"PointTablesModel", "pick", "(III)V"⟩, 21) := ⟨⟨by decide +kernel, by decide +kernel⟩, List.mem_of_getElem? (i := 608) (by decide +kernel), List.mem_of_getElem? (i := 763) (by decide +kernel), List.mem_of_getElem? (i := 764) (by decide +kernel)⟩
theorem lw_p30 : lw_okq (⟨"PointTablesModel", "isLawful", "(I)Z"⟩, 21) := ⟨⟨by decide +kernel, by decide +kernel⟩, List.mem_of_getElem? (i := 608) (by decide +kernel), List.mem_of_getElem? (i := 775) (by decide +kernel), List.mem_of_getElem? (i := 776) (by decide +kernel)⟩
theorem lw_p31 : lw_okq (⟨"PointTablesModel", "whyNot", "(II)I"⟩, 21) := ⟨⟨by decide +kernel, by decide +kernel⟩, List.mem_of_getElem? (i := 608) (by decide +kernel), List.mem_of_getElem? (i := 779) (by decide +kernel), List.mem_of_getElem? (i := 780) (by decide +kernel)⟩
def lw_privs_2 : List (MethodName × Nat) := [(⟨"PointTables$Sweeper", "leastPlace", "(LPointTables$Table;)I"⟩, 4), (⟨"PointTables$Sweeper", "isDue", "(LPointTables$Table;II)Z"⟩, 4), (⟨"PointTables$Sweeper", "isDueWith", "(LPointTables$Table;III)Z"⟩, 4), (⟨"PointTables$Sweeper", "areSwapped", "(II)Z"⟩, 4), (⟨"java/lang/Throwable", "fillInStackTrace", "(I)Ljava/lang/Throwable;"⟩, 6), (⟨"PointTablesModel", "four", "(I)V"⟩, 21), (⟨"PointTablesModel", "has", "(I)Z"⟩, 21), (⟨"PointTablesModel", "taken", "()V"⟩, 21), (⟨"PointTablesModel", "set", "(IIIII)V"⟩, 21), (⟨"PointTablesModel", "copy", "(II)V"⟩, 21), (⟨"PointTablesModel", "areThree", "(IIII)Z"⟩, 21), (⟨"PointTablesModel", "turnAt", "(IIII)I"⟩, 21), (⟨"PointTablesModel", "turnAll", "(I)V"⟩, 21), (⟨"PointTablesModel", "pick", "(III)V"⟩, 21), (⟨"PointTablesModel", "isLawful", "(I)Z"⟩, 21), (⟨"PointTablesModel", "whyNot", "(II)I"⟩, 21)]
theorem lw_r2 : ∀ q ∈ lw_privs_2, lw_okq q := List.forall_mem_cons.mpr ⟨lw_p16, List.forall_mem_cons.mpr ⟨lw_p17, List.forall_mem_cons.mpr ⟨lw_p18, List.forall_mem_cons.mpr ⟨lw_p19, List.forall_mem_cons.mpr ⟨lw_p20, List.forall_mem_cons.mpr ⟨lw_p21, List.forall_mem_cons.mpr ⟨lw_p22, List.forall_mem_cons.mpr ⟨lw_p23, List.forall_mem_cons.mpr ⟨lw_p24, List.forall_mem_cons.mpr ⟨lw_p25, List.forall_mem_cons.mpr ⟨lw_p26, List.forall_mem_cons.mpr ⟨lw_p27, List.forall_mem_cons.mpr ⟨lw_p28, List.forall_mem_cons.mpr ⟨lw_p29, List.forall_mem_cons.mpr ⟨lw_p30, List.forall_mem_cons.mpr ⟨lw_p31, fun _ h => absurd h List.not_mem_nil⟩⟩⟩⟩⟩⟩⟩⟩⟩⟩⟩⟩⟩⟩⟩⟩
theorem lw_p32 : lw_okq (⟨"PointTablesModel", "breaks", "(III)Z"⟩, 21) := ⟨⟨by decide +kernel, by decide +kernel⟩, List.mem_of_getElem? (i := 608) (by decide +kernel), List.mem_of_getElem? (i := 786) (by decide +kernel), List.mem_of_getElem? (i := 787) (by decide +kernel)⟩
theorem lw_p33 : lw_okq (⟨"PointTablesModel", "breaksFour", "(IIIII)Z"⟩, 21) := ⟨⟨by decide +kernel, by decide +kernel⟩, List.mem_of_getElem? (i := 608) (by decide +kernel), List.mem_of_getElem? (i := 790) (by decide +kernel), List.mem_of_getElem? (i := 791) (by decide +kernel)⟩
theorem lw_p34 : lw_okq (⟨"PointTablesModel", "left", "(IIII)Z"⟩, 21) := ⟨⟨by decide +kernel, by decide +kernel⟩, List.mem_of_getElem? (i := 608) (by decide +kernel), List.mem_of_getElem? (i := 794) (by decide +kernel), List.mem_of_getElem? (i := 795) (by decide +kernel)⟩
theorem lw_p35 : lw_okq (⟨"PointTablesModel", "breaksFive", "(IIIIII)Z"⟩, 21) := ⟨⟨by decide +kernel, by decide +kernel⟩, List.mem_of_getElem? (i := 608) (by decide +kernel), List.mem_of_getElem? (i := 798) (by decide +kernel), List.mem_of_getElem? (i := 799) (by decide +kernel)⟩
theorem lw_p36 : lw_okq (⟨"PointTablesModel", "rimOf", "(II)I"⟩, 21) := ⟨⟨by decide +kernel, by decide +kernel⟩, List.mem_of_getElem? (i := 608) (by decide +kernel), List.mem_of_getElem? (i := 810) (by decide +kernel), List.mem_of_getElem? (i := 811) (by decide +kernel)⟩
theorem lw_p37 : lw_okq (⟨"PointTablesModel", "nextTo", "(III)I"⟩, 21) := ⟨⟨by decide +kernel, by decide +kernel⟩, List.mem_of_getElem? (i := 608) (by decide +kernel), List.mem_of_getElem? (i := 814) (by decide +kernel), List.mem_of_getElem? (i := 815) (by decide +kernel)⟩
theorem lw_p38 : lw_okq (⟨"PointTablesModel", "throwsIf", "(Z)Z"⟩, 21) := ⟨⟨by decide +kernel, by decide +kernel⟩, List.mem_of_getElem? (i := 608) (by decide +kernel), List.mem_of_getElem? (i := 822) (by decide +kernel), List.mem_of_getElem? (i := 823) (by decide +kernel)⟩
theorem lw_p39 : lw_okq (⟨"PointTablesModel", "codeOf", "(II)V"⟩, 21) := ⟨⟨by decide +kernel, by decide +kernel⟩, List.mem_of_getElem? (i := 608) (by decide +kernel), List.mem_of_getElem? (i := 834) (by decide +kernel), List.mem_of_getElem? (i := 835) (by decide +kernel)⟩
theorem lw_p40 : lw_okq (⟨"PointTablesModel", "least", "(II[I)V"⟩, 21) := ⟨⟨by decide +kernel, by decide +kernel⟩, List.mem_of_getElem? (i := 608) (by decide +kernel), List.mem_of_getElem? (i := 838) (by decide +kernel), List.mem_of_getElem? (i := 839) (by decide +kernel)⟩
theorem lw_p41 : lw_okq (⟨"PointTablesModel", "around", "(III)V"⟩, 21) := ⟨⟨by decide +kernel, by decide +kernel⟩, List.mem_of_getElem? (i := 608) (by decide +kernel), List.mem_of_getElem? (i := 842) (by decide +kernel), List.mem_of_getElem? (i := 843) (by decide +kernel)⟩
theorem lw_p42 : lw_okq (⟨"PointTablesModel", "rowOf", "(II[I)V"⟩, 21) := ⟨⟨by decide +kernel, by decide +kernel⟩, List.mem_of_getElem? (i := 608) (by decide +kernel), List.mem_of_getElem? (i := 846) (by decide +kernel), List.mem_of_getElem? (i := 847) (by decide +kernel)⟩
theorem lw_p43 : lw_okq (⟨"PointTablesModel", "fill", "(II[I)V"⟩, 21) := ⟨⟨by decide +kernel, by decide +kernel⟩, List.mem_of_getElem? (i := 608) (by decide +kernel), List.mem_of_getElem? (i := 864) (by decide +kernel), List.mem_of_getElem? (i := 865) (by decide +kernel)⟩
theorem lw_p44 : lw_okq (⟨"PointTablesModel", "swap", "(II)V"⟩, 21) := ⟨⟨by decide +kernel, by decide +kernel⟩, List.mem_of_getElem? (i := 608) (by decide +kernel), List.mem_of_getElem? (i := 876) (by decide +kernel), List.mem_of_getElem? (i := 877) (by decide +kernel)⟩
theorem lw_p45 : lw_okq (⟨"PointTablesModel", "maySwap", "(III)Z"⟩, 21) := ⟨⟨by decide +kernel, by decide +kernel⟩, List.mem_of_getElem? (i := 608) (by decide +kernel), List.mem_of_getElem? (i := 884) (by decide +kernel), List.mem_of_getElem? (i := 885) (by decide +kernel)⟩
theorem lw_p46 : lw_okq (⟨"PointTablesModel", "isNext", "(IIII)Z"⟩, 21) := ⟨⟨by decide +kernel, by decide +kernel⟩, List.mem_of_getElem? (i := 608) (by decide +kernel), List.mem_of_getElem? (i := 888) (by decide +kernel), List.mem_of_getElem? (i := 889) (by decide +kernel)⟩
theorem lw_p47 : lw_okq (⟨"PointTablesModel", "wasSwapped", "(II)Z"⟩, 21) := ⟨⟨by decide +kernel, by decide +kernel⟩, List.mem_of_getElem? (i := 608) (by decide +kernel), List.mem_of_getElem? (i := 892) (by decide +kernel), List.mem_of_getElem? (i := 893) (by decide +kernel)⟩
def lw_privs_3 : List (MethodName × Nat) := [(⟨"PointTablesModel", "breaks", "(III)Z"⟩, 21), (⟨"PointTablesModel", "breaksFour", "(IIIII)Z"⟩, 21), (⟨"PointTablesModel", "left", "(IIII)Z"⟩, 21), (⟨"PointTablesModel", "breaksFive", "(IIIIII)Z"⟩, 21), (⟨"PointTablesModel", "rimOf", "(II)I"⟩, 21), (⟨"PointTablesModel", "nextTo", "(III)I"⟩, 21), (⟨"PointTablesModel", "throwsIf", "(Z)Z"⟩, 21), (⟨"PointTablesModel", "codeOf", "(II)V"⟩, 21), (⟨"PointTablesModel", "least", "(II[I)V"⟩, 21), (⟨"PointTablesModel", "around", "(III)V"⟩, 21), (⟨"PointTablesModel", "rowOf", "(II[I)V"⟩, 21), (⟨"PointTablesModel", "fill", "(II[I)V"⟩, 21), (⟨"PointTablesModel", "swap", "(II)V"⟩, 21), (⟨"PointTablesModel", "maySwap", "(III)Z"⟩, 21), (⟨"PointTablesModel", "isNext", "(IIII)Z"⟩, 21), (⟨"PointTablesModel", "wasSwapped", "(II)Z"⟩, 21)]
theorem lw_r3 : ∀ q ∈ lw_privs_3, lw_okq q := List.forall_mem_cons.mpr ⟨lw_p32, List.forall_mem_cons.mpr ⟨lw_p33, List.forall_mem_cons.mpr ⟨lw_p34, List.forall_mem_cons.mpr ⟨lw_p35, List.forall_mem_cons.mpr ⟨lw_p36, List.forall_mem_cons.mpr ⟨lw_p37, List.forall_mem_cons.mpr ⟨lw_p38, List.forall_mem_cons.mpr ⟨lw_p39, List.forall_mem_cons.mpr ⟨lw_p40, List.forall_mem_cons.mpr ⟨lw_p41, List.forall_mem_cons.mpr ⟨lw_p42, List.forall_mem_cons.mpr ⟨lw_p43, List.forall_mem_cons.mpr ⟨lw_p44, List.forall_mem_cons.mpr ⟨lw_p45, List.forall_mem_cons.mpr ⟨lw_p46, List.forall_mem_cons.mpr ⟨lw_p47, fun _ h => absurd h List.not_mem_nil⟩⟩⟩⟩⟩⟩⟩⟩⟩⟩⟩⟩⟩⟩⟩⟩
theorem lw_p48 : lw_okq (⟨"PointTablesModel", "isEmpty", "(III)Z"⟩, 21) := ⟨⟨by decide +kernel, by decide +kernel⟩, List.mem_of_getElem? (i := 608) (by decide +kernel), List.mem_of_getElem? (i := 900) (by decide +kernel), List.mem_of_getElem? (i := 901) (by decide +kernel)⟩
theorem lw_p49 : lw_okq (⟨"PointTablesModel", "find", "(I)V"⟩, 21) := ⟨⟨by decide +kernel, by decide +kernel⟩, List.mem_of_getElem? (i := 608) (by decide +kernel), List.mem_of_getElem? (i := 916) (by decide +kernel), List.mem_of_getElem? (i := 917) (by decide +kernel)⟩
theorem lw_p50 : lw_okq (⟨"PointTablesModel", "byBits", "(II)V"⟩, 21) := ⟨⟨by decide +kernel, by decide +kernel⟩, List.mem_of_getElem? (i := 608) (by decide +kernel), List.mem_of_getElem? (i := 920) (by decide +kernel), List.mem_of_getElem? (i := 921) (by decide +kernel)⟩
def lw_privs_4 : List (MethodName × Nat) := [(⟨"PointTablesModel", "isEmpty", "(III)Z"⟩, 21), (⟨"PointTablesModel", "find", "(I)V"⟩, 21), (⟨"PointTablesModel", "byBits", "(II)V"⟩, 21)]
theorem lw_r4 : ∀ q ∈ lw_privs_4, lw_okq q := List.forall_mem_cons.mpr ⟨lw_p48, List.forall_mem_cons.mpr ⟨lw_p49, List.forall_mem_cons.mpr ⟨lw_p50, fun _ h => absurd h List.not_mem_nil⟩⟩⟩
def lw_privs : List (MethodName × Nat) := lw_privs_1 ++ (lw_privs_2 ++ (lw_privs_3 ++ (lw_privs_4)))
def lw_tbl : List Cond := k2_sels lw_privs ++ tables_1
theorem lw_privs_ok : ∀ q ∈ lw_privs, lw_okq q := by
  show ∀ q ∈ lw_privs_1 ++ (lw_privs_2 ++ (lw_privs_3 ++ (lw_privs_4))), lw_okq q
  exact List.forall_mem_append.mpr ⟨lw_r1, List.forall_mem_append.mpr ⟨lw_r2, List.forall_mem_append.mpr ⟨lw_r3, lw_r4⟩⟩⟩
def RX0 : String := "PointTables$Coder"
def TX0 : u_T := fun k => match k with
  | _ => ("PointTables$Coder", "names", "[I", true)
def tyX0 : Nat → FieldType := fun k => match k with
  | _ => .array .int
abbrev wsX00 : List Cond := u_ws RX0 TX0 1
theorem nmX0 : ∀ a, a < 1 → ∀ b, b < 1 → a ≠ b → (TX0 a).2.1 ≠ (TX0 b).2.1 := by decide +kernel
theorem tyX0_ok : ∀ k, k < 1 → parseFieldDescriptor (TX0 k).2.2.1 = some (tyX0 k) := by decide +kernel
abbrev cX0_init : ByteArray := prog_2_method_1_code
def yX0_init : MethodName := ⟨RX0, "<init>", "()V"⟩
abbrev cX0_codeOf : ByteArray := prog_2_method_2_code
def yX0_codeOf : MethodName := ⟨RX0, "codeOf", "(LPointTables$Table;)[I"⟩
abbrev cX0_findFirstRows : ByteArray := prog_2_method_3_code
def yX0_findFirstRows : MethodName := ⟨RX0, "findFirstRows", "(LPointTables$Table;)V"⟩
abbrev cX0_findFirstRow : ByteArray := prog_2_method_4_code
def yX0_findFirstRow : MethodName := ⟨RX0, "findFirstRow", "(LPointTables$Table;Z[I)V"⟩
abbrev cX0_nameBy : ByteArray := prog_2_method_5_code
def yX0_nameBy : MethodName := ⟨RX0, "nameBy", "(LPointTables$Table;IZ)V"⟩
abbrev cX0_offerRow : ByteArray := prog_2_method_6_code
def yX0_offerRow : MethodName := ⟨RX0, "offerRow", "(LPointTables$Table;Z[I)V"⟩
abbrev cX0_compareRows : ByteArray := prog_2_method_7_code
def yX0_compareRows : MethodName := ⟨RX0, "compareRows", "([I[II)I"⟩
abbrev cX0_bitsOf : ByteArray := prog_2_method_8_code
def yX0_bitsOf : MethodName := ⟨RX0, "bitsOf", "([II)I"⟩
def RX1 : String := "PointTables$Laws"
def TX1 : u_T := fun k => match k with
  | _ => ("", "", "", false)
def tyX1 : Nat → FieldType := fun k => match k with
  | _ => .int
abbrev wsX10 : List Cond := u_ws RX1 TX1 0
theorem nmX1 : ∀ a, a < 0 → ∀ b, b < 0 → a ≠ b → (TX1 a).2.1 ≠ (TX1 b).2.1 := by decide +kernel
theorem tyX1_ok : ∀ k, k < 0 → parseFieldDescriptor (TX1 k).2.2.1 = some (tyX1 k) := by decide +kernel
abbrev cX1_faultOf : ByteArray := prog_3_method_2_code
def yX1_faultOf : MethodName := ⟨RX1, "faultOf", "(LPointTables$Table;)I"⟩
abbrev cX1_firstFour : ByteArray := prog_3_method_3_code
def yX1_firstFour : MethodName := ⟨RX1, "firstFour", "(LPointTables$Table;)I"⟩
abbrev cX1_breaksFour : ByteArray := prog_3_method_4_code
def yX1_breaksFour : MethodName := ⟨RX1, "breaksFour", "(LPointTables$Table;IIII)Z"⟩
abbrev cX1_firstFive : ByteArray := prog_3_method_5_code
def yX1_firstFive : MethodName := ⟨RX1, "firstFive", "(LPointTables$Table;)I"⟩
abbrev cX1_breaksFive : ByteArray := prog_3_method_6_code
def yX1_breaksFive : MethodName := ⟨RX1, "breaksFive", "(LPointTables$Table;IIIII)Z"⟩
abbrev cX1_isOneSided : ByteArray := prog_3_method_7_code
def yX1_isOneSided : MethodName := ⟨RX1, "isOneSided", "(LPointTables$Table;IIIII)Z"⟩
def RX2 : String := "PointTables$Rims"
def TX2 : u_T := fun k => match k with
  | _ => ("", "", "", false)
def tyX2 : Nat → FieldType := fun k => match k with
  | _ => .int
abbrev wsX20 : List Cond := u_ws RX2 TX2 0
theorem nmX2 : ∀ a, a < 0 → ∀ b, b < 0 → a ≠ b → (TX2 a).2.1 ≠ (TX2 b).2.1 := by decide +kernel
theorem tyX2_ok : ∀ k, k < 0 → parseFieldDescriptor (TX2 k).2.2.1 = some (tyX2 k) := by decide +kernel
abbrev cX2_isIn : ByteArray := prog_4_method_2_code
def yX2_isIn : MethodName := ⟨RX2, "isIn", "(II)Z"⟩
abbrev cX2_leastOf : ByteArray := prog_4_method_3_code
def yX2_leastOf : MethodName := ⟨RX2, "leastOf", "(LPointTables$Table;I)I"⟩
abbrev cX2_nextTo : ByteArray := prog_4_method_4_code
def yX2_nextTo : MethodName := ⟨RX2, "nextTo", "(LPointTables$Table;II)I"⟩
abbrev cX2_rimOf : ByteArray := prog_4_method_5_code
def yX2_rimOf : MethodName := ⟨RX2, "rimOf", "(LPointTables$Table;I)I"⟩
abbrev cX2_layerOf : ByteArray := prog_4_method_6_code
def yX2_layerOf : MethodName := ⟨RX2, "layerOf", "(LPointTables$Table;I)I"⟩
abbrev cX2_isFigure : ByteArray := prog_4_method_7_code
def yX2_isFigure : MethodName := ⟨RX2, "isFigure", "(LPointTables$Table;I)Z"⟩
abbrev cX2_insideOf : ByteArray := prog_4_method_8_code
def yX2_insideOf : MethodName := ⟨RX2, "insideOf", "(LPointTables$Table;I)I"⟩
def RX3 : String := "PointTables$Sweeper"
def TX3 : u_T := fun k => match k with
  | 0 => ("PointTables$Sweeper", "places", "[I", true)
  | 1 => ("PointTables$Sweeper", "order", "[I", true)
  | 2 => ("PointTables$Sweeper", "swapped", "[I", true)
  | _ => ("PointTables$Sweeper", "steps", "[I", true)
def tyX3 : Nat → FieldType := fun k => match k with
  | 0 => .array .int
  | 1 => .array .int
  | 2 => .array .int
  | _ => .array .int
abbrev wsX30 : List Cond := u_ws RX3 TX3 4
theorem nmX3 : ∀ a, a < 4 → ∀ b, b < 4 → a ≠ b → (TX3 a).2.1 ≠ (TX3 b).2.1 := by decide +kernel
theorem tyX3_ok : ∀ k, k < 4 → parseFieldDescriptor (TX3 k).2.2.1 = some (tyX3 k) := by decide +kernel
abbrev cX3_init : ByteArray := prog_5_method_1_code
def yX3_init : MethodName := ⟨RX3, "<init>", "()V"⟩
abbrev cX3_read : ByteArray := prog_5_method_2_code
def yX3_read : MethodName := ⟨RX3, "read", "(LPointTables$Tape;I)Z"⟩
abbrev cX3_fill : ByteArray := prog_5_method_3_code
def yX3_fill : MethodName := ⟨RX3, "fill", "(LPointTables$Table;I)V"⟩
abbrev cX3_find : ByteArray := prog_5_method_4_code
def yX3_find : MethodName := ⟨RX3, "find", "(LPointTables$Table;)Z"⟩
abbrev cX3_begin : ByteArray := prog_5_method_5_code
def yX3_begin : MethodName := ⟨RX3, "begin", "(I)V"⟩
abbrev cX3_swapAt : ByteArray := prog_5_method_6_code
def yX3_swapAt : MethodName := ⟨RX3, "swapAt", "(I)V"⟩
abbrev cX3_leastPlace : ByteArray := prog_5_method_7_code
def yX3_leastPlace : MethodName := ⟨RX3, "leastPlace", "(LPointTables$Table;)I"⟩
abbrev cX3_isDue : ByteArray := prog_5_method_8_code
def yX3_isDue : MethodName := ⟨RX3, "isDue", "(LPointTables$Table;II)Z"⟩
abbrev cX3_isDueWith : ByteArray := prog_5_method_9_code
def yX3_isDueWith : MethodName := ⟨RX3, "isDueWith", "(LPointTables$Table;III)Z"⟩
abbrev cX3_areSwapped : ByteArray := prog_5_method_10_code
def yX3_areSwapped : MethodName := ⟨RX3, "areSwapped", "(II)Z"⟩
def RX4 : String := "PointTables$Table"
def TX4 : u_T := fun k => match k with
  | 0 => ("PointTables$Table", "size", "I", false)
  | 1 => ("PointTables$Table", "lefts", "[I", true)
  | 2 => ("PointTables$Table", "fault", "I", false)
  | 3 => ("PointTables$Table", "firstRowsKnown", "Z", false)
  | 4 => ("PointTables$Table", "firstRow", "[I", true)
  | _ => ("PointTables$Table", "firstMirrorRow", "[I", true)
def tyX4 : Nat → FieldType := fun k => match k with
  | 0 => .int
  | 1 => .array .int
  | 2 => .int
  | 3 => .boolean
  | 4 => .array .int
  | _ => .array .int
abbrev wsX40 : List Cond := u_ws RX4 TX4 6
theorem nmX4 : ∀ a, a < 6 → ∀ b, b < 6 → a ≠ b → (TX4 a).2.1 ≠ (TX4 b).2.1 := by decide +kernel
theorem tyX4_ok : ∀ k, k < 6 → parseFieldDescriptor (TX4 k).2.2.1 = some (tyX4 k) := by decide +kernel
abbrev cX4_init : ByteArray := prog_6_method_1_code
def yX4_init : MethodName := ⟨RX4, "<init>", "()V"⟩
abbrev cX4_begin : ByteArray := prog_6_method_2_code
def yX4_begin : MethodName := ⟨RX4, "begin", "(I)V"⟩
abbrev cX4_forget : ByteArray := prog_6_method_3_code
def yX4_forget : MethodName := ⟨RX4, "forget", "()V"⟩
abbrev cX4_everyPoint : ByteArray := prog_6_method_4_code
def yX4_everyPoint : MethodName := ⟨RX4, "everyPoint", "()I"⟩
abbrev cX4_hasPoint : ByteArray := prog_6_method_5_code
def yX4_hasPoint : MethodName := ⟨RX4, "hasPoint", "(I)Z"⟩
abbrev cX4_hasThree : ByteArray := prog_6_method_6_code
def yX4_hasThree : MethodName := ⟨RX4, "hasThree", "(III)Z"⟩
abbrev cX4_leftOf : ByteArray := prog_6_method_7_code
def yX4_leftOf : MethodName := ⟨RX4, "leftOf", "(II)I"⟩
abbrev cX4_isLeft : ByteArray := prog_6_method_8_code
def yX4_isLeft : MethodName := ⟨RX4, "isLeft", "(III)Z"⟩
abbrev cX4_put : ByteArray := prog_6_method_9_code
def yX4_put : MethodName := ⟨RX4, "put", "(IIIZ)V"⟩
abbrev cX4_putOne : ByteArray := prog_6_method_10_code
def yX4_putOne : MethodName := ⟨RX4, "putOne", "(IIIZ)V"⟩
abbrev cX4_takeRow : ByteArray := prog_6_method_11_code
def yX4_takeRow : MethodName := ⟨RX4, "takeRow", "(I[I)V"⟩
abbrev cX4_takeTurns : ByteArray := prog_6_method_12_code
def yX4_takeTurns : MethodName := ⟨RX4, "takeTurns", "(LPointTables$Table;[IIZ)V"⟩
def RX5 : String := "PointTables$Tape"
def TX5 : u_T := fun k => match k with
  | 0 => ("PointTables$Tape", "bytes", "[I", true)
  | _ => ("PointTables$Tape", "length", "I", false)
def tyX5 : Nat → FieldType := fun k => match k with
  | 0 => .array .int
  | _ => .int
abbrev wsX50 : List Cond := u_ws RX5 TX5 2
theorem nmX5 : ∀ a, a < 2 → ∀ b, b < 2 → a ≠ b → (TX5 a).2.1 ≠ (TX5 b).2.1 := by decide +kernel
theorem tyX5_ok : ∀ k, k < 2 → parseFieldDescriptor (TX5 k).2.2.1 = some (tyX5 k) := by decide +kernel
abbrev cX5_init : ByteArray := prog_7_method_1_code
def yX5_init : MethodName := ⟨RX5, "<init>", "()V"⟩
abbrev cX5_addNumber : ByteArray := prog_7_method_2_code
def yX5_addNumber : MethodName := ⟨RX5, "addNumber", "(I)V"⟩
abbrev cX5_byteAt : ByteArray := prog_7_method_3_code
def yX5_byteAt : MethodName := ⟨RX5, "byteAt", "(I)I"⟩
abbrev cX5_shortAt : ByteArray := prog_7_method_4_code
def yX5_shortAt : MethodName := ⟨RX5, "shortAt", "(I)I"⟩
abbrev cX5_hasBit : ByteArray := prog_7_method_5_code
def yX5_hasBit : MethodName := ⟨RX5, "hasBit", "(I)Z"⟩
def RX6 : String := "PointTables"
def TX6 : u_T := fun k => match k with
  | 0 => ("PointTables", "slots", "[LPointTables$Table;", true)
  | 1 => ("PointTables", "spare", "LPointTables$Table;", false)
  | 2 => ("PointTables", "tape", "LPointTables$Tape;", true)
  | 3 => ("PointTables", "coder", "LPointTables$Coder;", true)
  | 4 => ("PointTables", "sweeper", "LPointTables$Sweeper;", true)
  | 5 => ("PointTables", "out", "[I", true)
  | 6 => ("PointTables", "outLength", "I", false)
  | 7 => ("PointTables", "onLine", "I", false)
  | 8 => ("PointTables", "xs", "[I", true)
  | 9 => ("PointTables", "ys", "[I", true)
  | 10 => ("PointTables", "origins", "[I", true)
  | _ => ("PointTables", "row", "[I", true)
def tyX6 : Nat → FieldType := fun k => match k with
  | 0 => .array (.object "PointTables$Table")
  | 1 => .object "PointTables$Table"
  | 2 => .object "PointTables$Tape"
  | 3 => .object "PointTables$Coder"
  | 4 => .object "PointTables$Sweeper"
  | 5 => .array .int
  | 6 => .int
  | 7 => .int
  | 8 => .array .int
  | 9 => .array .int
  | 10 => .array .int
  | _ => .array .int
abbrev wsX60 : List Cond := u_ws RX6 TX6 12
theorem nmX6 : ∀ a, a < 12 → ∀ b, b < 12 → a ≠ b → (TX6 a).2.1 ≠ (TX6 b).2.1 := by decide +kernel
theorem tyX6_ok : ∀ k, k < 12 → parseFieldDescriptor (TX6 k).2.2.1 = some (tyX6 k) := by decide +kernel
abbrev cX6_init : ByteArray := prog_1_method_1_code
def yX6_init : MethodName := ⟨RX6, "<init>", "()V"⟩
abbrev cX6_feed : ByteArray := prog_1_method_2_code
def yX6_feed : MethodName := ⟨RX6, "feed", "(IIIII)I"⟩
abbrev cX6_end : ByteArray := prog_1_method_3_code
def yX6_end : MethodName := ⟨RX6, "end", "(I)Z"⟩
abbrev cX6_place : ByteArray := prog_1_method_4_code
def yX6_place : MethodName := ⟨RX6, "place", "(I)I"⟩
abbrev cX6_placeByTape : ByteArray := prog_1_method_5_code
def yX6_placeByTape : MethodName := ⟨RX6, "placeByTape", "(I)I"⟩
abbrev cX6_readPlaces : ByteArray := prog_1_method_6_code
def yX6_readPlaces : MethodName := ⟨RX6, "readPlaces", "(I)Z"⟩
abbrev cX6_placeSpare : ByteArray := prog_1_method_7_code
def yX6_placeSpare : MethodName := ⟨RX6, "placeSpare", "(I)I"⟩
abbrev cX6_line : ByteArray := prog_1_method_8_code
def yX6_line : MethodName := ⟨RX6, "line", "()I"⟩
abbrev cX6_table : ByteArray := prog_1_method_9_code
def yX6_table : MethodName := ⟨RX6, "table", "(II)Z"⟩
abbrev cX6_tableByTape : ByteArray := prog_1_method_10_code
def yX6_tableByTape : MethodName := ⟨RX6, "tableByTape", "(II)Z"⟩
abbrev cX6_turn : ByteArray := prog_1_method_11_code
def yX6_turn : MethodName := ⟨RX6, "turn", "(IIII)I"⟩
abbrev cX6_flip : ByteArray := prog_1_method_12_code
def yX6_flip : MethodName := ⟨RX6, "flip", "(IIII)Z"⟩
abbrev cX6_mirror : ByteArray := prog_1_method_13_code
def yX6_mirror : MethodName := ⟨RX6, "mirror", "(II)Z"⟩
abbrev cX6_rename : ByteArray := prog_1_method_14_code
def yX6_rename : MethodName := ⟨RX6, "rename", "(II)Z"⟩
abbrev cX6_renameByTape : ByteArray := prog_1_method_15_code
def yX6_renameByTape : MethodName := ⟨RX6, "renameByTape", "(II)Z"⟩
abbrev cX6_without : ByteArray := prog_1_method_16_code
def yX6_without : MethodName := ⟨RX6, "without", "(III)Z"⟩
abbrev cX6_lawful : ByteArray := prog_1_method_17_code
def yX6_lawful : MethodName := ⟨RX6, "lawful", "(I)I"⟩
abbrev cX6_why : ByteArray := prog_1_method_18_code
def yX6_why : MethodName := ⟨RX6, "why", "(I)I"⟩
abbrev cX6_rim : ByteArray := prog_1_method_19_code
def yX6_rim : MethodName := ⟨RX6, "rim", "(I)I"⟩
abbrev cX6_onRim : ByteArray := prog_1_method_20_code
def yX6_onRim : MethodName := ⟨RX6, "onRim", "(II)I"⟩
abbrev cX6_layer : ByteArray := prog_1_method_21_code
def yX6_layer : MethodName := ⟨RX6, "layer", "(II)I"⟩
abbrev cX6_code : ByteArray := prog_1_method_22_code
def yX6_code : MethodName := ⟨RX6, "code", "(I)I"⟩
abbrev cX6_named : ByteArray := prog_1_method_23_code
def yX6_named : MethodName := ⟨RX6, "named", "(II)Z"⟩
abbrev cX6_like : ByteArray := prog_1_method_24_code
def yX6_like : MethodName := ⟨RX6, "like", "(II)I"⟩
abbrev cX6_swept : ByteArray := prog_1_method_25_code
def yX6_swept : MethodName := ⟨RX6, "swept", "(II)Z"⟩
abbrev cX6_sweptByTape : ByteArray := prog_1_method_26_code
def yX6_sweptByTape : MethodName := ⟨RX6, "sweptByTape", "(II)Z"⟩
abbrev cX6_sweep : ByteArray := prog_1_method_27_code
def yX6_sweep : MethodName := ⟨RX6, "sweep", "(I)I"⟩
abbrev cX6_octet : ByteArray := prog_1_method_28_code
def yX6_octet : MethodName := ⟨RX6, "octet", "(I)I"⟩
abbrev cX6_figures : ByteArray := prog_1_method_29_code
def yX6_figures : MethodName := ⟨RX6, "figures", "(IIZ)I"⟩
abbrev cX6_lines : ByteArray := prog_1_method_30_code
def yX6_lines : MethodName := ⟨RX6, "lines", "(II)I"⟩
abbrev cX6_inside : ByteArray := prog_1_method_31_code
def yX6_inside : MethodName := ⟨RX6, "inside", "(IIIII)I"⟩
abbrev cX6_kinds : ByteArray := prog_1_method_32_code
def yX6_kinds : MethodName := ⟨RX6, "kinds", "(I)I"⟩
abbrev cX6_kind : ByteArray := prog_1_method_33_code
def yX6_kind : MethodName := ⟨RX6, "kind", "(III)Z"⟩
abbrev cX6_which : ByteArray := prog_1_method_34_code
def yX6_which : MethodName := ⟨RX6, "which", "(I)I"⟩
abbrev cX6_points : ByteArray := prog_1_method_35_code
def yX6_points : MethodName := ⟨RX6, "points", "(I)I"⟩
abbrev cX6_isSlot : ByteArray := prog_1_method_36_code
def yX6_isSlot : MethodName := ⟨RX6, "isSlot", "(I)Z"⟩
abbrev cX6_isSize : ByteArray := prog_1_method_37_code
def yX6_isSize : MethodName := ⟨RX6, "isSize", "(I)Z"⟩
abbrev cX6_turnsOf : ByteArray := prog_1_method_38_code
def yX6_turnsOf : MethodName := ⟨RX6, "turnsOf", "(I)I"⟩
abbrev cX6_swapsOf : ByteArray := prog_1_method_39_code
def yX6_swapsOf : MethodName := ⟨RX6, "swapsOf", "(I)I"⟩
abbrev cX6_kindsOf : ByteArray := prog_1_method_40_code
def yX6_kindsOf : MethodName := ⟨RX6, "kindsOf", "(I)[I"⟩
abbrev cX6_tableAt : ByteArray := prog_1_method_41_code
def yX6_tableAt : MethodName := ⟨RX6, "tableAt", "(I)LPointTables$Table;"⟩
abbrev cX6_lawfulAt : ByteArray := prog_1_method_42_code
def yX6_lawfulAt : MethodName := ⟨RX6, "lawfulAt", "(I)LPointTables$Table;"⟩
abbrev cX6_keepSpare : ByteArray := prog_1_method_43_code
def yX6_keepSpare : MethodName := ⟨RX6, "keepSpare", "(I)V"⟩
abbrev cX6_setOut : ByteArray := prog_1_method_44_code
def yX6_setOut : MethodName := ⟨RX6, "setOut", "([II)V"⟩
def RX7 : String := "PointTablesModel"
def TX7 : u_T := fun k => match k with
  | 0 => ("PointTablesModel", "thrown", "I", false)
  | 1 => ("PointTablesModel", "tape", "[B", true)
  | 2 => ("PointTablesModel", "length", "I", false)
  | 3 => ("PointTablesModel", "size", "I", false)
  | 4 => ("PointTablesModel", "many", "[I", true)
  | 5 => ("PointTablesModel", "turns", "[I", true)
  | 6 => ("PointTablesModel", "px", "[J", true)
  | 7 => ("PointTablesModel", "py", "[J", true)
  | 8 => ("PointTablesModel", "onLine", "I", false)
  | 9 => ("PointTablesModel", "is", "[I", true)
  | 10 => ("PointTablesModel", "some", "[I", true)
  | 11 => ("PointTablesModel", "row", "[I", true)
  | 12 => ("PointTablesModel", "best", "[I", true)
  | 13 => ("PointTablesModel", "mirrored", "[I", true)
  | 14 => ("PointTablesModel", "first", "[I", true)
  | 15 => ("PointTablesModel", "out", "[B", true)
  | 16 => ("PointTablesModel", "outMany", "I", false)
  | 17 => ("PointTablesModel", "order", "[I", true)
  | 18 => ("PointTablesModel", "when", "[I", true)
  | 19 => ("PointTablesModel", "kindMany", "[I", true)
  | _ => ("PointTablesModel", "kindBits", "[I", true)
def tyX7 : Nat → FieldType := fun k => match k with
  | 0 => .int
  | 1 => .array .byte
  | 2 => .int
  | 3 => .int
  | 4 => .array .int
  | 5 => .array .int
  | 6 => .array .long
  | 7 => .array .long
  | 8 => .int
  | 9 => .array .int
  | 10 => .array .int
  | 11 => .array .int
  | 12 => .array .int
  | 13 => .array .int
  | 14 => .array .int
  | 15 => .array .byte
  | 16 => .int
  | 17 => .array .int
  | 18 => .array .int
  | 19 => .array .int
  | _ => .array .int
abbrev wsX70 : List Cond := u_ws RX7 TX7 21
theorem nmX7 : ∀ a, a < 21 → ∀ b, b < 21 → a ≠ b → (TX7 a).2.1 ≠ (TX7 b).2.1 := by decide +kernel
theorem tyX7_ok : ∀ k, k < 21 → parseFieldDescriptor (TX7 k).2.2.1 = some (tyX7 k) := by decide +kernel
abbrev cX7_init : ByteArray := prog_9_method_1_code
def yX7_init : MethodName := ⟨RX7, "<init>", "()V"⟩
abbrev cX7_thrown : ByteArray := prog_9_method_2_code
def yX7_thrown : MethodName := ⟨RX7, "thrown", "()I"⟩
abbrev cX7_throwsIf : ByteArray := prog_9_method_3_code
def yX7_throwsIf : MethodName := ⟨RX7, "throwsIf", "(Z)Z"⟩
abbrev cX7_feed : ByteArray := prog_9_method_4_code
def yX7_feed : MethodName := ⟨RX7, "feed", "(IIIII)I"⟩
abbrev cX7_four : ByteArray := prog_9_method_5_code
def yX7_four : MethodName := ⟨RX7, "four", "(I)V"⟩
abbrev cX7_end : ByteArray := prog_9_method_6_code
def yX7_end : MethodName := ⟨RX7, "end", "(I)Z"⟩
abbrev cX7_taken : ByteArray := prog_9_method_7_code
def yX7_taken : MethodName := ⟨RX7, "taken", "()V"⟩
abbrev cX7_three : ByteArray := prog_9_method_8_code
def yX7_three : MethodName := ⟨RX7, "three", "(III)I"⟩
abbrev cX7_turnAt : ByteArray := prog_9_method_9_code
def yX7_turnAt : MethodName := ⟨RX7, "turnAt", "(IIII)I"⟩
abbrev cX7_left : ByteArray := prog_9_method_10_code
def yX7_left : MethodName := ⟨RX7, "left", "(IIII)Z"⟩
abbrev cX7_set : ByteArray := prog_9_method_11_code
def yX7_set : MethodName := ⟨RX7, "set", "(IIIII)V"⟩
abbrev cX7_isSlot : ByteArray := prog_9_method_12_code
def yX7_isSlot : MethodName := ⟨RX7, "isSlot", "(I)Z"⟩
abbrev cX7_has : ByteArray := prog_9_method_13_code
def yX7_has : MethodName := ⟨RX7, "has", "(I)Z"⟩
abbrev cX7_copy : ByteArray := prog_9_method_14_code
def yX7_copy : MethodName := ⟨RX7, "copy", "(II)V"⟩
abbrev cX7_points : ByteArray := prog_9_method_15_code
def yX7_points : MethodName := ⟨RX7, "points", "(I)I"⟩
abbrev cX7_place : ByteArray := prog_9_method_16_code
def yX7_place : MethodName := ⟨RX7, "place", "(I)I"⟩
abbrev cX7_line : ByteArray := prog_9_method_17_code
def yX7_line : MethodName := ⟨RX7, "line", "()I"⟩
abbrev cX7_table : ByteArray := prog_9_method_18_code
def yX7_table : MethodName := ⟨RX7, "table", "(II)Z"⟩
abbrev cX7_areThree : ByteArray := prog_9_method_19_code
def yX7_areThree : MethodName := ⟨RX7, "areThree", "(IIII)Z"⟩
abbrev cX7_turn : ByteArray := prog_9_method_20_code
def yX7_turn : MethodName := ⟨RX7, "turn", "(IIII)I"⟩
abbrev cX7_flip : ByteArray := prog_9_method_21_code
def yX7_flip : MethodName := ⟨RX7, "flip", "(IIII)Z"⟩
abbrev cX7_turnAll : ByteArray := prog_9_method_22_code
def yX7_turnAll : MethodName := ⟨RX7, "turnAll", "(I)V"⟩
abbrev cX7_mirror : ByteArray := prog_9_method_23_code
def yX7_mirror : MethodName := ⟨RX7, "mirror", "(II)Z"⟩
abbrev cX7_pick : ByteArray := prog_9_method_24_code
def yX7_pick : MethodName := ⟨RX7, "pick", "(III)V"⟩
abbrev cX7_rename : ByteArray := prog_9_method_25_code
def yX7_rename : MethodName := ⟨RX7, "rename", "(II)Z"⟩
abbrev cX7_without : ByteArray := prog_9_method_26_code
def yX7_without : MethodName := ⟨RX7, "without", "(III)Z"⟩
abbrev cX7_breaksFour : ByteArray := prog_9_method_27_code
def yX7_breaksFour : MethodName := ⟨RX7, "breaksFour", "(IIIII)Z"⟩
abbrev cX7_breaksFive : ByteArray := prog_9_method_28_code
def yX7_breaksFive : MethodName := ⟨RX7, "breaksFive", "(IIIIII)Z"⟩
abbrev cX7_breaks : ByteArray := prog_9_method_29_code
def yX7_breaks : MethodName := ⟨RX7, "breaks", "(III)Z"⟩
abbrev cX7_bits : ByteArray := prog_9_method_30_code
def yX7_bits : MethodName := ⟨RX7, "bits", "(I)I"⟩
abbrev cX7_whyNot : ByteArray := prog_9_method_31_code
def yX7_whyNot : MethodName := ⟨RX7, "whyNot", "(II)I"⟩
abbrev cX7_isLawful : ByteArray := prog_9_method_32_code
def yX7_isLawful : MethodName := ⟨RX7, "isLawful", "(I)Z"⟩
abbrev cX7_lawful : ByteArray := prog_9_method_33_code
def yX7_lawful : MethodName := ⟨RX7, "lawful", "(I)I"⟩
abbrev cX7_why : ByteArray := prog_9_method_34_code
def yX7_why : MethodName := ⟨RX7, "why", "(I)I"⟩
abbrev cX7_nextTo : ByteArray := prog_9_method_35_code
def yX7_nextTo : MethodName := ⟨RX7, "nextTo", "(III)I"⟩
abbrev cX7_rimOf : ByteArray := prog_9_method_36_code
def yX7_rimOf : MethodName := ⟨RX7, "rimOf", "(II)I"⟩
abbrev cX7_rim : ByteArray := prog_9_method_37_code
def yX7_rim : MethodName := ⟨RX7, "rim", "(I)I"⟩
abbrev cX7_onRim : ByteArray := prog_9_method_38_code
def yX7_onRim : MethodName := ⟨RX7, "onRim", "(II)I"⟩
abbrev cX7_layer : ByteArray := prog_9_method_39_code
def yX7_layer : MethodName := ⟨RX7, "layer", "(II)I"⟩
abbrev cX7_threesOf : ByteArray := prog_9_method_40_code
def yX7_threesOf : MethodName := ⟨RX7, "threesOf", "(I)I"⟩
abbrev cX7_around : ByteArray := prog_9_method_41_code
def yX7_around : MethodName := ⟨RX7, "around", "(III)V"⟩
abbrev cX7_rowOf : ByteArray := prog_9_method_42_code
def yX7_rowOf : MethodName := ⟨RX7, "rowOf", "(II[I)V"⟩
abbrev cX7_compare : ByteArray := prog_9_method_43_code
def yX7_compare : MethodName := ⟨RX7, "compare", "([I[II)I"⟩
abbrev cX7_least : ByteArray := prog_9_method_44_code
def yX7_least : MethodName := ⟨RX7, "least", "(II[I)V"⟩
abbrev cX7_codeOf : ByteArray := prog_9_method_45_code
def yX7_codeOf : MethodName := ⟨RX7, "codeOf", "(II)V"⟩
abbrev cX7_code : ByteArray := prog_9_method_46_code
def yX7_code : MethodName := ⟨RX7, "code", "(I)I"⟩
abbrev cX7_octet : ByteArray := prog_9_method_47_code
def yX7_octet : MethodName := ⟨RX7, "octet", "(I)I"⟩
abbrev cX7_fill : ByteArray := prog_9_method_48_code
def yX7_fill : MethodName := ⟨RX7, "fill", "(II[I)V"⟩
abbrev cX7_named : ByteArray := prog_9_method_49_code
def yX7_named : MethodName := ⟨RX7, "named", "(II)Z"⟩
abbrev cX7_like : ByteArray := prog_9_method_50_code
def yX7_like : MethodName := ⟨RX7, "like", "(II)I"⟩
abbrev cX7_swept : ByteArray := prog_9_method_51_code
def yX7_swept : MethodName := ⟨RX7, "swept", "(II)Z"⟩
abbrev cX7_swap : ByteArray := prog_9_method_52_code
def yX7_swap : MethodName := ⟨RX7, "swap", "(II)V"⟩
abbrev cX7_wasSwapped : ByteArray := prog_9_method_53_code
def yX7_wasSwapped : MethodName := ⟨RX7, "wasSwapped", "(II)Z"⟩
abbrev cX7_isNext : ByteArray := prog_9_method_54_code
def yX7_isNext : MethodName := ⟨RX7, "isNext", "(IIII)Z"⟩
abbrev cX7_sweep : ByteArray := prog_9_method_55_code
def yX7_sweep : MethodName := ⟨RX7, "sweep", "(I)I"⟩
abbrev cX7_maySwap : ByteArray := prog_9_method_56_code
def yX7_maySwap : MethodName := ⟨RX7, "maySwap", "(III)Z"⟩
abbrev cX7_isEmpty : ByteArray := prog_9_method_57_code
def yX7_isEmpty : MethodName := ⟨RX7, "isEmpty", "(III)Z"⟩
abbrev cX7_figures : ByteArray := prog_9_method_58_code
def yX7_figures : MethodName := ⟨RX7, "figures", "(IIZ)I"⟩
abbrev cX7_lines : ByteArray := prog_9_method_59_code
def yX7_lines : MethodName := ⟨RX7, "lines", "(II)I"⟩
abbrev cX7_inside : ByteArray := prog_9_method_60_code
def yX7_inside : MethodName := ⟨RX7, "inside", "(IIIII)I"⟩
abbrev cX7_byBits : ByteArray := prog_9_method_61_code
def yX7_byBits : MethodName := ⟨RX7, "byBits", "(II)V"⟩
abbrev cX7_find : ByteArray := prog_9_method_62_code
def yX7_find : MethodName := ⟨RX7, "find", "(I)V"⟩
abbrev cX7_kinds : ByteArray := prog_9_method_63_code
def yX7_kinds : MethodName := ⟨RX7, "kinds", "(I)I"⟩
abbrev cX7_kind : ByteArray := prog_9_method_64_code
def yX7_kind : MethodName := ⟨RX7, "kind", "(III)Z"⟩
abbrev cX7_which : ByteArray := prog_9_method_65_code
def yX7_which : MethodName := ⟨RX7, "which", "(I)I"⟩
def RJ6 : String := "java/lang/Integer"
def TJ6 : u_T := fun k => match k with
  | _ => ("", "", "", false)
def tyJ6 : Nat → FieldType := fun k => match k with
  | _ => .int
abbrev wsJ60 : List Cond := u_ws RJ6 TJ6 0
theorem nmJ6 : ∀ a, a < 0 → ∀ b, b < 0 → a ≠ b → (TJ6 a).2.1 ≠ (TJ6 b).2.1 := by decide +kernel
theorem tyJ6_ok : ∀ k, k < 0 → parseFieldDescriptor (TJ6 k).2.2.1 = some (tyJ6 k) := by decide +kernel
abbrev cJ6_compare_7cf53 : ByteArray := prog_11_method_40_code
def yJ6_compare_7cf53 : MethodName := ⟨RJ6, "compare", "(II)I"⟩
abbrev cJ6_bitCount_0f7a4 : ByteArray := prog_11_method_49_code
def yJ6_bitCount_0f7a4 : MethodName := ⟨RJ6, "bitCount", "(I)I"⟩
def RJ9 : String := "java/lang/Math"
def TJ9 : u_T := fun k => match k with
  | _ => ("", "", "", false)
def tyJ9 : Nat → FieldType := fun k => match k with
  | _ => .int
abbrev wsJ90 : List Cond := u_ws RJ9 TJ9 0
theorem nmJ9 : ∀ a, a < 0 → ∀ b, b < 0 → a ≠ b → (TJ9 a).2.1 ≠ (TJ9 b).2.1 := by decide +kernel
theorem tyJ9_ok : ∀ k, k < 0 → parseFieldDescriptor (TJ9 k).2.2.1 = some (tyJ9 k) := by decide +kernel
abbrev cJ9_abs_0f7a4 : ByteArray := prog_12_method_59_code
def yJ9_abs_0f7a4 : MethodName := ⟨RJ9, "abs", "(I)I"⟩
abbrev cJ9_min_7cf53 : ByteArray := prog_12_method_69_code
def yJ9_min_7cf53 : MethodName := ⟨RJ9, "min", "(II)I"⟩
def RJ0 : String := "java/lang/String"
def TJ0 : u_T := fun k => match k with
  | _ => ("", "", "", false)
def tyJ0 : Nat → FieldType := fun k => match k with
  | _ => .int
abbrev wsJ00 : List Cond := u_ws RJ0 TJ0 0
theorem nmJ0 : ∀ a, a < 0 → ∀ b, b < 0 → a ≠ b → (TJ0 a).2.1 ≠ (TJ0 b).2.1 := by decide +kernel
theorem tyJ0_ok : ∀ k, k < 0 → parseFieldDescriptor (TJ0 k).2.2.1 = some (tyJ0 k) := by decide +kernel
def RJ10 : String := "java/lang/System"
def TJ10 : u_T := fun k => match k with
  | _ => ("", "", "", false)
def tyJ10 : Nat → FieldType := fun k => match k with
  | _ => .int
abbrev wsJ100 : List Cond := u_ws RJ10 TJ10 0
theorem nmJ10 : ∀ a, a < 0 → ∀ b, b < 0 → a ≠ b → (TJ10 a).2.1 ≠ (TJ10 b).2.1 := by decide +kernel
theorem tyJ10_ok : ∀ k, k < 0 → parseFieldDescriptor (TJ10 k).2.2.1 = some (tyJ10 k) := by decide +kernel
def RJ7 : String := "java/util/Arrays"
def TJ7 : u_T := fun k => match k with
  | _ => ("", "", "", false)
def tyJ7 : Nat → FieldType := fun k => match k with
  | _ => .int
abbrev wsJ70 : List Cond := u_ws RJ7 TJ7 0
theorem nmJ7 : ∀ a, a < 0 → ∀ b, b < 0 → a ≠ b → (TJ7 a).2.1 ≠ (TJ7 b).2.1 := by decide +kernel
theorem tyJ7_ok : ∀ k, k < 0 → parseFieldDescriptor (TJ7 k).2.2.1 = some (tyJ7 k) := by decide +kernel
abbrev cJ7_fill_53178 : ByteArray := prog_17_method_103_code
def yJ7_fill_53178 : MethodName := ⟨RJ7, "fill", "([II)V"⟩
def RL : String := "PointTablesLaw"
abbrev cL_onRim : ByteArray := method_3_code
def yL_onRim : MethodName := ⟨RL, "onRim", "(LPointTables;II[J)I"⟩
abbrev cL_octet : ByteArray := method_4_code
def yL_octet : MethodName := ⟨RL, "octet", "(LPointTables;I[J)I"⟩
abbrev cL_law : ByteArray := code
def yL_law : MethodName := ⟨RL, "law", "([I)Z"⟩
abbrev vwCl : List vw_C := [(RX0, TX0, 1), (RX3, TX3, 4), (RX4, TX4, 6), (RX5, TX5, 2), (RX6, TX6, 12), (RX7, TX7, 21)]
end
section
/-- the tables' words that stay -/
def pt_tb : List Cond := lw_tbl.filter goodWord
theorem pt_tb_of {w : Cond} (h : w ∈ lw_tbl) (g : goodWord w = true) : w ∈ pt_tb := List.mem_filter.mpr ⟨h, g⟩
/-! THE ABSTRACT MACHINE: values whose references are (kind, number); a memory of plain functions; what a state of it says of the machine's -/
abbrev pt_V : Type := Int32 ⊕ (Int64 ⊕ (Nat × Nat))
abbrev pt_i (x : Int32) : pt_V := Sum.inl x
abbrev pt_l (x : Int64) : pt_V := Sum.inr (Sum.inl x)
abbrev pt_r (k i : Nat) : pt_V := Sum.inr (Sum.inr (k, i))
abbrev pt_n : pt_V := Sum.inr (Sum.inr (0, 0))
/-- fields F kind field number; arrays A kind number place; longs; the tables in the slots and the spare; the script -/
abbrev pt_M : Type := (Nat → Nat → Nat → Int32) × (Nat → Nat → Nat → Int32) × (Nat → Nat → Int64) × (Nat → Nat) × Nat × (Nat → Int32)
abbrev pt_S : Type := Nat × List (Nat × pt_V) × List pt_V × pt_M
def pt_F (M : pt_M) : Nat → Nat → Nat → Int32 := M.1
def pt_A (M : pt_M) : Nat → Nat → Nat → Int32 := M.2.1
def pt_G (M : pt_M) : Nat → Nat → Int64 := M.2.2.1
def pt_R (M : pt_M) : Nat → Nat := M.2.2.2.1
def pt_L (M : pt_M) : Nat := M.2.2.2.2.1
def pt_X (M : pt_M) : Nat → Int32 := M.2.2.2.2.2
def pt_wF (M : pt_M) (k f i : Nat) (v : Int32) : pt_M := (fun k' f' i' => if k' = k ∧ f' = f ∧ i' = i then v else M.1 k' f' i', M.2)
/-- a whole array's new contents -/
def pt_wA (M : pt_M) (k i : Nat) (g : Nat → Int32) : pt_M := (M.1, fun k' i' => if k' = k ∧ i' = i then g else M.2.1 k' i', M.2.2)
def pt_wG (M : pt_M) (k : Nat) (g : Nat → Int64) : pt_M := (M.1, M.2.1, fun k' => if k' = k then g else M.2.2.1 k', M.2.2.2)
def pt_wR (M : pt_M) (p v : Nat) : pt_M := (M.1, M.2.1, M.2.2.1, fun q => if q = p then v else M.2.2.2.1 q, M.2.2.2.2)
def pt_cv (ad : Nat → Nat → Nat) : pt_V → Value
  | .inl x => .int x
  | .inr (.inl y) => .long y
  | .inr (.inr (0, _)) => .null
  | .inr (.inr (k + 1, i)) => .ref (ad (k + 1) i)
def pt_cl (ad : Nat → Nat → Nat) (l : List (Nat × pt_V)) : List (Nat × Value) := l.map fun q => (q.1, pt_cv ad q.2)
/-- the objects: class number among vwCl, how many fields -/
def pt_ob (k : Nat) : Option (Nat × Nat) := match k with
  | 2 => some (4, 12)
  | 3 => some (2, 6)
  | 4 => some (3, 2)
  | 5 => some (0, 1)
  | 6 => some (1, 4)
  | 7 => some (5, 21)
  | _ => none
/-- what a field is: 0 a number, 1 the spare, else a fixed reference to that kind -/
def pt_fs (k f : Nat) : Nat := match k with
  | 2 => [10, 1, 4, 5, 6, 20, 0, 0, 21, 22, 23, 24].getD f 0
  | 3 => [0, 11, 0, 0, 12, 13].getD f 0
  | 4 => [14, 0].getD f 0
  | 5 => [15].getD f 0
  | 6 => [16, 17, 18, 19].getD f 0
  | 7 => [0, 30, 0, 0, 31, 32, 33, 34, 0, 35, 36, 37, 38, 39, 40, 41, 0, 42, 43, 44, 45].getD f 0
  | _ => 0
def pt_fv (M : pt_M) (k f i : Nat) : pt_V := match pt_fs k f with
  | 0 => pt_i (pt_F M k f i)
  | 1 => pt_r 3 (pt_R M 0)
  | n + 2 => pt_r (n + 2) i
/-- the arrays: of ints 0, bytes 1, longs 2, tables 3; their lengths -/
def pt_ak (k : Nat) : Option (Nat × Nat) := match k with
  | 10 => some (3, 6)
  | 11 => some (0, 100)
  | 12 => some (0, 120)
  | 13 => some (0, 120)
  | 14 => some (0, 140)
  | 15 => some (0, 10)
  | 16 => some (0, 45)
  | 17 => some (0, 10)
  | 18 => some (0, 10)
  | 19 => some (0, 100)
  | 20 => some (0, 120)
  | 21 => some (0, 10)
  | 22 => some (0, 10)
  | 23 => some (0, 10)
  | 24 => some (0, 120)
  | 30 => some (1, 140)
  | 31 => some (0, 6)
  | 32 => some (0, 960)
  | 33 => some (2, 10)
  | 34 => some (2, 10)
  | 35 => some (0, 10)
  | 36 => some (0, 5)
  | 37 => some (0, 120)
  | 38 => some (0, 120)
  | 39 => some (0, 120)
  | 40 => some (0, 120)
  | 41 => some (1, 120)
  | 42 => some (0, 10)
  | 43 => some (0, 100)
  | 44 => some (0, 7)
  | 45 => some (0, 448)
  | 50 => some (2, 1)
  | _ => none
/-- how many of a kind -/
def pt_ct (k : Nat) : Nat := match k with
  | 3 => 7
  | 11 => 7
  | 12 => 7
  | 13 => 7
  | _ => 1
def pt_dm (k i : Nat) : Prop := i < pt_ct k ∧ (pt_ob k ≠ none ∨ pt_ak k ≠ none)
def pt_ce (ad : Nat → Nat → Nat) (cA : Nat → ClassId) (M : pt_M) (k i : Nat) : Option va_E := match pt_ob k with
  | some q => some (.inr (q.1, (List.range q.2).map fun f => pt_cv ad (pt_fv M k f i)))
  | none => match pt_ak k with
    | none => none
    | some (2, n) => some (.inl (cA 2, n, .inr (.inl (pt_G M k))))
    | some (3, n) => some (.inl (cA 3, n, .inr (.inr (.inr (.inr fun p => some (ad 3 (pt_R M (p + 1))))))))
    | some (t, n) => some (.inl (cA t, n, .inl (pt_A M k i)))
/-- the heap holds the memory -/
def pt_Hd (D : va_G) (ad : Nat → Nat → Nat) (cA : Nat → ClassId) (M : pt_M) (H : Heap) : Prop := ∀ (k i : Nat) (e : va_E), i < pt_ct k → pt_ce ad cA M k i = some e → va_at D vwCl (ad k i, e) H
def pt_ty (t : Nat) : FieldType := match t with
  | 0 => .int
  | 1 => .byte
  | 2 => .long
  | _ => .object "PointTables$Table"
/-- what the tables say, and that the addresses are apart -/
def pt_Wd (D : va_G) (ad : Nat → Nat → Nat) (cA : Nat → ClassId) (s : State) : Prop :=
  va_K D vwCl [(cA 0, .int), (cA 1, .byte), (cA 2, .long), (cA 3, .object "PointTables$Table")] s ∧ ∀ k i k' i', pt_dm k i → pt_dm k' i' → ad k i = ad k' i' → k = k' ∧ i = i'
/-- arrays that are only read: the script, the class's constants -/
def pt_ro (M : pt_M) (k : Nat) : Option (Nat × (Nat → Int32)) := match k with
  | 51 => some (pt_L M, pt_X M)
  | 60 => some (0, fun _ => 0)
  | 61 => some (1, fun _ => 0)
  | 62 => some (2, fun j => [0, 1].getD j 0)
  | 63 => some (3, fun j => [0, 1, 7].getD j 0)
  | 64 => some (16, fun j => [0, 1, 3, 7, 15, 23, 31, 63, 76, 183, 191, 254, 255, 510, 531, 947].getD j 0)
  | _ => none
def pt_sn (k : Nat) : Option String := match k with
  | 60 => some "NO_KINDS"
  | 61 => some "KINDS_OF_3"
  | 62 => some "KINDS_OF_4"
  | 63 => some "KINDS_OF_5"
  | 64 => some "KINDS_OF_6"
  | _ => none
def pt_Ro (ad : Nat → Nat → Nat) (A : Nat → Prop) (M : pt_M) (s : State) : Prop :=
  (∀ k q, pt_ro M k = some q → va_X (ad k 0) q.1 q.2 s s.heap ∧ ¬ A (ad k 0)) ∧ ∀ k nm, pt_sn k = some nm → va_Z "PointTables" nm "[I" (.ref (ad k 0)) A s s.heap
/-- a method: its class, code, locals, type, room -/
abbrev pt_Y : Type := Nat × ByteArray × Nat × Option FieldType × Room
def pt_own (n : Nat) : String := [RX6, RX4, RX5, RX0, RX3, RX1, RX2, RX7, RL, RJ6, RJ9, RJ7].getD n ""
def pt_Cx (Y : pt_Y) (p : Program) (s : State) (m : MethodId) (args : Array Value) (meth : Method) (c : Code) (D : va_G) (ad : Nat → Nat → Nat) (cA : Nat → ClassId) (A : Nat → Prop) (cells slots : Nat) : Prop :=
  p.tables.exec = Jvm.exec ∧ c.code = Y.2.1 ∧ meth.sig.returnType = Y.2.2.2.1 ∧ c.maxLocals = Y.2.2.1 ∧ s.vm.findClass (pt_own Y.1) = some m.cls ∧ (∀ w ∈ pt_tb, w.before args s = true) ∧ (meth.locks = false ∧ cells ≤ Y.2.2.2.2.cells ∧ slots ≤ Y.2.2.2.2.slots) ∧ pt_Wd D ad cA s ∧ ∀ k i, pt_dm k i → A (ad k i)
def pt_At (Y : pt_Y) (p : Program) (l : Launch) (e : Env) (s : State) (m : MethodId) (args : Array Value) (below : List Frame) (meth : Method) (c : Code) (D : va_G) (ad : Nat → Nat → Nat) (cA : Nat → ClassId) (A : Nat → Prop) (cells slots : Nat) (Q : State → Prop) (σ : pt_S) : Prop :=
  ∀ (H : Heap) (locs : List Loc) (ls : Array Slot), pt_Hd D ad cA σ.2.2.2 H → pt_Ro ad A σ.2.2.2 s → va_S A s.heap H locs → lv_has ls Y.2.2.1 (pt_cl ad σ.2.1) →
    W p l e Y.2.2.2.2 s m args below meth c H locs cells slots Q (F0 m σ.1 ls (σ.2.2.1.map (pt_cv ad)))
/-- from one state the machine comes to the other -/
def pt_Go (Y : pt_Y) (σ τ : pt_S) : Prop :=
  ∀ (p : Program) (l : Launch) (e : Env) (s : State) (m : MethodId) (args : Array Value) (below : List Frame) (meth : Method) (c : Code) (D : va_G) (ad : Nat → Nat → Nat) (cA : Nat → ClassId) (A : Nat → Prop) (cells slots : Nat) (Q : State → Prop),
    pt_Cx Y p s m args meth c D ad cA A cells slots → pt_At Y p l e s m args below meth c D ad cA A cells slots Q τ → pt_At Y p l e s m args below meth c D ad cA A cells slots Q σ
theorem pt_Go.rf {Y : pt_Y} {σ : pt_S} : pt_Go Y σ σ := fun _ _ _ _ _ _ _ _ _ _ _ _ _ _ _ _ _ h => h
theorem pt_Go.tr {Y : pt_Y} {σ τ υ : pt_S} (h : pt_Go Y σ τ) (k : pt_Go Y τ υ) : pt_Go Y σ υ := fun p l e s m args below meth c D ad cA A cells slots Q C h1 => h p l e s m args below meth c D ad cA A cells slots Q C (k p l e s m args below meth c D ad cA A cells slots Q C h1)
theorem pt_Go.to {Y : pt_Y} {σ τ υ : pt_S} (h : pt_Go Y σ τ) (k : τ = υ) : pt_Go Y σ υ := k ▸ h
theorem pt_Go.fr {Y : pt_Y} {σ τ υ : pt_S} (h : pt_Go Y σ τ) (k : υ = σ) : pt_Go Y υ τ := k ▸ h
theorem pt_has_sub {ls : Array Slot} {n : Nat} {l l' : List (Nat × Value)} (h : lv_has ls n l) (hs : ∀ q ∈ l', q ∈ l) : lv_has ls n l' := ⟨h.1, h.2.1, fun q hq => h.2.2 q (hs q hq)⟩
/-- fewer locals are told -/
theorem pt_drop {Y : pt_Y} {pc : Nat} {l l' : List (Nat × pt_V)} {st : List pt_V} {M : pt_M} (hs : ∀ q ∈ l', q ∈ l) : pt_Go Y (pc, l, st, M) (pc, l', st, M) := by
  intro p l0 e s m args below meth c D ad cA A cells slots Q C h H locs ls h1 h2 h3 h4
  refine h H locs ls h1 h2 h3 (pt_has_sub h4 ?_)
  intro q hq
  obtain ⟨z, hz, rfl⟩ := List.mem_map.mp hq
  exact List.mem_map.mpr ⟨z, hs z hz, rfl⟩
def pt_lk : List (Nat × pt_V) → Nat → Option pt_V
  | [], _ => none
  | q :: t, i => match Nat.beq q.1 i with
    | true => some q.2
    | false => pt_lk t i
theorem pt_lk_mem : ∀ {l : List (Nat × pt_V)} {i : Nat} {v : pt_V}, pt_lk l i = some v → (i, v) ∈ l
  | [], _, _, h => by cases h
  | q :: t, i, v, h => by
    unfold pt_lk at h
    split at h
    · rename_i hq
      cases h
      have : q.1 = i := Nat.eq_of_beq_eq_true hq
      subst this
      exact List.mem_cons_self
    · exact List.mem_cons_of_mem _ (pt_lk_mem h)
def pt_isL : pt_V → Bool
  | .inr (.inl _) => true
  | _ => false
theorem pt_cat (ad : Nat → Nat → Nat) (v : pt_V) : (pt_cv ad v).category = if pt_isL v then 2 else 1 := by
  rcases v with x | y | ⟨k, i⟩
  · rfl
  · rfl
  · cases k <;> rfl
/-- a new value of one slot at i: in its place, or behind the others -/
def pt_st1 : List (Nat × pt_V) → Nat → pt_V → List (Nat × pt_V)
  | [], i, v => [(i, v)]
  | q :: t, i, v => match Nat.beq q.1 i with
    | true => (i, v) :: t.filter (fun z => !(Nat.beq z.1 i) && !(Nat.beq (z.1 + 1) i && pt_isL z.2))
    | false => match Nat.beq (q.1 + 1) i && pt_isL q.2 with
      | true => pt_st1 t i v
      | false => q :: pt_st1 t i v
theorem pt_st1_mem {i : Nat} {v : pt_V} : ∀ {l : List (Nat × pt_V)} {z : Nat × pt_V}, z ∈ pt_st1 l i v → z = (i, v) ∨ (z ∈ l ∧ Nat.beq z.1 i = false ∧ (Nat.beq (z.1 + 1) i && pt_isL z.2) = false)
  | [], z, h => by
    unfold pt_st1 at h
    exact Or.inl (List.mem_singleton.mp h)
  | q :: t, z, h => by
    unfold pt_st1 at h
    split at h
    · rcases List.mem_cons.mp h with h | h
      · exact Or.inl h
      · obtain ⟨h1, h2⟩ := List.mem_filter.mp h
        simp only [Bool.and_eq_true, Bool.not_eq_true'] at h2
        exact Or.inr ⟨List.mem_cons_of_mem _ h1, h2.1, h2.2⟩
    · rename_i hq
      split at h
      · rcases pt_st1_mem h with h | h
        · exact Or.inl h
        · exact Or.inr ⟨List.mem_cons_of_mem _ h.1, h.2⟩
      · rename_i hq2
        rcases List.mem_cons.mp h with h | h
        · subst h
          exact Or.inr ⟨List.mem_cons_self, hq, hq2⟩
        · rcases pt_st1_mem h with h | h
          · exact Or.inl h
          · exact Or.inr ⟨List.mem_cons_of_mem _ h.1, h.2⟩
def pt_st2 (l : List (Nat × pt_V)) (i : Nat) (v : pt_V) : List (Nat × pt_V) := l.filter (fun z => !(Nat.beq z.1 i) && (!(Nat.beq z.1 (i + 1)) && !(Nat.beq (z.1 + 1) i && pt_isL z.2))) ++ [(i, v)]
theorem pt_beq (a b : Nat) : Nat.beq a b = (a == b) := by
  rw [Bool.eq_iff_iff]
  simp [Nat.beq_eq]
theorem pt_has1 {ad : Nat → Nat → Nat} {ls : Array Slot} {n i : Nat} {l : List (Nat × pt_V)} {v : pt_V} (h : lv_has ls n ((i, pt_cv ad v) :: (pt_cl ad l).filter (fun q => !(q.1 == i) && !(q.1 + 1 == i && q.2.category == 2)))) : lv_has ls n (pt_cl ad (pt_st1 l i v)) := by
  refine pt_has_sub h ?_
  intro q hq
  obtain ⟨z, hz, rfl⟩ := List.mem_map.mp hq
  rcases pt_st1_mem hz with rfl | ⟨h1, h2, h3⟩
  · exact List.mem_cons_self
  · refine List.mem_cons_of_mem _ (List.mem_filter.mpr ⟨List.mem_map.mpr ⟨z, h1, rfl⟩, ?_⟩)
    rw [pt_beq] at h2 h3
    have hc := pt_cat ad z.2
    cases hL : pt_isL z.2 <;> simp_all
theorem pt_has2 {ad : Nat → Nat → Nat} {ls : Array Slot} {n i : Nat} {l : List (Nat × pt_V)} {v : pt_V} (h : lv_has ls n ((i, pt_cv ad v) :: (pt_cl ad l).filter (fun q => !(q.1 == i) && (!(q.1 == i + 1) && !(q.1 + 1 == i && q.2.category == 2))))) : lv_has ls n (pt_cl ad (pt_st2 l i v)) := by
  refine pt_has_sub h ?_
  intro q hq
  obtain ⟨z, hz, rfl⟩ := List.mem_map.mp hq
  rcases List.mem_append.mp hz with hz | hz
  · obtain ⟨h1, h2⟩ := List.mem_filter.mp hz
    refine List.mem_cons_of_mem _ (List.mem_filter.mpr ⟨List.mem_map.mpr ⟨z, h1, rfl⟩, ?_⟩)
    have hc := pt_cat ad z.2
    simp only [pt_beq] at h2
    cases hL : pt_isL z.2 <;> simp_all
  · rw [List.mem_singleton.mp hz]
    exact List.mem_cons_self
end
section
/-! reading and writing the memory: what it does to the heap's picture -/
theorem pt_one {D : va_G} {q : Nat × va_E} {H : Heap} (h : va_at D vwCl q H) : va_P D vwCl [q] H := by
  intro k z hz
  cases k with
  | zero => cases hz; exact h
  | succ k => cases hz
theorem pt_Hd.at {D : va_G} {ad : Nat → Nat → Nat} {cA : Nat → ClassId} {M : pt_M} {H : Heap} (h : pt_Hd D ad cA M H) {k i : Nat} {e : va_E} (hi : i < pt_ct k) (he : pt_ce ad cA M k i = some e) : va_P D vwCl [(ad k i, e)] H := pt_one (h k i e hi he)
theorem pt_dm_of {ad : Nat → Nat → Nat} {cA : Nat → ClassId} {M : pt_M} {k i : Nat} {e : va_E} (hi : i < pt_ct k) (he : pt_ce ad cA M k i = some e) : pt_dm k i := by
  refine ⟨hi, ?_⟩
  unfold pt_ce at he
  cases h : pt_ob k with
  | some q => exact Or.inl (by simp)
  | none =>
    rw [h] at he
    cases h2 : pt_ak k with
    | some q => exact Or.inr (by simp)
    | none => rw [h2] at he; cases he
/-- a cell is written: the heap holds the memory in which that cell alone is another -/
theorem pt_Hd.put {D : va_G} {ad : Nat → Nat → Nat} {cA : Nat → ClassId} {M M' : pt_M} {H H1 : Heap} {s : State} (hW : pt_Wd D ad cA s) (h : pt_Hd D ad cA M H) {k i : Nat} {e : va_E} (hd : pt_dm k i) (he : pt_ce ad cA M' k i = some e) (h1 : va_at D vwCl (ad k i, e) H1) (hq : ∀ q, q ≠ ad k i → H1[q]? = H[q]?)
    (ho : ∀ k' i', i' < pt_ct k' → ¬ (k' = k ∧ i' = i) → pt_ce ad cA M' k' i' = pt_ce ad cA M k' i') : pt_Hd D ad cA M' H1 := by
  intro k' i' e' hi' he'
  by_cases hk : k' = k ∧ i' = i
  · obtain ⟨rfl, rfl⟩ := hk
    rw [he] at he'
    cases he'
    exact h1
  · rw [ho k' i' hi' hk] at he'
    have hd' := pt_dm_of hi' he'
    refine (h k' i' e' hi' he').kept (hq _ fun z => hk ?_)
    exact hW.2 k' i' k i hd' hd z
theorem pt_fv_wF {M : pt_M} {k f i k' f' i' : Nat} {v : Int32} (h : ¬ (k' = k ∧ i' = i)) : pt_fv (pt_wF M k f i v) k' f' i' = pt_fv M k' f' i' := by
  unfold pt_fv
  split
  · rename_i h0
    have : pt_F (pt_wF M k f i v) k' f' i' = pt_F M k' f' i' := if_neg fun z => h ⟨z.1, z.2.2⟩
    rw [this]
  · rfl
  · rfl
theorem pt_ce_wF {ad : Nat → Nat → Nat} {cA : Nat → ClassId} {M : pt_M} {k f i k' i' : Nat} {v : Int32} (h : ¬ (k' = k ∧ i' = i)) : pt_ce ad cA (pt_wF M k f i v) k' i' = pt_ce ad cA M k' i' := by
  unfold pt_ce
  cases pt_ob k' with
  | some q => simp only [pt_fv_wF h]
  | none => rfl
theorem pt_ce_wA {ad : Nat → Nat → Nat} {cA : Nat → ClassId} {M : pt_M} {k i k' i' : Nat} {g : Nat → Int32} (h : ¬ (k' = k ∧ i' = i)) : pt_ce ad cA (pt_wA M k i g) k' i' = pt_ce ad cA M k' i' := by
  unfold pt_ce
  cases pt_ob k' with
  | some q => rfl
  | none =>
    have : pt_A (pt_wA M k i g) k' i' = pt_A M k' i' := if_neg h
    rw [this]
    rfl
theorem pt_A_wA {M : pt_M} {k i : Nat} {g : Nat → Int32} : pt_A (pt_wA M k i g) k i = g := if_pos ⟨rfl, rfl⟩
theorem pt_G_wG {M : pt_M} {k : Nat} {g : Nat → Int64} : pt_G (pt_wG M k g) k = g := if_pos rfl
theorem pt_ce_wG {ad : Nat → Nat → Nat} {cA : Nat → ClassId} {M : pt_M} {k k' i' : Nat} {g : Nat → Int64} (h : ¬ k' = k) : pt_ce ad cA (pt_wG M k g) k' i' = pt_ce ad cA M k' i' := by
  unfold pt_ce
  cases pt_ob k' with
  | some q => rfl
  | none =>
    have : pt_G (pt_wG M k g) k' = pt_G M k' := if_neg h
    rw [this]
    rfl
/-- the arrays' classes -/
theorem pt_Wd.ar {D : va_G} {ad : Nat → Nat → Nat} {cA : Nat → ClassId} {s : State} (h : pt_Wd D ad cA s) : va_K D vwCl [(cA 0, .int), (cA 1, .byte), (cA 2, .long), (cA 3, .object "PointTables$Table")] s := h.1
def pt_in (i : Int32) (n : Nat) : Prop := 0 ≤ i.toInt ∧ i.toInt < n
theorem pt_in_vp {i : Int32} {n : Nat} (h : pt_in i n) : vp_in i n := vp_in_iff.mpr h
def pt_nt (i : Int32) : Nat := i.toNatClampNeg
/-- the arrays of ints and bytes have that cell -/
theorem pt_ce_a {ad : Nat → Nat → Nat} {cA : Nat → ClassId} {M : pt_M} {k i t n : Nat} (h0 : pt_ob k = none) (ha : pt_ak k = some (t, n)) (ht : t < 2) : pt_ce ad cA M k i = some (.inl (cA t, n, .inl (pt_A M k i))) := by
  unfold pt_ce
  rw [h0, ha]
  match t, ht with
  | 0, _ => rfl
  | 1, _ => rfl
theorem pt_ce_l {ad : Nat → Nat → Nat} {cA : Nat → ClassId} {M : pt_M} {k i n : Nat} (h0 : pt_ob k = none) (ha : pt_ak k = some (2, n)) : pt_ce ad cA M k i = some (.inl (cA 2, n, .inr (.inl (pt_G M k)))) := by
  unfold pt_ce
  rw [h0, ha]
  rfl
theorem pt_ce_q {ad : Nat → Nat → Nat} {cA : Nat → ClassId} {M : pt_M} {k i n : Nat} (h0 : pt_ob k = none) (ha : pt_ak k = some (3, n)) : pt_ce ad cA M k i = some (.inl (cA 3, n, .inr (.inr (.inr (.inr fun p => some (ad 3 (pt_R M (p + 1)))))))) := by
  unfold pt_ce
  rw [h0, ha]
  rfl
theorem pt_ce_o {ad : Nat → Nat → Nat} {cA : Nat → ClassId} {M : pt_M} {k i ci n : Nat} (h0 : pt_ob k = some (ci, n)) : pt_ce ad cA M k i = some (.inr (ci, (List.range n).map fun f => pt_cv ad (pt_fv M k f i))) := by
  unfold pt_ce
  rw [h0]
theorem pt_ob_ak : ∀ {k : Nat} {q : Nat × Nat}, pt_ak k = some q → pt_ob k = none := by
  intro k q h
  unfold pt_ak at h
  split at h <;> first | rfl | cases h

theorem pt_gd {l : List Nat} (h : ∀ x ∈ l, x ≠ 1) (f : Nat) : l.getD f 0 ≠ 1 := by
  rw [List.getD_eq_getElem?_getD]
  cases hf : l[f]? with
  | none => exact fun z => by cases z
  | some x => exact h x (List.mem_of_getElem? hf)
theorem pt_fs1 {k f : Nat} (h : pt_fs k f = 1) : k = 2 := by
  unfold pt_fs at h
  split at h
  · rfl
  · exact absurd h (pt_gd (by decide) f)
  · exact absurd h (pt_gd (by decide) f)
  · exact absurd h (pt_gd (by decide) f)
  · exact absurd h (pt_gd (by decide) f)
  · exact absurd h (pt_gd (by decide) f)
  · cases h
end
section
def pt_flT : List (List (Nat × Nat × Nat)) := [
  [(11, 2, 0), (16, 2, 1), (23, 2, 2), (30, 2, 3), (37, 2, 4), (41, 2, 5), (45, 2, 6), (49, 2, 7), (52, 2, 8), (55, 2, 9), (58, 2, 10), (61, 2, 11), (64, 4, 1), (134, 3, 0), (208, 3, 4), (215, 3, 5), (233, 6, 0)],
  [(9, 3, 0), (15, 3, 1), (19, 3, 2), (22, 3, 3), (26, 3, 4), (29, 3, 5)],
  [(9, 4, 0), (15, 4, 1)],
  [(9, 5, 0), (19, 3, 4), (24, 3, 5), (27, 3, 0), (39, 3, 3)],
  [(9, 6, 0), (15, 6, 1), (18, 6, 2), (21, 6, 3), (24, 4, 1), (51, 3, 0)],
  [(7, 3, 2), (22, 3, 0)],
  [(9, 3, 0)],
  [(7, 7, 1), (13, 7, 4), (17, 7, 5), (20, 7, 6), (24, 7, 7), (27, 7, 8), (31, 7, 9), (34, 7, 10), (37, 7, 11), (40, 7, 12), (43, 7, 13), (46, 7, 14), (49, 7, 15), (52, 7, 17), (55, 7, 18), (58, 7, 19), (61, 7, 20), (64, 7, 0), (67, 7, 2), (74, 7, 3), (174, 7, 16)],
  [],
  [],
  [],
  []]

def pt_fd : List (Nat × Nat × Nat) → Nat → Option (Nat × Nat)
  | [], _ => none
  | q :: t, i => match Nat.beq q.1 i with
    | true => some q.2
    | false => pt_fd t i
theorem pt_fd_mem : ∀ {l : List (Nat × Nat × Nat)} {i : Nat} {v : Nat × Nat}, pt_fd l i = some v → (i, v) ∈ l
  | [], _, _, h => by cases h
  | q :: t, i, v, h => by
    unfold pt_fd at h
    split at h
    · rename_i hq
      cases h
      have : q.1 = i := Nat.eq_of_beq_eq_true hq
      subst this
      exact List.mem_cons_self
    · exact List.mem_cons_of_mem _ (pt_fd_mem h)
def pt_fl (cn idx : Nat) : Option (Nat × Nat) := pt_fd (pt_flT.getD cn []) idx
def pt_flB (cn : Nat) (q : Nat × Nat × Nat) : Bool := match pt_ob q.2.1 with
  | none => false
  | some z => match vwCl[z.1]? with
    | none => false
    | some c => decide (c.2.2 = z.2) && decide (q.2.2 < z.2) && decide (Cond.fieldLink (pt_own cn) q.1 (c.2.1 q.2.2).1 (c.2.1 q.2.2).2.1 (c.2.1 q.2.2).2.2.1 ∈ pt_tb)
set_option maxRecDepth 100000 in
theorem pt_flT_ok : (List.range 12).all (fun cn => (pt_flT.getD cn []).all (pt_flB cn)) = true := by decide +kernel
theorem pt_fl_ok {cn idx k f : Nat} (h : pt_fl cn idx = some (k, f)) : ∃ ci N C T, pt_ob k = some (ci, N) ∧ vwCl[ci]? = some (C, T, N) ∧ f < N ∧ Cond.fieldLink (pt_own cn) idx (T f).1 (T f).2.1 (T f).2.2.1 ∈ pt_tb := by
  have h1 := pt_fd_mem h
  have hcn : cn < 12 := by
    rcases Nat.lt_or_ge cn 12 with q | q
    · exact q
    · have : pt_flT.getD cn [] = [] := by
        rw [List.getD_eq_getElem?_getD, List.getElem?_eq_none (by exact q)]
        rfl
      rw [this] at h1
      cases h1
  have h2 := List.all_eq_true.mp (List.all_eq_true.mp pt_flT_ok cn (List.mem_range.mpr hcn)) _ h1
  unfold pt_flB at h2
  split at h2
  · cases h2
  · rename_i z hz
    split at h2
    · cases h2
    · rename_i c hc
      simp only [Bool.and_eq_true, decide_eq_true_eq] at h2
      obtain ⟨ci, N⟩ := z
      obtain ⟨C, T, N'⟩ := c
      obtain ⟨⟨e1, e2⟩, e3⟩ := h2
      dsimp only at e1 e2 e3 hz hc
      subst e1
      exact ⟨ci, N', C, T, hz, hc, e2, e3⟩
def pt_t0 (T : u_T) (k : Nat) : FieldType := (parseFieldDescriptor (T k).2.2.1).getD .int
set_option maxRecDepth 100000 in
theorem pt_us : vwCl.all (fun q => (u_ws q.1 q.2.1 q.2.2).all (fun w => decide (w ∈ pt_tb))) = true := by decide +kernel
theorem pt_us' {ci : Nat} {C : String} {T : u_T} {N : Nat} (h : vwCl[ci]? = some (C, T, N)) : ∀ w ∈ u_ws C T N, w ∈ pt_tb := by
  intro w hw
  have h1 := List.all_eq_true.mp pt_us _ (List.mem_of_getElem? h)
  exact of_decide_eq_true (List.all_eq_true.mp h1 w hw)
theorem pt_t0_of {T : u_T} {ty : Nat → FieldType} {N : Nat} (h : ∀ k, k < N → parseFieldDescriptor (T k).2.2.1 = some (ty k)) : ∀ k, k < N → parseFieldDescriptor (T k).2.2.1 = some (pt_t0 T k) := by
  intro k hk
  unfold pt_t0
  rw [h k hk]
  rfl
theorem pt_tn {ci : Nat} {C : String} {T : u_T} {N : Nat} (h : vwCl[ci]? = some (C, T, N)) : (∀ k, k < N → parseFieldDescriptor (T k).2.2.1 = some (pt_t0 T k)) ∧ ∀ a, a < N → ∀ b, b < N → a ≠ b → (T a).2.1 ≠ (T b).2.1 := by
  match ci, h with
  | 0, h => cases h; exact ⟨pt_t0_of tyX0_ok, nmX0⟩
  | 1, h => cases h; exact ⟨pt_t0_of tyX3_ok, nmX3⟩
  | 2, h => cases h; exact ⟨pt_t0_of tyX4_ok, nmX4⟩
  | 3, h => cases h; exact ⟨pt_t0_of tyX5_ok, nmX5⟩
  | 4, h => cases h; exact ⟨pt_t0_of tyX6_ok, nmX6⟩
  | 5, h => cases h; exact ⟨pt_t0_of tyX7_ok, nmX7⟩
  | n + 6, h => cases h
section PTM
variable {p : Program} {l : Launch} {e : Env} {R : Room} {s : State} {m : MethodId} {args : Array Value} {below : List Frame} {meth : Method} {c : Code} {H : Heap} {locs : List Loc} {cells slots : Nat} {Q : State → Prop}
variable {cc : ByteArray} {pc : Nat} {ls : Array Slot} {rest : List Value} {D : va_G} {A : Nat → Prop} {tys : List (ClassId × FieldType)}
/-- a field is written; all other cells stay -/
theorem pt_putW {a : Nat} (hexec : p.tables.exec = Jvm.exec) (hb : c.code = cc) {own : String} {ci index : Nat} {C : String} {T : u_T} {N : Nat} (hts : ∀ w ∈ pt_tb, w.before args s = true) (hown : s.vm.findClass own = some m.cls) (hK : va_K D vwCl tys s) (hS0 : va_S A s.heap H locs) {fs : List Value} (he : va_at D vwCl (a, .inr (ci, fs)) H) (hc : vwCl[ci]? = some (C, T, N)) (k : Nat) (hk : k < N) (hlink : Cond.fieldLink own index (T k).1 (T k).2.1 (T k).2.2.1 ∈ pt_tb) (hfin : (T k).2.2.2 = false) {v : Value} (hn : narrow (pt_t0 T k) v = v) (hfit : fits (pt_t0 T k) v = true) (hl : k < fs.length) (hAa : A a)
    (hdg : decode cc pc = .ok (.putfield index, 3)) (kk : ∀ (H1 : Heap) (locs1 : List Loc), va_at D vwCl (a, .inr (ci, fs.set k v)) H1 → (∀ q, q ≠ a → H1[q]? = H[q]?) → va_S A s.heap H1 locs1 → W p l e R s m args below meth c H1 locs1 cells slots Q (F0 m (pc + 3) ls rest)) : W p l e R s m args below meth c H locs cells slots Q (F0 m pc ls (v :: .ref a :: rest)) := by
  have hin := pt_us' hc
  obtain ⟨hty, hnm⟩ := pt_tn hc
  have hap := va_apart (own := own) hts hin (pt_t0 T) hty hnm hK hc
  obtain ⟨r, h1, cell, q1, q2, q3, q4⟩ := he
  have hr : r = (C, T, N) := Option.some.inj (h1.symm.trans hc)
  subst hr
  obtain ⟨hS, hfc, kC, hkC, hkind⟩ := hK.1 ci _ hc
  obtain ⟨cf, kf, fi, f, hi, hsl⟩ := hS k hk
  have hlay := hts _ (hin _ (u_in_lay hk))
  unfold u_lay at hlay
  rw [if_neg (by rw [hfin]; decide)] at hlay
  have hst := (u_facts hfc hkC (u_lays hts hin hk) hi).1
  have h6 := u_store hfc hkC hkind hlay hi (hty k hk) hn hfit
  refine W.putK hexec hb (f := f) ⟨hown, hts _ hlink, ⟨_, _, _, hi⟩, hst⟩ (by rw [q2]; exact h6) q1 q3 (by rw [hsl]; exact k2_hasslot (q4 k hk)) rfl rfl hdg fun H' e1 e2 e3 => ?_
  rw [hsl] at e1 ⊢
  exact kk H' _ ⟨_, hc, t_OB.to (V := updV (vp_V fs) k v) ⟨_, e1, q2, q3, t_set q4 hap hk v⟩ (fun j _ => vp_updV_set hl v j)⟩ e3 (hS0.put e2 e3 hAa)
theorem pt_iastW {a : Nat} (hexec : p.tables.exec = Jvm.exec) (hb : c.code = cc) (hK : va_K D vwCl tys s) (hS : va_S A s.heap H locs) (t0 : Nat) {cA : ClassId} {n : Nat} {f : Nat → Int32} (ha : va_at D vwCl (a, .inl (cA, n, .inl f)) H) (ht : tys[t0]? = some (cA, .int)) {i : Int32} {x : Int32} (hin : vp_in i n) (hAa : A a) (hdg : decode cc pc = .ok (.iastore, 1))
    (kk : ∀ (H1 : Heap) (locs1 : List Loc), va_at D vwCl (a, .inl (cA, n, .inl (upd f i.toNatClampNeg x))) H1 → (∀ q, q ≠ a → H1[q]? = H[q]?) → va_S A s.heap H1 locs1 → W p l e R s m args below meth c H1 locs1 cells slots Q (F0 m (pc + 1) ls rest)) : W p l e R s m args below meth c H locs cells slots Q (F0 m pc ls (.int x :: .int i :: .ref a :: rest)) := by
  refine W.iast hexec hb ha ((hK.2 t0 _ ht).1 n (fun j => .int (f j))) (fun q => by cases q) (by show ¬ (i < 0 ∨ (arrV _ _ _).slots.size ≤ _); rw [arrV_size]; exact hin) rfl rfl hdg fun H1 e z oq => ?_
  refine kk H1 _ ?_ oq (hS.put z oq hAa)
  show H1[a]? = some (vp_cell _ _)
  rw [e, vp_cell_i, vp_cell_i, arrV_store]
  congr 2
  funext q
  by_cases hq : q = i.toNatClampNeg
  · subst hq
    simp [updV, upd]
  · simp [updV, upd, hq]
theorem pt_bastW {a : Nat} (hexec : p.tables.exec = Jvm.exec) (hb : c.code = cc) (hK : va_K D vwCl tys s) (hS : va_S A s.heap H locs) (t0 : Nat) {cA : ClassId} {n : Nat} {f : Nat → Int32} (ha : va_at D vwCl (a, .inl (cA, n, .inl f)) H) (ht : tys[t0]? = some (cA, .byte)) {i : Int32} {x : Int32} (hin : vp_in i n) (hAa : A a) (hdg : decode cc pc = .ok (.bastore, 1))
    (kk : ∀ (H1 : Heap) (locs1 : List Loc), va_at D vwCl (a, .inl (cA, n, .inl (upd f i.toNatClampNeg x.toInt8.toInt32))) H1 → (∀ q, q ≠ a → H1[q]? = H[q]?) → va_S A s.heap H1 locs1 → W p l e R s m args below meth c H1 locs1 cells slots Q (F0 m (pc + 1) ls rest)) : W p l e R s m args below meth c H locs cells slots Q (F0 m pc ls (.int x :: .int i :: .ref a :: rest)) := by
  refine W.bast hexec hb ha ((hK.2 t0 _ ht).1 n (fun j => .int (f j))) (fun q => by cases q) (by show ¬ (i < 0 ∨ (arrV _ _ _).slots.size ≤ _); rw [arrV_size]; exact hin) rfl rfl hdg fun H1 e z oq => ?_
  refine kk H1 _ ?_ oq (hS.put z oq hAa)
  show H1[a]? = some (vp_cell _ _)
  rw [e, vp_cell_i, vp_cell_i, arrV_store]
  congr 2
  funext q
  by_cases hq : q = i.toNatClampNeg
  · subst hq
    simp [updV, upd, narrow_byte]
  · simp [updV, upd, hq]
theorem pt_lastW {a : Nat} (hexec : p.tables.exec = Jvm.exec) (hb : c.code = cc) (hK : va_K D vwCl tys s) (hS : va_S A s.heap H locs) (t0 : Nat) {cA : ClassId} {n : Nat} {f : Nat → Int64} (ha : va_at D vwCl (a, .inl (cA, n, .inr (.inl f))) H) (ht : tys[t0]? = some (cA, .long)) {i : Int32} {x : Int64} (hin : vp_in i n) (hAa : A a) (hdg : decode cc pc = .ok (.lastore, 1))
    (kk : ∀ (H1 : Heap) (locs1 : List Loc), va_at D vwCl (a, .inl (cA, n, .inr (.inl (vp_updL f i.toNatClampNeg x)))) H1 → (∀ q, q ≠ a → H1[q]? = H[q]?) → va_S A s.heap H1 locs1 → W p l e R s m args below meth c H1 locs1 cells slots Q (F0 m (pc + 1) ls rest)) : W p l e R s m args below meth c H locs cells slots Q (F0 m pc ls (.long x :: .int i :: .ref a :: rest)) := by
  refine W.last hexec hb ha ((hK.2 t0 _ ht).1 n (fun j => .long (f j))) (fun q => by cases q) (by show ¬ (i < 0 ∨ (arrV _ _ _).slots.size ≤ _); rw [arrV_size]; exact hin) rfl rfl hdg fun H1 e z oq => ?_
  refine kk H1 _ ?_ oq (hS.put z oq hAa)
  show H1[a]? = some (vp_cell _ _)
  rw [e, vp_cell_l, vp_cell_l, arrV_store]
  congr 2
  funext q
  by_cases hq : q = i.toNatClampNeg
  · subst hq
    simp [updV, vp_updL]
  · simp [updV, vp_updL, hq]
theorem pt_aastW {a v : Nat} (hexec : p.tables.exec = Jvm.exec) (hb : c.code = cc) (hK : va_K D vwCl tys s) (hS : va_S A s.heap H locs) (t0 ci : Nat) {cA : ClassId} {r : vw_C} {n : Nat} {vs : List Value} {f : Nat → Option Nat} (ha : va_at D vwCl (a, .inl (cA, n, .inr (.inr (.inr (.inr f))))) H) (ht : tys[t0]? = some (cA, .object r.1)) (hv : va_at D vwCl (v, .inr (ci, vs)) H) (hc : vwCl[ci]? = some r) {i : Int32} (hin : vp_in i n) (hAa : A a) (hdg : decode cc pc = .ok (.aastore, 1))
    (kk : ∀ (H1 : Heap) (locs1 : List Loc), va_at D vwCl (a, .inl (cA, n, .inr (.inr (.inr (.inr (va_up f i.toNatClampNeg (some v))))))) H1 → (∀ q, q ≠ a → H1[q]? = H[q]?) → va_S A s.heap H1 locs1 → W p l e R s m args below meth c H1 locs1 cells slots Q (F0 m (pc + 1) ls rest)) : W p l e R s m args below meth c H locs cells slots Q (F0 m pc ls (.ref v :: .int i :: .ref a :: rest)) := by
  have hlt : i.toNatClampNeg < n := Nat.not_le.mp fun q => hin (Or.inr q)
  have h0 : ¬ i < 0 := fun q => hin (Or.inl q)
  obtain ⟨r', hr', cellV, g1, g2, g3, -⟩ := hv
  have hcls := (hK.1 ci r hc).2
  obtain ⟨kA, comp, k1, k2, k3, -⟩ := (hK.2 t0 _ ht).2
  have hcomp : comp = D.1 ci := Option.some.inj (k3.symm.trans hcls.1)
  subst hcomp
  obtain ⟨kC, hkC, -⟩ := hcls.2
  refine W.aast hexec hb ha (fun q h => by cases h) (fun h => by cases h) k1 k2 rfl hkC ⟨h0, by show _ < (arrV _ _ _).slots.size; rw [arrV_size]; exact hlt⟩ g1 (fun q h => by rw [g3] at h; cases h) (by rw [g2]; exact hkC) (by rw [g2]; exact va_assign hcls) rfl rfl hdg fun H1 e z oq => ?_
  refine kk H1 _ ?_ oq (hS.put z oq hAa)
  show H1[a]? = some (vp_cell _ _)
  rw [e, vp_cell_q, vp_cell_q, arrV_store]
  congr 2
  funext q
  by_cases hq : q = i.toNatClampNeg
  · subst hq
    simp [updV, va_up, va_rf]
  · simp [updV, va_up, hq]
end PTM
end
section
/-! one instruction, as a step of the abstract machine -/
theorem pt_k1 {k : Nat} (h : k ≠ 0) : ∃ n, k = n + 1 := ⟨k - 1, by omega⟩
theorem pt_ob0 {k : Nat} {q : Nat × Nat} (h : pt_ob k = some q) : ∃ n, k = n + 1 := by
  apply pt_k1
  rintro rfl
  cases h
theorem pt_ak0 {k : Nat} {q : Nat × Nat} (h : pt_ak k = some q) : ∃ n, k = n + 1 := by
  apply pt_k1
  rintro rfl
  cases h
theorem pt_getf {Y : pt_Y} {pc idx k f i : Nat} {L : List (Nat × pt_V)} {st : List pt_V} {M : pt_M} (hf : pt_fl Y.1 idx = some (k, f)) (hi : i < pt_ct k) (hd : decode Y.2.1 pc = .ok (.getfield idx, 3)) : pt_Go Y (pc, L, pt_r k i :: st, M) (pc + 3, L, pt_fv M k f i :: st, M) := by
  obtain ⟨ci, N, C, T, h1, h2, h3, h4⟩ := pt_fl_ok hf
  obtain ⟨k, rfl⟩ := pt_ob0 h1
  intro p l e s m args below meth c D ad cA A cells slots Q hC hA H locs ls g1 g2 g3 g4
  obtain ⟨hx, hb, hr, hml, hown, hts, hlk, hW, hAd⟩ := hC
  have hP := g1.at hi (pt_ce_o (ad := ad) (cA := cA) (M := M) (i := i) h1)
  exact va_get hx hb hts (pt_us' h2) hown hW.1 hP 0 rfl h2 f h3 (hts _ h4) (fun _ z => z) (v := pt_cv ad (pt_fv M (k + 1) f i)) (by simp [h3]) hd (hA H locs ls g1 g2 g3 g4)
/-- a number is written into a field; b: it is a boolean -/
theorem pt_putf {Y : pt_Y} {pc idx k f i : Nat} {x : Int32} {L : List (Nat × pt_V)} {st : List pt_V} {M : pt_M} (hf : pt_fl Y.1 idx = some (k, f)) (hi : i < pt_ct k) (hs : pt_fs k f = 0) (hw : ∀ ci C T N, pt_ob k = some (ci, N) → vwCl[ci]? = some (C, T, N) → (T f).2.2.2 = false ∧ narrow (pt_t0 T f) (.int x) = .int x ∧ fits (pt_t0 T f) (.int x) = true) (hd : decode Y.2.1 pc = .ok (.putfield idx, 3)) : pt_Go Y (pc, L, pt_i x :: pt_r k i :: st, M) (pc + 3, L, st, pt_wF M k f i x) := by
  obtain ⟨ci, N, C, T, h1, h2, h3, h4⟩ := pt_fl_ok hf
  obtain ⟨w1, w2, w3⟩ := hw ci C T N h1 h2
  obtain ⟨k, rfl⟩ := pt_ob0 h1
  intro p l e s m args below meth c D ad cA A cells slots Q hC hA H locs ls g1 g2 g3 g4
  obtain ⟨hx, hb, hr, hml, hown, hts, hlk, hW, hAd⟩ := hC
  have hce := pt_ce_o (ad := ad) (cA := cA) (M := M) (i := i) h1
  have hdm := pt_dm_of hi hce
  refine pt_putW hx hb hts hown hW.1 g3 (g1 _ _ _ hi hce) h2 f h3 h4 w1 w2 w3 (by simp [h3]) (hAd _ _ hdm) hd fun H1 locs1 e1 e2 e3 => ?_
  refine hA H1 locs1 ls ?_ g2 e3 g4
  refine g1.put hW hdm (pt_ce_o (ad := ad) (cA := cA) (M := pt_wF M (k + 1) f i x) (i := i) h1) ?_ e2 (fun k' i' _ h => pt_ce_wF h)
  have : (List.range N).map (fun f' => pt_cv ad (pt_fv (pt_wF M (k + 1) f i x) (k + 1) f' i)) = ((List.range N).map (fun f' => pt_cv ad (pt_fv M (k + 1) f' i))).set f (.int x) := by
    apply List.ext_getElem?
    intro j
    rw [List.getElem?_set]
    by_cases hj : f = j
    · subst hj
      simp only [List.getElem?_map, List.length_map, List.length_range, h3, List.getElem?_range, if_true, Option.map_some]
      congr 1
      unfold pt_fv
      rw [hs]
      show Value.int (if _ then x else _) = _
      rw [if_pos ⟨rfl, rfl, rfl⟩]
    · rw [if_neg hj]
      simp only [List.getElem?_map]
      cases hr : (List.range N)[j]? with
      | none => rfl
      | some z =>
        have hz : j = z := by
          obtain ⟨hz1, hz2⟩ := List.getElem?_eq_some_iff.mp hr
          simpa using hz2
        subst hz
        simp only [Option.map_some]
        congr 2
        unfold pt_fv
        split
        · have : pt_F (pt_wF M (k + 1) f i x) (k + 1) j i = pt_F M (k + 1) j i := if_neg fun z => hj z.2.1.symm
          rw [this]
        · rfl
        · rfl
  rw [this]
  exact e1
/-- the spare is another table -/
theorem pt_putS {Y : pt_Y} {pc idx t : Nat} {L : List (Nat × pt_V)} {st : List pt_V} {M : pt_M} (hf : pt_fl Y.1 idx = some (2, 1)) (hd : decode Y.2.1 pc = .ok (.putfield idx, 3)) : pt_Go Y (pc, L, pt_r 3 t :: pt_r 2 0 :: st, M) (pc + 3, L, st, pt_wR M 0 t) := by
  obtain ⟨ci, N, C, T, h1, h2, h3, h4⟩ := pt_fl_ok hf
  cases h1
  cases h2
  intro p l e s m args below meth c D ad cA A cells slots Q hC hA H locs ls g1 g2 g3 g4
  obtain ⟨hx, hb, hr, hml, hown, hts, hlk, hW, hAd⟩ := hC
  have hi : 0 < pt_ct 2 := by decide
  have hce := pt_ce_o (ad := ad) (cA := cA) (M := M) (i := 0) (k := 2) (ci := 4) (n := 12) rfl
  have hdm := pt_dm_of hi hce
  have hty : pt_t0 TX6 1 = .object "PointTables$Table" := by decide +kernel
  refine pt_putW hx hb hts hown hW.1 g3 (g1 _ _ _ hi hce) rfl 1 h3 h4 rfl (v := .ref (ad 3 t)) (by rw [hty]; rfl) (by rw [hty]; rfl) (by simp) (hAd _ _ hdm) hd fun H1 locs1 e1 e2 e3 => ?_
  refine hA H1 locs1 ls ?_ g2 e3 g4
  refine g1.put hW hdm (pt_ce_o (ad := ad) (cA := cA) (M := pt_wR M 0 t) (i := 0) (k := 2) (ci := 4) (n := 12) rfl) e1 e2 (fun k' i' hi9 h => ?_)
  unfold pt_ce
  cases hk : pt_ob k' with
  | none => rfl
  | some q =>
    simp only [Option.some.injEq, Sum.inr.injEq, Prod.mk.injEq, true_and]
    apply List.map_congr_left
    intro f hf9
    congr 1
    unfold pt_fv
    split
    · rfl
    · rename_i hfs
      exfalso
      have := pt_fs1 hfs
      subst this
      exact h ⟨rfl, Nat.lt_one_iff.mp hi9⟩
    · rfl
/-- arrays: reading -/
theorem pt_iald {Y : pt_Y} {pc k i n : Nat} {j : Int32} {L : List (Nat × pt_V)} {st : List pt_V} {M : pt_M} (ha : pt_ak k = some (0, n)) (hi : i < pt_ct k) (hj : pt_in j n) (hd : decode Y.2.1 pc = .ok (.iaload, 1)) : pt_Go Y (pc, L, pt_i j :: pt_r k i :: st, M) (pc + 1, L, pt_i (pt_A M k i (pt_nt j)) :: st, M) := by
  obtain ⟨k, rfl⟩ := pt_ak0 ha
  intro p l e s m args below meth c D ad cA A cells slots Q hC hA H locs ls g1 g2 g3 g4
  obtain ⟨hx, hb, hr, hml, hown, hts, hlk, hW, hAd⟩ := hC
  exact va_iald hx hb hW.1 (g1.at hi (pt_ce_a (pt_ob_ak ha) ha (by decide))) 0 0 rfl rfl (pt_in_vp hj) hd (hA H locs ls g1 g2 g3 g4)
theorem pt_bald {Y : pt_Y} {pc k i n : Nat} {j : Int32} {L : List (Nat × pt_V)} {st : List pt_V} {M : pt_M} (ha : pt_ak k = some (1, n)) (hi : i < pt_ct k) (hj : pt_in j n) (hd : decode Y.2.1 pc = .ok (.baload, 1)) : pt_Go Y (pc, L, pt_i j :: pt_r k i :: st, M) (pc + 1, L, pt_i (pt_A M k i (pt_nt j)) :: st, M) := by
  obtain ⟨k, rfl⟩ := pt_ak0 ha
  intro p l e s m args below meth c D ad cA A cells slots Q hC hA H locs ls g1 g2 g3 g4
  obtain ⟨hx, hb, hr, hml, hown, hts, hlk, hW, hAd⟩ := hC
  exact va_bald hx hb hW.1 (g1.at hi (pt_ce_a (pt_ob_ak ha) ha (by decide))) 0 1 rfl rfl (pt_in_vp hj) hd (hA H locs ls g1 g2 g3 g4)
theorem pt_lald {Y : pt_Y} {pc k i n : Nat} {j : Int32} {L : List (Nat × pt_V)} {st : List pt_V} {M : pt_M} (ha : pt_ak k = some (2, n)) (hi : i < pt_ct k) (hj : pt_in j n) (hd : decode Y.2.1 pc = .ok (.laload, 1)) : pt_Go Y (pc, L, pt_i j :: pt_r k i :: st, M) (pc + 1, L, pt_l (pt_G M k (pt_nt j)) :: st, M) := by
  obtain ⟨k, rfl⟩ := pt_ak0 ha
  intro p l e s m args below meth c D ad cA A cells slots Q hC hA H locs ls g1 g2 g3 g4
  obtain ⟨hx, hb, hr, hml, hown, hts, hlk, hW, hAd⟩ := hC
  exact va_lald hx hb hW.1 (g1.at hi (pt_ce_l (pt_ob_ak ha) ha)) 0 2 rfl rfl (pt_in_vp hj) hd (hA H locs ls g1 g2 g3 g4)
theorem pt_aald {Y : pt_Y} {pc k i n : Nat} {j : Int32} {L : List (Nat × pt_V)} {st : List pt_V} {M : pt_M} (ha : pt_ak k = some (3, n)) (hi : i < pt_ct k) (hj : pt_in j n) (hd : decode Y.2.1 pc = .ok (.aaload, 1)) : pt_Go Y (pc, L, pt_i j :: pt_r k i :: st, M) (pc + 1, L, pt_r 3 (pt_R M (pt_nt j + 1)) :: st, M) := by
  obtain ⟨k, rfl⟩ := pt_ak0 ha
  intro p l e s m args below meth c D ad cA A cells slots Q hC hA H locs ls g1 g2 g3 g4
  obtain ⟨hx, hb, hr, hml, hown, hts, hlk, hW, hAd⟩ := hC
  exact va_aldq hx hb hW.1 (g1.at hi (pt_ce_q (pt_ob_ak ha) ha)) 0 3 rfl rfl (pt_in_vp hj) hd (hA H locs ls g1 g2 g3 g4)
theorem pt_xald {Y : pt_Y} {pc k n : Nat} {f : Nat → Int32} {j : Int32} {L : List (Nat × pt_V)} {st : List pt_V} {M : pt_M} (ha : pt_ro M k = some (n, f)) (hj : pt_in j n) (hd : decode Y.2.1 pc = .ok (.iaload, 1)) : pt_Go Y (pc, L, pt_i j :: pt_r k 0 :: st, M) (pc + 1, L, pt_i (f (pt_nt j)) :: st, M) := by
  obtain ⟨k, rfl⟩ : ∃ n, k = n + 1 := by
    apply pt_k1
    rintro rfl
    cases ha
  intro p l e s m args below meth c D ad cA A cells slots Q hC hA H locs ls g1 g2 g3 g4
  obtain ⟨hx, hb, hr, hml, hown, hts, hlk, hW, hAd⟩ := hC
  obtain ⟨hX, hnA⟩ := g2.1 _ _ ha
  have hlt : ad (k + 1) 0 < s.heap.size := by
    obtain ⟨scr, h1, -⟩ := hX
    exact (Array.getElem?_eq_some_iff.mp h1).1
  exact va_sld hx hb hX hlt hnA g3 (pt_in_vp hj) hd (hA H locs ls g1 g2 g3 g4)
theorem pt_xlen {Y : pt_Y} {pc k n : Nat} {f : Nat → Int32} {L : List (Nat × pt_V)} {st : List pt_V} {M : pt_M} (ha : pt_ro M k = some (n, f)) (hd : decode Y.2.1 pc = .ok (.arraylength, 1)) : pt_Go Y (pc, L, pt_r k 0 :: st, M) (pc + 1, L, pt_i (nI n) :: st, M) := by
  obtain ⟨k, rfl⟩ : ∃ n, k = n + 1 := by
    apply pt_k1
    rintro rfl
    cases ha
  intro p l e s m args below meth c D ad cA A cells slots Q hC hA H locs ls g1 g2 g3 g4
  obtain ⟨hx, hb, hr, hml, hown, hts, hlk, hW, hAd⟩ := hC
  obtain ⟨hX, hnA⟩ := g2.1 _ _ ha
  have hlt : ad (k + 1) 0 < s.heap.size := by
    obtain ⟨scr, h1, -⟩ := hX
    exact (Array.getElem?_eq_some_iff.mp h1).1
  exact va_slen hx hb hX hlt hnA g3 hd (hA H locs ls g1 g2 g3 g4)
theorem pt_alen {Y : pt_Y} {pc k i t n : Nat} {L : List (Nat × pt_V)} {st : List pt_V} {M : pt_M} (ha : pt_ak k = some (t, n)) (ht : t < 2) (hi : i < pt_ct k) (hd : decode Y.2.1 pc = .ok (.arraylength, 1)) : pt_Go Y (pc, L, pt_r k i :: st, M) (pc + 1, L, pt_i (nI n) :: st, M) := by
  obtain ⟨k, rfl⟩ := pt_ak0 ha
  intro p l e s m args below meth c D ad cA A cells slots Q hC hA H locs ls g1 g2 g3 g4
  obtain ⟨hx, hb, hr, hml, hown, hts, hlk, hW, hAd⟩ := hC
  have hP := g1.at hi (pt_ce_a (ad := ad) (cA := cA) (M := M) (i := i) (pt_ob_ak ha) ha ht)
  match t, ht, hP with
  | 0, _, hP => exact va_alen hx hb hW.1 hP 0 0 rfl rfl rfl hd (hA H locs ls g1 g2 g3 g4)
  | 1, _, hP => exact va_alen hx hb hW.1 hP 0 1 rfl rfl rfl hd (hA H locs ls g1 g2 g3 g4)
/-- arrays: writing -/
theorem pt_iast {Y : pt_Y} {pc k i n : Nat} {j x : Int32} {L : List (Nat × pt_V)} {st : List pt_V} {M : pt_M} (ha : pt_ak k = some (0, n)) (hi : i < pt_ct k) (hj : pt_in j n) (hd : decode Y.2.1 pc = .ok (.iastore, 1)) : pt_Go Y (pc, L, pt_i x :: pt_i j :: pt_r k i :: st, M) (pc + 1, L, st, pt_wA M k i (upd (pt_A M k i) (pt_nt j) x)) := by
  obtain ⟨k, rfl⟩ := pt_ak0 ha
  intro p l e s m args below meth c D ad cA A cells slots Q hC hA H locs ls g1 g2 g3 g4
  obtain ⟨hx, hb, hr, hml, hown, hts, hlk, hW, hAd⟩ := hC
  have hce := pt_ce_a (ad := ad) (cA := cA) (M := M) (i := i) (pt_ob_ak ha) ha (by decide)
  have hdm := pt_dm_of hi hce
  refine pt_iastW hx hb hW.1 g3 0 (g1 _ _ _ hi hce) rfl (pt_in_vp hj) (hAd _ _ hdm) hd fun H1 locs1 e1 e2 e3 => ?_
  refine hA H1 locs1 ls ?_ g2 e3 g4
  refine g1.put hW hdm (pt_ce_a (pt_ob_ak ha) ha (by decide)) ?_ e2 (fun k' i' _ h => pt_ce_wA h)
  rw [pt_A_wA]
  exact e1
theorem pt_bast {Y : pt_Y} {pc k i n : Nat} {j x : Int32} {L : List (Nat × pt_V)} {st : List pt_V} {M : pt_M} (ha : pt_ak k = some (1, n)) (hi : i < pt_ct k) (hj : pt_in j n) (hd : decode Y.2.1 pc = .ok (.bastore, 1)) : pt_Go Y (pc, L, pt_i x :: pt_i j :: pt_r k i :: st, M) (pc + 1, L, st, pt_wA M k i (upd (pt_A M k i) (pt_nt j) x.toInt8.toInt32)) := by
  obtain ⟨k, rfl⟩ := pt_ak0 ha
  intro p l e s m args below meth c D ad cA A cells slots Q hC hA H locs ls g1 g2 g3 g4
  obtain ⟨hx, hb, hr, hml, hown, hts, hlk, hW, hAd⟩ := hC
  have hce := pt_ce_a (ad := ad) (cA := cA) (M := M) (i := i) (pt_ob_ak ha) ha (by decide)
  have hdm := pt_dm_of hi hce
  refine pt_bastW hx hb hW.1 g3 1 (g1 _ _ _ hi hce) rfl (pt_in_vp hj) (hAd _ _ hdm) hd fun H1 locs1 e1 e2 e3 => ?_
  refine hA H1 locs1 ls ?_ g2 e3 g4
  refine g1.put hW hdm (pt_ce_a (pt_ob_ak ha) ha (by decide)) ?_ e2 (fun k' i' _ h => pt_ce_wA h)
  rw [pt_A_wA]
  exact e1
theorem pt_last {Y : pt_Y} {pc k n : Nat} {j : Int32} {x : Int64} {L : List (Nat × pt_V)} {st : List pt_V} {M : pt_M} (ha : pt_ak k = some (2, n)) (h1 : pt_ct k = 1) (hj : pt_in j n) (hd : decode Y.2.1 pc = .ok (.lastore, 1)) : pt_Go Y (pc, L, pt_l x :: pt_i j :: pt_r k 0 :: st, M) (pc + 1, L, st, pt_wG M k (vp_updL (pt_G M k) (pt_nt j) x)) := by
  have hi : 0 < pt_ct k := by omega
  obtain ⟨k, rfl⟩ := pt_ak0 ha
  intro p l e s m args below meth c D ad cA A cells slots Q hC hA H locs ls g1 g2 g3 g4
  obtain ⟨hx, hb, hr, hml, hown, hts, hlk, hW, hAd⟩ := hC
  have hce := pt_ce_l (ad := ad) (cA := cA) (M := M) (i := 0) (pt_ob_ak ha) ha
  have hdm := pt_dm_of hi hce
  refine pt_lastW hx hb hW.1 g3 2 (g1 _ _ _ hi hce) rfl (pt_in_vp hj) (hAd _ _ hdm) hd fun H1 locs1 e1 e2 e3 => ?_
  refine hA H1 locs1 ls ?_ g2 e3 g4
  refine g1.put hW hdm (pt_ce_l (pt_ob_ak ha) ha) ?_ e2 (fun k' i' hi9 h => pt_ce_wG (fun z => h ⟨z, by rw [z] at hi9; omega⟩))
  rw [pt_G_wG]
  exact e1
theorem pt_aast {Y : pt_Y} {pc t : Nat} {j : Int32} {L : List (Nat × pt_V)} {st : List pt_V} {M : pt_M} (ht : t < 7) (hj : pt_in j 6) (hd : decode Y.2.1 pc = .ok (.aastore, 1)) : pt_Go Y (pc, L, pt_r 3 t :: pt_i j :: pt_r 10 0 :: st, M) (pc + 1, L, st, pt_wR M (pt_nt j + 1) t) := by
  intro p l e s m args below meth c D ad cA A cells slots Q hC hA H locs ls g1 g2 g3 g4
  obtain ⟨hx, hb, hr, hml, hown, hts, hlk, hW, hAd⟩ := hC
  have hi : 0 < pt_ct 10 := by decide
  have hce := pt_ce_q (ad := ad) (cA := cA) (M := M) (i := 0) (k := 10) (n := 6) rfl rfl
  have hdm := pt_dm_of hi hce
  have hv := g1 3 t _ ht (pt_ce_o (ad := ad) (cA := cA) (M := M) (i := t) (k := 3) (ci := 2) (n := 6) rfl)
  refine pt_aastW (r := (RX4, TX4, 6)) hx hb hW.1 g3 3 2 (g1 _ _ _ hi hce) rfl hv rfl (pt_in_vp hj) (hAd _ _ hdm) hd fun H1 locs1 e1 e2 e3 => ?_
  refine hA H1 locs1 ls ?_ g2 e3 g4
  refine g1.put hW hdm (pt_ce_q (ad := ad) (cA := cA) (M := pt_wR M (pt_nt j + 1) t) (i := 0) (k := 10) (n := 6) rfl rfl) ?_ e2 (fun k' i' hi9 h => ?_)
  · have : (fun p => some (ad 3 (pt_R (pt_wR M (pt_nt j + 1) t) (p + 1)))) = va_up (fun p => some (ad 3 (pt_R M (p + 1)))) j.toNatClampNeg (some (ad 3 t)) := by
      funext q
      show some (ad 3 (if q + 1 = pt_nt j + 1 then t else _)) = if q = _ then _ else _
      by_cases hq : q = j.toNatClampNeg
      · rw [if_pos hq, if_pos (by rw [hq]; rfl)]
      · rw [if_neg hq, if_neg (show ¬ q + 1 = pt_nt j + 1 from fun z => hq (Nat.succ.inj z))]
        rfl
    rw [this]
    exact e1
  · unfold pt_ce
    cases hk : pt_ob k' with
    | some q =>
      simp only [Option.some.injEq, Sum.inr.injEq, Prod.mk.injEq, true_and]
      apply List.map_congr_left
      intro f hf9
      congr 1
    | none =>
      dsimp only
      unfold pt_ak
      split
      all_goals first | rfl | skip
      all_goals (rename_i hz; split at hz)
      all_goals first | (cases hz; done) | (exfalso; exact h ⟨rfl, Nat.lt_one_iff.mp hi9⟩) | skip
end
section
/-! the abstract machine's steps, as a function of the instruction; o: which way a branch goes, what a call gives -/
abbrev pt_O : Type := Bool ⊕ (Nat × Option pt_V × pt_M)
abbrev pt_T : Type := Option Prop × List pt_O × pt_S
def pt_w (v : pt_V) : Nat := match pt_isL v with
  | true => 2
  | false => 1
/-- a call that the machine does: from the arguments on the stack to the answer there -/
def pt_Cal (Y : pt_Y) (I : Instr) (vs : List pt_V) (M : pt_M) (r : Option pt_V) (M' : pt_M) : Prop :=
  ∀ pc L st, decode Y.2.1 pc = .ok (I, 3) → (st.map pt_w).sum ≤ 8 → pt_Go Y (pc, L, vs.reverse ++ st, M) (pc + 3, L, r.toList ++ st, M')
def pt_vd (k i : Nat) : Option (Option Prop) := match pt_ct k with
  | 7 => some (some (i < 7))
  | _ => match i with
    | 0 => some none
    | _ => none
theorem pt_vd_ok {k i : Nat} {c : Option Prop} (h : pt_vd k i = some c) (hc : ∀ P, c = some P → P) : i < pt_ct k := by
  unfold pt_vd at h
  split at h
  · rename_i h7
    cases h
    rw [h7]
    exact hc _ rfl
  · split at h
    · unfold pt_ct
      split <;> decide
    · cases h
def pt_cj (P : Prop) (c : Option Prop) : Option Prop := match c with
  | none => some P
  | some P' => some (P ∧ P')
theorem pt_cj_ok {P : Prop} {c : Option Prop} (h : ∀ Z, pt_cj P c = some Z → Z) : P ∧ ∀ Z, c = some Z → Z := by
  unfold pt_cj at h
  cases c with
  | none => exact ⟨h _ rfl, fun Z z => by cases z⟩
  | some P' => exact ⟨(h _ rfl).1, fun Z z => by cases z; exact (h _ rfl).2⟩
def pt_kc (cn idx : Nat) : Option Int32 := match cn with
  | 9 => match idx with
    | 265 => some 1431655765
    | 266 => some 858993459
    | 267 => some 252645135
    | _ => none
  | _ => none
def pt_kl (cn idx : Nat) : Option Int64 := match cn with
  | 7 => match idx with
    | 95 => some (-10000)
    | 97 => some 10000
    | _ => none
  | _ => none
def pt_sk (cn idx : Nat) : Option Nat := match cn with
  | 0 => match idx with
    | 260 => some 61
    | 263 => some 62
    | 266 => some 63
    | 269 => some 64
    | 272 => some 60
    | _ => none
  | _ => none
def pt_cm (q : ClassFile.Cond) (x y : Int32) : Prop := match q with
  | .eq => x = y
  | .ne => ¬ x = y
  | .lt => x < y
  | .ge => y ≤ x
  | .gt => y < x
  | .le => x ≤ y
def pt_nc (q : ClassFile.Cond) (x y : Int32) : Prop := match q with
  | .eq => ¬ x = y
  | .ne => x = y
  | .lt => ¬ x < y
  | .ge => ¬ y ≤ x
  | .gt => ¬ y < x
  | .le => ¬ x ≤ y
def pt_s2 (o : List pt_O) (pc : Nat) (L : List (Nat × pt_V)) (M : pt_M) (f : Int32 → Int32 → Int32) (c : Int32 → Option Prop) (st : List pt_V) : Option pt_T := match st with
  | .inl y :: .inl x :: st => some (c y, o, (pc + 1, L, .inl (f x y) :: st, M))
  | _ => none
def pt_s1 (o : List pt_O) (pc : Nat) (L : List (Nat × pt_V)) (M : pt_M) (f : Int32 → pt_V) (st : List pt_V) : Option pt_T := match st with
  | .inl x :: st => some (none, o, (pc + 1, L, f x :: st, M))
  | _ => none
def pt_g2 (o : List pt_O) (pc : Nat) (L : List (Nat × pt_V)) (M : pt_M) (f : Int64 → Int64 → pt_V) (st : List pt_V) : Option pt_T := match st with
  | .inr (.inl y) :: .inr (.inl x) :: st => some (none, o, (pc + 1, L, f x y :: st, M))
  | _ => none
/-- 0 a number, 1 a long, 2 a reference -/
def pt_kd (v : pt_V) : Nat := match v with
  | .inl _ => 0
  | .inr (.inl _) => 1
  | .inr (.inr _) => 2
def pt_ld (o : List pt_O) (pc : Nat) (L : List (Nat × pt_V)) (M : pt_M) (st : List pt_V) (n i kd : Nat) : Option pt_T := match pt_lk L i with
  | none => none
  | some v => match Nat.beq (pt_kd v) kd with
    | true => some (none, o, (pc + n, L, v :: st, M))
    | false => none
def pt_sv (mx : Nat) (o : List pt_O) (pc : Nat) (L : List (Nat × pt_V)) (M : pt_M) (n i kd : Nat) (st : List pt_V) : Option pt_T := match st with
  | [] => none
  | v :: st => match Nat.beq (pt_kd v) kd && Nat.blt i mx with
    | true => some (none, o, (pc + n, pt_st1 L i v, st, M))
    | false => none
def pt_br (o : List pt_O) (L : List (Nat × pt_V)) (M : pt_M) (st : List pt_V) (pc tgt : Nat) (P N : Prop) : Option pt_T := match o with
  | .inl true :: o => some (some P, o, (tgt, L, st, M))
  | .inl false :: o => some (some N, o, (pc + 3, L, st, M))
  | _ => none
def pt_cal (Y : pt_Y) (I : Instr) (o : List pt_O) (pc : Nat) (L : List (Nat × pt_V)) (M : pt_M) (st : List pt_V) : Option pt_T := match o with
  | .inr (n, r, M') :: o => match Nat.ble n st.length && Nat.ble ((st.drop n).map pt_w).sum 8 with
    | true => some (some (pt_Cal Y I (st.take n).reverse M r M'), o, (pc + 3, L, r.toList ++ st.drop n, M'))
    | false => none
  | _ => none
def pt_bz (k f : Nat) : Bool := match k with
  | 3 => Nat.beq f 3
  | _ => false
def pt_pf (o : List pt_O) (pc : Nat) (L : List (Nat × pt_V)) (M : pt_M) (q : Option (Nat × Nat)) (st : List pt_V) : Option pt_T := match q with
  | none => none
  | some (k, f) => match st with
    | .inl x :: .inr (.inr (k', i)) :: st => match Nat.beq k k' && Nat.beq (pt_fs k f) 0 with
      | false => none
      | true => match pt_vd k i with
        | none => none
        | some c => some (match pt_bz k f with
          | true => pt_cj (x = 0 ∨ x = 1) c
          | false => c, o, (pc + 3, L, st, pt_wF M k f i x))
    | .inr (.inr (3, t)) :: .inr (.inr (2, 0)) :: st => match Nat.beq k 2 && Nat.beq f 1 with
      | true => some (none, o, (pc + 3, L, st, pt_wR M 0 t))
      | false => none
    | _ => none
def pt_gf (o : List pt_O) (pc : Nat) (L : List (Nat × pt_V)) (M : pt_M) (q : Option (Nat × Nat)) (st : List pt_V) : Option pt_T := match q with
  | none => none
  | some (k, f) => match st with
    | .inr (.inr (k', i)) :: st => match Nat.beq k k' with
      | false => none
      | true => match pt_vd k i with
        | none => none
        | some c => some (c, o, (pc + 3, L, pt_fv M k f i :: st, M))
    | _ => none
def pt_al (t : Nat) (o : List pt_O) (pc : Nat) (L : List (Nat × pt_V)) (M : pt_M) (st : List pt_V) : Option pt_T := match st with
  | .inl j :: .inr (.inr (k, i)) :: st => match pt_ak k with
    | some (t', n) => match Nat.beq t t' with
      | false => none
      | true => match pt_vd k i with
        | none => none
        | some c => some (pt_cj (pt_in j n) c, o, (pc + 1, L, (match t with
          | 2 => pt_l (pt_G M k (pt_nt j))
          | 3 => pt_r 3 (pt_R M (pt_nt j + 1))
          | _ => pt_i (pt_A M k i (pt_nt j))) :: st, M))
    | none => match t with
      | 0 => match i with
        | 0 => match pt_ro M k with
          | some q => some (some (pt_in j q.1), o, (pc + 1, L, pt_i (q.2 (pt_nt j)) :: st, M))
          | none => none
        | _ => none
      | _ => none
  | _ => none
def pt_len (o : List pt_O) (pc : Nat) (L : List (Nat × pt_V)) (M : pt_M) (st : List pt_V) : Option pt_T := match st with
  | .inr (.inr (k, i)) :: st => match pt_ak k with
    | some (t, n) => match Nat.blt t 2 with
      | false => none
      | true => match pt_vd k i with
        | none => none
        | some c => some (c, o, (pc + 1, L, pt_i (nI n) :: st, M))
    | none => match i with
      | 0 => match pt_ro M k with
        | some q => some (none, o, (pc + 1, L, pt_i (nI q.1) :: st, M))
        | none => none
      | _ => none
  | _ => none
def pt_as (t : Nat) (o : List pt_O) (pc : Nat) (L : List (Nat × pt_V)) (M : pt_M) (st : List pt_V) : Option pt_T := match st with
  | .inl x :: .inl j :: .inr (.inr (k, i)) :: st => match pt_ak k with
    | some (t', n) => match Nat.beq t t' with
      | false => none
      | true => match pt_vd k i with
        | none => none
        | some c => match t with
          | 0 => some (pt_cj (pt_in j n) c, o, (pc + 1, L, st, pt_wA M k i (upd (pt_A M k i) (pt_nt j) x)))
          | 1 => some (pt_cj (pt_in j n) c, o, (pc + 1, L, st, pt_wA M k i (upd (pt_A M k i) (pt_nt j) x.toInt8.toInt32)))
          | _ => none
    | none => none
  | .inr (.inl x) :: .inl j :: .inr (.inr (k, 0)) :: st => match pt_ak k with
    | some (2, n) => match Nat.beq t 2 && Nat.beq (pt_ct k) 1 with
      | true => some (some (pt_in j n), o, (pc + 1, L, st, pt_wG M k (vp_updL (pt_G M k) (pt_nt j) x)))
      | false => none
    | _ => none
  | .inr (.inr (3, q)) :: .inl j :: .inr (.inr (10, 0)) :: st => match Nat.beq t 3 with
    | true => some (some (pt_in j 6 ∧ q < 7), o, (pc + 1, L, st, pt_wR M (pt_nt j + 1) q))
    | false => none
  | _ => none
def pt_stp (Y : pt_Y) (I : Instr) (n tgt : Nat) (o : List pt_O) (σ : pt_S) : Option pt_T := match σ with
  | (pc, L, st, M) => match I with
    | .iload i => pt_ld o pc L M st 2 i 0
    | .iload_n i => pt_ld o pc L M st 1 i.val 0
    | .aload i => pt_ld o pc L M st 2 i 2
    | .aload_n i => pt_ld o pc L M st 1 i.val 2
    | .lload i => pt_ld o pc L M st 2 i 1
    | .istore i => pt_sv Y.2.2.1 o pc L M 2 i 0 st
    | .istore_n i => pt_sv Y.2.2.1 o pc L M 1 i.val 0 st
    | .astore i => pt_sv Y.2.2.1 o pc L M 2 i 2 st
    | .astore_n i => pt_sv Y.2.2.1 o pc L M 1 i.val 2 st
    | .lstore i => match st with
      | .inr (.inl x) :: st => match Nat.blt (i + 1) Y.2.2.1 with
        | true => some (none, o, (pc + 2, pt_st2 L i (pt_l x), st, M))
        | false => none
      | _ => none
    | .iconst z => some (none, o, (pc + 1, L, .inl (Int32.ofInt z) :: st, M))
    | .bipush z => some (none, o, (pc + 2, L, .inl (Int8.ofInt z).toInt32 :: st, M))
    | .sipush z => some (none, o, (pc + 3, L, .inl (Int16.ofInt z).toInt32 :: st, M))
    | .lconst z => some (none, o, (pc + 1, L, .inr (.inl (Int64.ofNat z.val)) :: st, M))
    | .ldc_w i => match pt_kc Y.1 i with
      | some v => some (none, o, (pc + 3, L, .inl v :: st, M))
      | none => none
    | .ldc2_w i => match pt_kl Y.1 i with
      | some v => some (none, o, (pc + 3, L, .inr (.inl v) :: st, M))
      | none => none
    | .aconst_null => some (none, o, (pc + 1, L, pt_n :: st, M))
    | .iadd => pt_s2 o pc L M (fun x y => x + y) (fun _ => none) st
    | .isub => pt_s2 o pc L M (fun x y => x - y) (fun _ => none) st
    | .imul => pt_s2 o pc L M (fun x y => x * y) (fun _ => none) st
    | .idiv => pt_s2 o pc L M (fun x y => x / y) (fun y => some (¬ y = 0)) st
    | .irem => pt_s2 o pc L M (fun x y => x - x / y * y) (fun y => some (¬ y = 0)) st
    | .iand => pt_s2 o pc L M (fun x y => x &&& y) (fun _ => none) st
    | .ior => pt_s2 o pc L M (fun x y => x ||| y) (fun _ => none) st
    | .ixor => pt_s2 o pc L M (fun x y => x ^^^ y) (fun _ => none) st
    | .ishl => pt_s2 o pc L M (fun x y => x <<< (y &&& 31)) (fun _ => none) st
    | .ishr => pt_s2 o pc L M (fun x y => x >>> (y &&& 31)) (fun _ => none) st
    | .iushr => pt_s2 o pc L M (fun x y => (x.toUInt32 >>> (y.toUInt32 &&& Int32.toUInt32 31)).toInt32) (fun _ => none) st
    | .ineg => pt_s1 o pc L M (fun x => .inl (-x)) st
    | .i2b => pt_s1 o pc L M (fun x => .inl x.toInt8.toInt32) st
    | .i2s => pt_s1 o pc L M (fun x => .inl x.toInt16.toInt32) st
    | .i2l => pt_s1 o pc L M (fun x => .inr (.inl x.toInt64)) st
    | .lsub => pt_g2 o pc L M (fun x y => .inr (.inl (x - y))) st
    | .lmul => pt_g2 o pc L M (fun x y => .inr (.inl (x * y))) st
    | .lcmp => pt_g2 o pc L M (fun x y => .inl (lg_cmp x y)) st
    | .goto _ => some (none, o, (tgt, L, st, M))
    | .if_icmp q _ => match st with
      | .inl y :: .inl x :: st => pt_br o L M st pc tgt (pt_cm q x y) (pt_nc q x y)
      | _ => none
    | .ifCond q _ => match st with
      | .inl x :: st => pt_br o L M st pc tgt (pt_cm q x 0) (pt_nc q x 0)
      | _ => none
    | .ifnull _ => match st with
      | .inr (.inr (0, _)) :: st => some (none, o, (tgt, L, st, M))
      | .inr (.inr (_ + 1, _)) :: st => some (none, o, (pc + 3, L, st, M))
      | _ => none
    | .ifnonnull _ => match st with
      | .inr (.inr (0, _)) :: st => some (none, o, (pc + 3, L, st, M))
      | .inr (.inr (_ + 1, _)) :: st => some (none, o, (tgt, L, st, M))
      | _ => none
    | .iinc i z => match pt_lk L i with
      | some (.inl x) => match Nat.blt i Y.2.2.1 with
        | true => some (none, o, (pc + 3, pt_st1 L i (.inl (x + Int32.ofInt z)), st, M))
        | false => none
      | _ => none
    | .dup => match st with
      | v :: st => match pt_isL v with
        | false => some (none, o, (pc + 1, L, v :: v :: st, M))
        | true => none
      | _ => none
    | .dup2 => match st with
      | v :: w :: st => match pt_isL v || pt_isL w with
        | false => some (none, o, (pc + 1, L, v :: w :: v :: w :: st, M))
        | true => none
      | _ => none
    | .getfield i => pt_gf o pc L M (pt_fl Y.1 i) st
    | .putfield i => pt_pf o pc L M (pt_fl Y.1 i) st
    | .getstatic i => match pt_sk Y.1 i with
      | some k => some (none, o, (pc + 3, L, pt_r k 0 :: st, M))
      | none => none
    | .iaload => pt_al 0 o pc L M st
    | .baload => pt_al 1 o pc L M st
    | .laload => pt_al 2 o pc L M st
    | .aaload => pt_al 3 o pc L M st
    | .iastore => pt_as 0 o pc L M st
    | .bastore => pt_as 1 o pc L M st
    | .lastore => pt_as 2 o pc L M st
    | .aastore => pt_as 3 o pc L M st
    | .arraylength => pt_len o pc L M st
    | .invokevirtual _ => pt_cal Y I o pc L M st
    | .invokestatic _ => pt_cal Y I o pc L M st
    | _ => none
end
section
/-! the steps are the machine's -/
def pt_tg (I : Instr) (pc tgt : Nat) : Bool := match I with
  | .goto z => decide ((pc : Int) + z = (tgt : Int))
  | .if_icmp _ z => decide ((pc : Int) + z = (tgt : Int))
  | .ifCond _ z => decide ((pc : Int) + z = (tgt : Int))
  | .ifnull z => decide ((pc : Int) + z = (tgt : Int))
  | .ifnonnull z => decide ((pc : Int) + z = (tgt : Int))
  | _ => true
theorem pt_lvat {ad : Nat → Nat → Nat} {ls : Array Slot} {n i : Nat} {L : List (Nat × pt_V)} {v : pt_V} (h : lv_has ls n (pt_cl ad L)) (hv : pt_lk L i = some v) : ls[i]? = some (.val (pt_cv ad v)) :=
  h.2.2 (i, pt_cv ad v) (List.mem_map.mpr ⟨(i, v), pt_lk_mem hv, rfl⟩)
section PTS
variable {Y : pt_Y} {n tgt : Nat} {o o' : List pt_O} {pc : Nat} {L : List (Nat × pt_V)} {st : List pt_V} {M : pt_M} {c : Option Prop} {σ' : pt_S}
theorem pt_ldi_ok {i : Nat} (hd : decode Y.2.1 pc = .ok (.iload i, 2)) (h : pt_ld o pc L M st 2 i 0 = some (c, o', σ')) : pt_Go Y (pc, L, st, M) σ' := by
  unfold pt_ld at h
  split at h
  · cases h
  · rename_i v hv
    split at h
    · rename_i hk
      cases h
      rcases v with x | y | ⟨k, j⟩
      · intro p l e s m args below meth c D ad cA A cells slots Q hC hA H locs ls g1 g2 g3 g4
        exact lv_iload hC.1 hC.2.1 hd (pt_lvat g4 hv) (hA H locs ls g1 g2 g3 g4)
      · cases hk
      · cases hk
    · cases h
theorem pt_ldin_ok {i : Fin 4} (hd : decode Y.2.1 pc = .ok (.iload_n i, 1)) (h : pt_ld o pc L M st 1 i.val 0 = some (c, o', σ')) : pt_Go Y (pc, L, st, M) σ' := by
  unfold pt_ld at h
  split at h
  · cases h
  · rename_i v hv
    split at h
    · rename_i hk
      cases h
      rcases v with x | y | ⟨k, j⟩
      · intro p l e s m args below meth c D ad cA A cells slots Q hC hA H locs ls g1 g2 g3 g4
        exact lv_iload_n hC.1 hC.2.1 hd rfl (pt_lvat g4 hv) (hA H locs ls g1 g2 g3 g4)
      · cases hk
      · cases hk
    · cases h
theorem pt_lda_ok {i : Nat} (hd : decode Y.2.1 pc = .ok (.aload i, 2)) (h : pt_ld o pc L M st 2 i 2 = some (c, o', σ')) : pt_Go Y (pc, L, st, M) σ' := by
  unfold pt_ld at h
  split at h
  · cases h
  · rename_i v hv
    split at h
    · rename_i hk
      cases h
      rcases v with x | y | ⟨k, j⟩
      · cases hk
      · cases hk
      · intro p l e s m args below meth c D ad cA A cells slots Q hC hA H locs ls g1 g2 g3 g4
        cases k with
        | zero => exact lv_aloadN hC.1 hC.2.1 hd (pt_lvat g4 hv) (hA H locs ls g1 g2 g3 g4)
        | succ k => exact lv_aload hC.1 hC.2.1 hd (pt_lvat g4 hv) (hA H locs ls g1 g2 g3 g4)
    · cases h
theorem pt_ldan_ok {i : Fin 4} (hd : decode Y.2.1 pc = .ok (.aload_n i, 1)) (h : pt_ld o pc L M st 1 i.val 2 = some (c, o', σ')) : pt_Go Y (pc, L, st, M) σ' := by
  unfold pt_ld at h
  split at h
  · cases h
  · rename_i v hv
    split at h
    · rename_i hk
      cases h
      rcases v with x | y | ⟨k, j⟩
      · cases hk
      · cases hk
      · intro p l e s m args below meth c D ad cA A cells slots Q hC hA H locs ls g1 g2 g3 g4
        cases k with
        | zero => exact lv_aload_nN hC.1 hC.2.1 hd rfl (pt_lvat g4 hv) (hA H locs ls g1 g2 g3 g4)
        | succ k => exact lv_aload_n hC.1 hC.2.1 hd rfl (pt_lvat g4 hv) (hA H locs ls g1 g2 g3 g4)
    · cases h
theorem pt_ldl_ok {i : Nat} (hd : decode Y.2.1 pc = .ok (.lload i, 2)) (h : pt_ld o pc L M st 2 i 1 = some (c, o', σ')) : pt_Go Y (pc, L, st, M) σ' := by
  unfold pt_ld at h
  split at h
  · cases h
  · rename_i v hv
    split at h
    · rename_i hk
      cases h
      rcases v with x | y | ⟨k, j⟩
      · cases hk
      · intro p l e s m args below meth c D ad cA A cells slots Q hC hA H locs ls g1 g2 g3 g4
        exact lv_lload hC.1 hC.2.1 hd (pt_lvat g4 hv) (hA H locs ls g1 g2 g3 g4)
      · cases hk
    · cases h
theorem pt_svi_ok {i : Nat} (hd : decode Y.2.1 pc = .ok (.istore i, 2)) (h : pt_sv Y.2.2.1 o pc L M 2 i 0 st = some (c, o', σ')) : pt_Go Y (pc, L, st, M) σ' := by
  unfold pt_sv at h
  split at h
  · cases h
  · rename_i v st'
    split at h
    · rename_i hk
      cases h
      rw [Bool.and_eq_true] at hk
      rcases v with x | y | ⟨k, j⟩
      · intro p l e s m args below meth c D ad cA A cells slots Q hC hA H locs ls g1 g2 g3 g4
        exact lv_istore hC.1 hC.2.1 hd g4 (Nat.le_of_ble_eq_true hk.2) rfl (fun ls' h' => hA H locs ls' g1 g2 g3 (pt_has1 h'))
      · cases hk.1
      · cases hk.1
    · cases h
theorem pt_svin_ok {i : Fin 4} (hd : decode Y.2.1 pc = .ok (.istore_n i, 1)) (h : pt_sv Y.2.2.1 o pc L M 1 i.val 0 st = some (c, o', σ')) : pt_Go Y (pc, L, st, M) σ' := by
  unfold pt_sv at h
  split at h
  · cases h
  · rename_i v st'
    split at h
    · rename_i hk
      cases h
      rw [Bool.and_eq_true] at hk
      rcases v with x | y | ⟨k, j⟩
      · intro p l e s m args below meth c D ad cA A cells slots Q hC hA H locs ls g1 g2 g3 g4
        exact lv_istore_n hC.1 hC.2.1 hd rfl g4 (Nat.le_of_ble_eq_true hk.2) rfl (fun ls' h' => hA H locs ls' g1 g2 g3 (pt_has1 h'))
      · cases hk.1
      · cases hk.1
    · cases h
theorem pt_sva_ok {i : Nat} (hd : decode Y.2.1 pc = .ok (.astore i, 2)) (h : pt_sv Y.2.2.1 o pc L M 2 i 2 st = some (c, o', σ')) : pt_Go Y (pc, L, st, M) σ' := by
  unfold pt_sv at h
  split at h
  · cases h
  · rename_i v st'
    split at h
    · rename_i hk
      cases h
      rw [Bool.and_eq_true] at hk
      rcases v with x | y | ⟨k, j⟩
      · cases hk.1
      · cases hk.1
      · intro p l e s m args below meth c D ad cA A cells slots Q hC hA H locs ls g1 g2 g3 g4
        cases k with
        | zero => exact lv_astoreN hC.1 hC.2.1 hd g4 (Nat.le_of_ble_eq_true hk.2) rfl (fun ls' h' => hA H locs ls' g1 g2 g3 (pt_has1 (v := pt_r 0 j) h'))
        | succ k => exact lv_astore hC.1 hC.2.1 hd g4 (Nat.le_of_ble_eq_true hk.2) rfl (fun ls' h' => hA H locs ls' g1 g2 g3 (pt_has1 (v := pt_r (k + 1) j) h'))
    · cases h
theorem pt_svan_ok {i : Fin 4} (hd : decode Y.2.1 pc = .ok (.astore_n i, 1)) (h : pt_sv Y.2.2.1 o pc L M 1 i.val 2 st = some (c, o', σ')) : pt_Go Y (pc, L, st, M) σ' := by
  unfold pt_sv at h
  split at h
  · cases h
  · rename_i v st'
    split at h
    · rename_i hk
      cases h
      rw [Bool.and_eq_true] at hk
      rcases v with x | y | ⟨k, j⟩
      · cases hk.1
      · cases hk.1
      · intro p l e s m args below meth c D ad cA A cells slots Q hC hA H locs ls g1 g2 g3 g4
        cases k with
        | zero => exact lv_astore_nN hC.1 hC.2.1 hd rfl g4 (Nat.le_of_ble_eq_true hk.2) rfl (fun ls' h' => hA H locs ls' g1 g2 g3 (pt_has1 (v := pt_r 0 j) h'))
        | succ k => exact lv_astore_n hC.1 hC.2.1 hd rfl g4 (Nat.le_of_ble_eq_true hk.2) rfl (fun ls' h' => hA H locs ls' g1 g2 g3 (pt_has1 (v := pt_r (k + 1) j) h'))
    · cases h
theorem pt_s2_in {f : Int32 → Int32 → Int32} {q : Int32 → Option Prop} (h : pt_s2 o pc L M f q st = some (c, o', σ')) : ∃ x y st', st = pt_i y :: pt_i x :: st' ∧ c = q y ∧ σ' = (pc + 1, L, pt_i (f x y) :: st', M) := by
  unfold pt_s2 at h
  split at h
  · cases h
    exact ⟨_, _, _, rfl, rfl, rfl⟩
  · cases h
theorem pt_s1_in {f : Int32 → pt_V} (h : pt_s1 o pc L M f st = some (c, o', σ')) : ∃ x st', st = pt_i x :: st' ∧ σ' = (pc + 1, L, f x :: st', M) := by
  unfold pt_s1 at h
  split at h
  · cases h
    exact ⟨_, _, rfl, rfl⟩
  · cases h
theorem pt_g2_in {f : Int64 → Int64 → pt_V} (h : pt_g2 o pc L M f st = some (c, o', σ')) : ∃ x y st', st = pt_l y :: pt_l x :: st' ∧ σ' = (pc + 1, L, f x y :: st', M) := by
  unfold pt_g2 at h
  split at h
  · cases h
    exact ⟨_, _, _, rfl, rfl⟩
  · cases h
theorem pt_br_in {P N : Prop} (h : pt_br o L M st pc tgt P N = some (c, o', σ')) (hc : ∀ Z, c = some Z → Z) : (P ∧ σ' = (tgt, L, st, M)) ∨ (N ∧ σ' = (pc + 3, L, st, M)) := by
  unfold pt_br at h
  split at h
  · cases h
    exact Or.inl ⟨hc _ rfl, rfl⟩
  · cases h
    exact Or.inr ⟨hc _ rfl, rfl⟩
  · cases h
theorem pt_icmp_ok {q : ClassFile.Cond} {z : Int} {x y : Int32} (hd : decode Y.2.1 pc = .ok (.if_icmp q z, 3)) (ht : (pc : Int) + z = (tgt : Int)) (h : (pt_cm q x y ∧ σ' = (tgt, L, st, M)) ∨ (pt_nc q x y ∧ σ' = (pc + 3, L, st, M))) : pt_Go Y (pc, L, pt_i y :: pt_i x :: st, M) σ' := by
  intro p l e s m args below meth c D ad cA A cells slots Q hC hA H locs ls g1 g2 g3 g4
  cases q <;> rcases h with ⟨hP, rfl⟩ | ⟨hP, rfl⟩
  · exact lv_icmp_eq hC.1 hC.2.1 hd ht (fun _ => hA H locs ls g1 g2 g3 g4) (fun hn => absurd hP hn)
  · exact lv_icmp_eq hC.1 hC.2.1 hd ht (fun hn => absurd hn hP) (fun _ => hA H locs ls g1 g2 g3 g4)
  · exact lv_icmp_ne hC.1 hC.2.1 hd ht (fun _ => hA H locs ls g1 g2 g3 g4) (fun hn => absurd hn hP)
  · exact lv_icmp_ne hC.1 hC.2.1 hd ht (fun hn => absurd hP hn) (fun _ => hA H locs ls g1 g2 g3 g4)
  · exact lv_icmp_lt hC.1 hC.2.1 hd ht (fun _ => hA H locs ls g1 g2 g3 g4) (fun hn => absurd hP hn)
  · exact lv_icmp_lt hC.1 hC.2.1 hd ht (fun hn => absurd hn hP) (fun _ => hA H locs ls g1 g2 g3 g4)
  · exact lv_icmp_ge hC.1 hC.2.1 hd ht (fun _ => hA H locs ls g1 g2 g3 g4) (fun hn => absurd hP hn)
  · exact lv_icmp_ge hC.1 hC.2.1 hd ht (fun hn => absurd hn hP) (fun _ => hA H locs ls g1 g2 g3 g4)
  · exact lv_icmp_gt hC.1 hC.2.1 hd ht (fun _ => hA H locs ls g1 g2 g3 g4) (fun hn => absurd hP hn)
  · exact lv_icmp_gt hC.1 hC.2.1 hd ht (fun hn => absurd hn hP) (fun _ => hA H locs ls g1 g2 g3 g4)
  · exact lv_icmp_le hC.1 hC.2.1 hd ht (fun _ => hA H locs ls g1 g2 g3 g4) (fun hn => absurd hP hn)
  · exact lv_icmp_le hC.1 hC.2.1 hd ht (fun hn => absurd hn hP) (fun _ => hA H locs ls g1 g2 g3 g4)
theorem pt_if_ok {q : ClassFile.Cond} {z : Int} {x : Int32} (hd : decode Y.2.1 pc = .ok (.ifCond q z, 3)) (ht : (pc : Int) + z = (tgt : Int)) (h : (pt_cm q x 0 ∧ σ' = (tgt, L, st, M)) ∨ (pt_nc q x 0 ∧ σ' = (pc + 3, L, st, M))) : pt_Go Y (pc, L, pt_i x :: st, M) σ' := by
  intro p l e s m args below meth c D ad cA A cells slots Q hC hA H locs ls g1 g2 g3 g4
  cases q <;> rcases h with ⟨hP, rfl⟩ | ⟨hP, rfl⟩
  · exact lv_if_eq hC.1 hC.2.1 hd ht (fun _ => hA H locs ls g1 g2 g3 g4) (fun hn => absurd hP hn)
  · exact lv_if_eq hC.1 hC.2.1 hd ht (fun hn => absurd hn hP) (fun _ => hA H locs ls g1 g2 g3 g4)
  · exact lv_if_ne hC.1 hC.2.1 hd ht (fun _ => hA H locs ls g1 g2 g3 g4) (fun hn => absurd hn hP)
  · exact lv_if_ne hC.1 hC.2.1 hd ht (fun hn => absurd hP hn) (fun _ => hA H locs ls g1 g2 g3 g4)
  · exact lv_if_lt hC.1 hC.2.1 hd ht (fun _ => hA H locs ls g1 g2 g3 g4) (fun hn => absurd hP hn)
  · exact lv_if_lt hC.1 hC.2.1 hd ht (fun hn => absurd hn hP) (fun _ => hA H locs ls g1 g2 g3 g4)
  · exact lv_if_ge hC.1 hC.2.1 hd ht (fun _ => hA H locs ls g1 g2 g3 g4) (fun hn => absurd hP hn)
  · exact lv_if_ge hC.1 hC.2.1 hd ht (fun hn => absurd hn hP) (fun _ => hA H locs ls g1 g2 g3 g4)
  · exact lv_if_gt hC.1 hC.2.1 hd ht (fun _ => hA H locs ls g1 g2 g3 g4) (fun hn => absurd hP hn)
  · exact lv_if_gt hC.1 hC.2.1 hd ht (fun hn => absurd hn hP) (fun _ => hA H locs ls g1 g2 g3 g4)
  · exact lv_if_le hC.1 hC.2.1 hd ht (fun _ => hA H locs ls g1 g2 g3 g4) (fun hn => absurd hP hn)
  · exact lv_if_le hC.1 hC.2.1 hd ht (fun hn => absurd hn hP) (fun _ => hA H locs ls g1 g2 g3 g4)
theorem pt_gf_ok {i : Nat} (hd : decode Y.2.1 pc = .ok (.getfield i, 3)) (h : pt_gf o pc L M (pt_fl Y.1 i) st = some (c, o', σ')) (hc : ∀ Z, c = some Z → Z) : pt_Go Y (pc, L, st, M) σ' := by
  unfold pt_gf at h
  split at h
  · cases h
  · rename_i k f hf
    split at h
    · split at h
      · cases h
      · rename_i hk
        split at h
        · cases h
        · rename_i hv
          cases h
          cases Nat.eq_of_beq_eq_true hk
          exact pt_getf hf (pt_vd_ok hv hc) hd
    · cases h
end PTS
end
section
section PTS2
variable {Y : pt_Y} {n tgt : Nat} {o o' : List pt_O} {pc : Nat} {L : List (Nat × pt_V)} {st : List pt_V} {M : pt_M} {c : Option Prop} {σ' : pt_S}
/-- a field that is a number: not final, of type int, or boolean -/
def pt_pb (k f : Nat) : Bool := match pt_ob k with
  | none => true
  | some z => match vwCl[z.1]? with
    | none => true
    | some q => !(Nat.blt f z.2) || !(Nat.beq (pt_fs k f) 0) || (!(q.2.1 f).2.2.2 && decide (pt_t0 q.2.1 f = if pt_bz k f then .boolean else .int))
set_option maxRecDepth 100000 in
theorem pt_pb_ok : (List.range 8).all (fun k => (List.range 21).all (fun f => pt_pb k f)) = true := by decide +kernel
theorem pt_pb_of {k f ci N : Nat} {C : String} {T : u_T} (h1 : pt_ob k = some (ci, N)) (h2 : vwCl[ci]? = some (C, T, N)) (h3 : f < N) (h0 : pt_fs k f = 0) : (T f).2.2.2 = false ∧ pt_t0 T f = if pt_bz k f then .boolean else .int := by
  have hk : k < 8 := by
    unfold pt_ob at h1
    split at h1 <;> first | decide | cases h1
  have hN : N ≤ 21 := by
    unfold pt_ob at h1
    split at h1 <;> cases h1 <;> decide
  have h := List.all_eq_true.mp (List.all_eq_true.mp pt_pb_ok k (List.mem_range.mpr hk)) f (List.mem_range.mpr (by omega))
  unfold pt_pb at h
  rw [h1] at h
  dsimp only at h
  rw [h2] at h
  dsimp only at h
  rw [h0] at h
  have hb : Nat.blt f N = true := Nat.ble_eq_true_of_le h3
  rw [hb] at h
  simpa using h
theorem pt_pf_ok {i : Nat} (hd : decode Y.2.1 pc = .ok (.putfield i, 3)) (h : pt_pf o pc L M (pt_fl Y.1 i) st = some (c, o', σ')) (hc : ∀ Z, c = some Z → Z) : pt_Go Y (pc, L, st, M) σ' := by
  unfold pt_pf at h
  split at h
  · cases h
  · rename_i k f hf
    split at h
    · split at h
      · cases h
      · rename_i x k' i' st' hk
        rw [Bool.and_eq_true] at hk
        obtain ⟨hk1, hk2⟩ := hk
        split at h
        · cases h
        · rename_i c0 hv
          cases Nat.eq_of_beq_eq_true hk1
          have h0 := Nat.eq_of_beq_eq_true hk2
          cases hbz : pt_bz k f with
          | true =>
            rw [hbz] at h
            cases h
            obtain ⟨hb, hc'⟩ := pt_cj_ok hc
            refine pt_putf hf (pt_vd_ok hv hc') h0 (fun ci C T N h1 h2 => ?_) hd
            obtain ⟨_, _, _, _, e1, e2, e3, -⟩ := pt_fl_ok hf
            cases e1.symm.trans h1
            obtain ⟨w1, w2⟩ := pt_pb_of h1 h2 e3 h0
            rw [hbz] at w2
            rw [w2]
            rcases hb with rfl | rfl
            · exact ⟨w1, rfl, rfl⟩
            · exact ⟨w1, rfl, rfl⟩
          | false =>
            rw [hbz] at h
            cases h
            refine pt_putf hf (pt_vd_ok hv hc) h0 (fun ci C T N h1 h2 => ?_) hd
            obtain ⟨_, _, _, _, e1, e2, e3, -⟩ := pt_fl_ok hf
            cases e1.symm.trans h1
            obtain ⟨w1, w2⟩ := pt_pb_of h1 h2 e3 h0
            rw [hbz] at w2
            rw [w2]
            exact ⟨w1, rfl, rfl⟩
    · split at h
      · rename_i hk
        cases h
        rw [Bool.and_eq_true] at hk
        cases Nat.eq_of_beq_eq_true hk.1
        cases Nat.eq_of_beq_eq_true hk.2
        exact pt_putS hf hd
      · cases h
    · cases h
theorem pt_al_ok {I : Instr} {t : Nat} (hd : decode Y.2.1 pc = .ok (I, 1)) (hI : (t = 0 ∧ I = .iaload) ∨ (t = 1 ∧ I = .baload) ∨ (t = 2 ∧ I = .laload) ∨ (t = 3 ∧ I = .aaload)) (h : pt_al t o pc L M st = some (c, o', σ')) (hc : ∀ Z, c = some Z → Z) : pt_Go Y (pc, L, st, M) σ' := by
  unfold pt_al at h
  split at h
  · rename_i j k i st'
    split at h
    · rename_i t' n' ha
      split at h
      · cases h
      · rename_i ht
        cases Nat.eq_of_beq_eq_true ht
        split at h
        · cases h
        · rename_i c0 hv
          rcases hI with ⟨rfl, rfl⟩ | ⟨rfl, rfl⟩ | ⟨rfl, rfl⟩ | ⟨rfl, rfl⟩
          · cases h
            obtain ⟨hj, hc'⟩ := pt_cj_ok hc
            exact pt_iald ha (pt_vd_ok hv hc') hj hd
          · cases h
            obtain ⟨hj, hc'⟩ := pt_cj_ok hc
            exact pt_bald ha (pt_vd_ok hv hc') hj hd
          · cases h
            obtain ⟨hj, hc'⟩ := pt_cj_ok hc
            exact pt_lald ha (pt_vd_ok hv hc') hj hd
          · cases h
            obtain ⟨hj, hc'⟩ := pt_cj_ok hc
            exact pt_aald ha (pt_vd_ok hv hc') hj hd
    · split at h
      · split at h
        · split at h
          · rename_i q hq
            cases h
            rcases hI with ⟨-, rfl⟩ | ⟨z, -⟩ | ⟨z, -⟩ | ⟨z, -⟩
            · exact pt_xald (n := q.1) (f := q.2) hq (hc _ rfl) hd
            · cases z
            · cases z
            · cases z
          · cases h
        · cases h
      · cases h
  · cases h
theorem pt_len_ok (hd : decode Y.2.1 pc = .ok (.arraylength, 1)) (h : pt_len o pc L M st = some (c, o', σ')) (hc : ∀ Z, c = some Z → Z) : pt_Go Y (pc, L, st, M) σ' := by
  unfold pt_len at h
  split at h
  · split at h
    · rename_i ha
      split at h
      · cases h
      · rename_i ht
        split at h
        · cases h
        · rename_i hv
          cases h
          exact pt_alen ha (Nat.le_of_ble_eq_true ht) (pt_vd_ok hv hc) hd
    · split at h
      · split at h
        · rename_i q hq
          cases h
          exact pt_xlen (n := q.1) (f := q.2) hq hd
        · cases h
      · cases h
  · cases h
theorem pt_as_ok {I : Instr} {t : Nat} (hd : decode Y.2.1 pc = .ok (I, 1)) (hI : (t = 0 ∧ I = .iastore) ∨ (t = 1 ∧ I = .bastore) ∨ (t = 2 ∧ I = .lastore) ∨ (t = 3 ∧ I = .aastore)) (h : pt_as t o pc L M st = some (c, o', σ')) (hc : ∀ Z, c = some Z → Z) : pt_Go Y (pc, L, st, M) σ' := by
  unfold pt_as at h
  split at h
  · split at h
    · rename_i ha
      split at h
      · cases h
      · rename_i ht
        cases Nat.eq_of_beq_eq_true ht
        split at h
        · cases h
        · rename_i hv
          rcases hI with ⟨rfl, rfl⟩ | ⟨rfl, rfl⟩ | ⟨rfl, rfl⟩ | ⟨rfl, rfl⟩
          · cases h
            obtain ⟨hj, hc'⟩ := pt_cj_ok hc
            exact pt_iast ha (pt_vd_ok hv hc') hj hd
          · cases h
            obtain ⟨hj, hc'⟩ := pt_cj_ok hc
            exact pt_bast ha (pt_vd_ok hv hc') hj hd
          · cases h
          · cases h
    · cases h
  · split at h
    · rename_i ha
      split at h
      · rename_i ht
        rw [Bool.and_eq_true] at ht
        cases h
        cases Nat.eq_of_beq_eq_true ht.1
        rcases hI with ⟨z, -⟩ | ⟨z, -⟩ | ⟨-, rfl⟩ | ⟨z, -⟩
        · cases z
        · cases z
        · exact pt_last ha (Nat.eq_of_beq_eq_true ht.2) (hc _ rfl) hd
        · cases z
      · cases h
    · cases h
  · split at h
    · rename_i ht
      cases h
      cases Nat.eq_of_beq_eq_true ht
      rcases hI with ⟨z, -⟩ | ⟨z, -⟩ | ⟨z, -⟩ | ⟨-, rfl⟩
      · cases z
      · cases z
      · cases z
      · exact pt_aast (hc _ rfl).2 (hc _ rfl).1 hd
    · cases h
  · cases h
theorem pt_cal_ok {I : Instr} (hd : decode Y.2.1 pc = .ok (I, 3)) (h : pt_cal Y I o pc L M st = some (c, o', σ')) (hc : ∀ Z, c = some Z → Z) : pt_Go Y (pc, L, st, M) σ' := by
  unfold pt_cal at h
  split at h
  · rename_i n r M' o1
    split at h
    · rename_i hn
      rw [Bool.and_eq_true] at hn
      cases h
      have h1 := hc _ rfl pc L (st.drop n) hd (Nat.le_of_ble_eq_true hn.2)
      rw [List.reverse_reverse, List.take_append_drop] at h1
      exact h1
    · cases h
  · cases h
end PTS2

/-- an instruction's length -/
def pt_ln (I : Instr) : Nat := match I with
  | .iload _ => 2
  | .aload _ => 2
  | .lload _ => 2
  | .istore _ => 2
  | .astore _ => 2
  | .lstore _ => 2
  | .bipush _ => 2
  | .sipush _ => 3
  | .ldc_w _ => 3
  | .ldc2_w _ => 3
  | .goto _ => 3
  | .if_icmp _ _ => 3
  | .ifCond _ _ => 3
  | .ifnull _ => 3
  | .ifnonnull _ => 3
  | .iinc _ _ => 3
  | .getfield _ => 3
  | .putfield _ => 3
  | .getstatic _ => 3
  | .invokevirtual _ => 3
  | .invokestatic _ => 3
  | .invokespecial _ => 3
  | .new _ => 3
  | _ => 1
set_option maxRecDepth 100000 in
theorem pt_kc_ok {cn idx : Nat} {v : Int32} (h : pt_kc cn idx = some v) : Cond.constant (pt_own cn) idx v ∈ pt_tb := by
  unfold pt_kc at h
  split at h
  · split at h
    · cases h; decide +kernel
    · cases h; decide +kernel
    · cases h; decide +kernel
    · cases h
  · cases h
set_option maxRecDepth 100000 in
theorem pt_kl_ok {cn idx : Nat} {v : Int64} (h : pt_kl cn idx = some v) : Cond.constantLong (pt_own cn) idx v ∈ pt_tb := by
  unfold pt_kl at h
  split at h
  · split at h
    · cases h; decide +kernel
    · cases h; decide +kernel
    · cases h
  · cases h
set_option maxRecDepth 100000 in
theorem pt_sk_ok {cn idx k : Nat} (h : pt_sk cn idx = some k) : ∃ nm, pt_sn k = some nm ∧ Cond.fieldLink (pt_own cn) idx "PointTables" nm "[I" ∈ pt_tb := by
  unfold pt_sk at h
  split at h
  · split at h
    · cases h; exact ⟨_, rfl, by decide +kernel⟩
    · cases h; exact ⟨_, rfl, by decide +kernel⟩
    · cases h; exact ⟨_, rfl, by decide +kernel⟩
    · cases h; exact ⟨_, rfl, by decide +kernel⟩
    · cases h; exact ⟨_, rfl, by decide +kernel⟩
    · cases h
  · cases h
end
section
set_option maxHeartbeats 4000000 in
theorem pt_stp_ok {Y : pt_Y} {I : Instr} {n tgt : Nat} {o o' : List pt_O} {σ σ' : pt_S} {c : Option Prop} (h : pt_stp Y I n tgt o σ = some (c, o', σ')) (hc : ∀ Z, c = some Z → Z) (hd : decode Y.2.1 σ.1 = .ok (I, n)) (hn : n = pt_ln I) (ht : pt_tg I σ.1 tgt = true) : pt_Go Y σ σ' := by
  obtain ⟨pc, L, st, M⟩ := σ
  subst hn
  unfold pt_stp at h
  dsimp only at h hd ht
  split at h
  · exact pt_ldi_ok hd h
  · exact pt_ldin_ok hd h
  · exact pt_lda_ok hd h
  · exact pt_ldan_ok hd h
  · exact pt_ldl_ok hd h
  · exact pt_svi_ok hd h
  · exact pt_svin_ok hd h
  · exact pt_sva_ok hd h
  · exact pt_svan_ok hd h
  · split at h
    · split at h
      · rename_i hk
        cases h
        intro p l e s m args below meth c D ad cA A cells slots Q hC hA H locs ls g1 g2 g3 g4
        exact lv_lstore hC.1 hC.2.1 hd g4 (Nat.le_of_ble_eq_true hk) rfl (fun ls' h' => hA H locs ls' g1 g2 g3 (pt_has2 (v := pt_l _) h'))
      · cases h
    · cases h
  · cases h
    intro p l e s m args below meth c D ad cA A cells slots Q hC hA H locs ls g1 g2 g3 g4
    exact lv_iconst hC.1 hC.2.1 hd rfl (hA H locs ls g1 g2 g3 g4)
  · cases h
    intro p l e s m args below meth c D ad cA A cells slots Q hC hA H locs ls g1 g2 g3 g4
    exact lv_bipush hC.1 hC.2.1 hd rfl (hA H locs ls g1 g2 g3 g4)
  · cases h
    intro p l e s m args below meth c D ad cA A cells slots Q hC hA H locs ls g1 g2 g3 g4
    exact lv_sipush hC.1 hC.2.1 hd rfl (hA H locs ls g1 g2 g3 g4)
  · cases h
    intro p l e s m args below meth c D ad cA A cells slots Q hC hA H locs ls g1 g2 g3 g4
    exact lv_lconst hC.1 hC.2.1 hd rfl (hA H locs ls g1 g2 g3 g4)
  · split at h
    · rename_i hk
      cases h
      intro p l e s m args below meth c D ad cA A cells slots Q hC hA H locs ls g1 g2 g3 g4
      exact lv_ldcw hC.1 hC.2.1 hC.2.2.2.2.1 (hC.2.2.2.2.2.1 _ (pt_kc_ok hk)) hd (hA H locs ls g1 g2 g3 g4)
    · cases h
  · split at h
    · rename_i hk
      cases h
      intro p l e s m args below meth c D ad cA A cells slots Q hC hA H locs ls g1 g2 g3 g4
      exact lv_ldc2 hC.1 hC.2.1 hC.2.2.2.2.1 (hC.2.2.2.2.2.1 _ (pt_kl_ok hk)) hd (hA H locs ls g1 g2 g3 g4)
    · cases h
  · cases h
    intro p l e s m args below meth c D ad cA A cells slots Q hC hA H locs ls g1 g2 g3 g4
    exact lv_null hC.1 hC.2.1 hd (hA H locs ls g1 g2 g3 g4)
  · obtain ⟨x, y, st', rfl, -, rfl⟩ := pt_s2_in h
    intro p l e s m args below meth c D ad cA A cells slots Q hC hA H locs ls g1 g2 g3 g4
    exact lv_iadd hC.1 hC.2.1 hd (hA H locs ls g1 g2 g3 g4)
  · obtain ⟨x, y, st', rfl, -, rfl⟩ := pt_s2_in h
    intro p l e s m args below meth c D ad cA A cells slots Q hC hA H locs ls g1 g2 g3 g4
    exact lv_isub hC.1 hC.2.1 hd (hA H locs ls g1 g2 g3 g4)
  · obtain ⟨x, y, st', rfl, -, rfl⟩ := pt_s2_in h
    intro p l e s m args below meth c D ad cA A cells slots Q hC hA H locs ls g1 g2 g3 g4
    exact lv_imul hC.1 hC.2.1 hd (hA H locs ls g1 g2 g3 g4)
  · obtain ⟨x, y, st', rfl, hq, rfl⟩ := pt_s2_in h
    intro p l e s m args below meth c D ad cA A cells slots Q hC hA H locs ls g1 g2 g3 g4
    exact lv_idiv hC.1 hC.2.1 hd (hc _ hq) (hA H locs ls g1 g2 g3 g4)
  · obtain ⟨x, y, st', rfl, hq, rfl⟩ := pt_s2_in h
    intro p l e s m args below meth c D ad cA A cells slots Q hC hA H locs ls g1 g2 g3 g4
    exact lv_irem hC.1 hC.2.1 hd (hc _ hq) (hA H locs ls g1 g2 g3 g4)
  · obtain ⟨x, y, st', rfl, -, rfl⟩ := pt_s2_in h
    intro p l e s m args below meth c D ad cA A cells slots Q hC hA H locs ls g1 g2 g3 g4
    exact lv_iand hC.1 hC.2.1 hd (hA H locs ls g1 g2 g3 g4)
  · obtain ⟨x, y, st', rfl, -, rfl⟩ := pt_s2_in h
    intro p l e s m args below meth c D ad cA A cells slots Q hC hA H locs ls g1 g2 g3 g4
    exact lv_ior hC.1 hC.2.1 hd (hA H locs ls g1 g2 g3 g4)
  · obtain ⟨x, y, st', rfl, -, rfl⟩ := pt_s2_in h
    intro p l e s m args below meth c D ad cA A cells slots Q hC hA H locs ls g1 g2 g3 g4
    exact lv_ixor hC.1 hC.2.1 hd (hA H locs ls g1 g2 g3 g4)
  · obtain ⟨x, y, st', rfl, -, rfl⟩ := pt_s2_in h
    intro p l e s m args below meth c D ad cA A cells slots Q hC hA H locs ls g1 g2 g3 g4
    exact lv_ishl hC.1 hC.2.1 hd (hA H locs ls g1 g2 g3 g4)
  · obtain ⟨x, y, st', rfl, -, rfl⟩ := pt_s2_in h
    intro p l e s m args below meth c D ad cA A cells slots Q hC hA H locs ls g1 g2 g3 g4
    exact lv_ishr hC.1 hC.2.1 hd (hA H locs ls g1 g2 g3 g4)
  · obtain ⟨x, y, st', rfl, -, rfl⟩ := pt_s2_in h
    intro p l e s m args below meth c D ad cA A cells slots Q hC hA H locs ls g1 g2 g3 g4
    exact lv_iushr hC.1 hC.2.1 hd rfl (hA H locs ls g1 g2 g3 g4)
  · obtain ⟨x, st', rfl, rfl⟩ := pt_s1_in h
    intro p l e s m args below meth c D ad cA A cells slots Q hC hA H locs ls g1 g2 g3 g4
    exact lv_ineg hC.1 hC.2.1 hd (hA H locs ls g1 g2 g3 g4)
  · obtain ⟨x, st', rfl, rfl⟩ := pt_s1_in h
    intro p l e s m args below meth c D ad cA A cells slots Q hC hA H locs ls g1 g2 g3 g4
    exact lv_i2b hC.1 hC.2.1 hd rfl (hA H locs ls g1 g2 g3 g4)
  · obtain ⟨x, st', rfl, rfl⟩ := pt_s1_in h
    intro p l e s m args below meth c D ad cA A cells slots Q hC hA H locs ls g1 g2 g3 g4
    exact lv_i2s hC.1 hC.2.1 hd rfl (hA H locs ls g1 g2 g3 g4)
  · obtain ⟨x, st', rfl, rfl⟩ := pt_s1_in h
    intro p l e s m args below meth c D ad cA A cells slots Q hC hA H locs ls g1 g2 g3 g4
    exact lv_i2l hC.1 hC.2.1 hd rfl (hA H locs ls g1 g2 g3 g4)
  · obtain ⟨x, y, st', rfl, rfl⟩ := pt_g2_in h
    intro p l e s m args below meth c D ad cA A cells slots Q hC hA H locs ls g1 g2 g3 g4
    exact lv_lsub hC.1 hC.2.1 hd (hA H locs ls g1 g2 g3 g4)
  · obtain ⟨x, y, st', rfl, rfl⟩ := pt_g2_in h
    intro p l e s m args below meth c D ad cA A cells slots Q hC hA H locs ls g1 g2 g3 g4
    exact lv_lmul hC.1 hC.2.1 hd (hA H locs ls g1 g2 g3 g4)
  · obtain ⟨x, y, st', rfl, rfl⟩ := pt_g2_in h
    intro p l e s m args below meth c D ad cA A cells slots Q hC hA H locs ls g1 g2 g3 g4
    exact W.lcmp hC.1 hC.2.1 hd (hA H locs ls g1 g2 g3 g4)
  · cases h
    intro p l e s m args below meth c D ad cA A cells slots Q hC hA H locs ls g1 g2 g3 g4
    exact lv_goto hC.1 hC.2.1 hd (of_decide_eq_true ht) (hA H locs ls g1 g2 g3 g4)
  · split at h
    · exact pt_icmp_ok hd (of_decide_eq_true ht) (pt_br_in h hc)
    · cases h
  · split at h
    · exact pt_if_ok hd (of_decide_eq_true ht) (pt_br_in h hc)
    · cases h
  · split at h
    · cases h
      intro p l e s m args below meth c D ad cA A cells slots Q hC hA H locs ls g1 g2 g3 g4
      exact lv_ifnullN hC.1 hC.2.1 hd (of_decide_eq_true ht) (hA H locs ls g1 g2 g3 g4)
    · cases h
      intro p l e s m args below meth c D ad cA A cells slots Q hC hA H locs ls g1 g2 g3 g4
      exact lv_ifnull hC.1 hC.2.1 hd (hA H locs ls g1 g2 g3 g4)
    · cases h
  · split at h
    · cases h
      intro p l e s m args below meth c D ad cA A cells slots Q hC hA H locs ls g1 g2 g3 g4
      exact lv_ifnonnullN hC.1 hC.2.1 hd (hA H locs ls g1 g2 g3 g4)
    · cases h
      intro p l e s m args below meth c D ad cA A cells slots Q hC hA H locs ls g1 g2 g3 g4
      exact lv_ifnonnull hC.1 hC.2.1 hd (of_decide_eq_true ht) (hA H locs ls g1 g2 g3 g4)
    · cases h
  · split at h
    · rename_i hlk
      split at h
      · rename_i hk
        cases h
        intro p l e s m args below meth c D ad cA A cells slots Q hC hA H locs ls g1 g2 g3 g4
        obtain ⟨kq, hkq⟩ := List.getElem?_of_mem (List.mem_map.mpr ⟨_, pt_lk_mem hlk, rfl⟩ : _ ∈ pt_cl ad L)
        exact lv_iinc hC.1 hC.2.1 hd g4 (k := kq) hkq rfl (Nat.le_of_ble_eq_true hk) rfl (fun ls' h' => hA H locs ls' g1 g2 g3 (pt_has1 (v := pt_i _) h'))
      · cases h
    · cases h
  · split at h
    · split at h
      · rename_i hv
        cases h
        intro p l e s m args below meth c D ad cA A cells slots Q hC hA H locs ls g1 g2 g3 g4
        exact lv_dup hC.1 hC.2.1 hd (by rw [pt_cat, hv]; rfl) (hA H locs ls g1 g2 g3 g4)
      · cases h
    · cases h
  · split at h
    · split at h
      · rename_i hv
        cases h
        rw [Bool.or_eq_false_iff] at hv
        intro p l e s m args below meth c D ad cA A cells slots Q hC hA H locs ls g1 g2 g3 g4
        exact lv_dup2_11 hC.1 hC.2.1 hd (by rw [pt_cat, hv.1]; rfl) (by rw [pt_cat, hv.2]; rfl) (hA H locs ls g1 g2 g3 g4)
      · cases h
    · cases h
  · exact pt_gf_ok hd h hc
  · exact pt_pf_ok hd h hc
  · split at h
    · rename_i k hk
      cases h
      intro p l e s m args below meth c D ad cA A cells slots Q hC hA H locs ls g1 g2 g3 g4
      obtain ⟨nm, hnm, hw⟩ := pt_sk_ok hk
      obtain ⟨k, rfl⟩ : ∃ n, k = n + 1 := by
        apply pt_k1
        rintro rfl
        cases hnm
      exact va_gets hC.1 hC.2.1 (g2.2 _ _ hnm) g3 hC.2.2.2.2.1 (hC.2.2.2.2.2.1 _ hw) (fun _ z => z) hd (hA H locs ls g1 g2 g3 g4)
    · cases h
  · exact pt_al_ok hd (Or.inl ⟨rfl, rfl⟩) h hc
  · exact pt_al_ok hd (Or.inr (Or.inl ⟨rfl, rfl⟩)) h hc
  · exact pt_al_ok hd (Or.inr (Or.inr (Or.inl ⟨rfl, rfl⟩))) h hc
  · exact pt_al_ok hd (Or.inr (Or.inr (Or.inr ⟨rfl, rfl⟩))) h hc
  · exact pt_as_ok hd (Or.inl ⟨rfl, rfl⟩) h hc
  · exact pt_as_ok hd (Or.inr (Or.inl ⟨rfl, rfl⟩)) h hc
  · exact pt_as_ok hd (Or.inr (Or.inr (Or.inl ⟨rfl, rfl⟩))) h hc
  · exact pt_as_ok hd (Or.inr (Or.inr (Or.inr ⟨rfl, rfl⟩))) h hc
  · exact pt_len_ok hd h hc
  · exact pt_cal_ok hd h hc
  · exact pt_cal_ok hd h hc
  · cases h
/-- a method's instructions, by sixteens: place, instruction, length, target -/
abbrev pt_B : Type := List (List (Nat × Instr × Nat × Nat))
def pt_b1 : List (Nat × Instr × Nat × Nat) → Nat → Option (Instr × Nat × Nat)
  | [], _ => none
  | q :: t, i => match Nat.beq q.1 i with
    | true => some q.2
    | false => pt_b1 t i
def pt_bn : pt_B → Nat → List (Nat × Instr × Nat × Nat)
  | [], _ => []
  | q :: _, 0 => q
  | _ :: t, n + 1 => pt_bn t n
def pt_okI (b : ByteArray) (q : Nat × Instr × Nat × Nat) : Bool := match decode b q.1 with
  | .ok z => decide (z = (q.2.1, q.2.2.1)) && Nat.beq q.2.2.1 (pt_ln q.2.1) && pt_tg q.2.1 q.1 q.2.2.2
  | .error _ => false
def pt_ok (b : ByteArray) (t : pt_B) : Bool := t.all fun r => r.all (pt_okI b)
theorem pt_b1_mem : ∀ {l : List (Nat × Instr × Nat × Nat)} {i : Nat} {v : Instr × Nat × Nat}, pt_b1 l i = some v → (i, v) ∈ l
  | [], _, _, h => by cases h
  | q :: t, i, v, h => by
    unfold pt_b1 at h
    split at h
    · rename_i hq
      cases h
      have : q.1 = i := Nat.eq_of_beq_eq_true hq
      subst this
      exact List.mem_cons_self
    · exact List.mem_cons_of_mem _ (pt_b1_mem h)
theorem pt_bn_all {P : Nat × Instr × Nat × Nat → Bool} : ∀ {t : pt_B} {n : Nat}, (t.all fun r => r.all P) = true → ∀ q ∈ pt_bn t n, P q = true
  | [], n, _, q, h => by cases n <;> cases h
  | r :: t, 0, ha, q, h => by
    rw [List.all_cons, Bool.and_eq_true] at ha
    exact List.all_eq_true.mp ha.1 q h
  | r :: t, n + 1, ha, q, h => by
    rw [List.all_cons, Bool.and_eq_true] at ha
    exact pt_bn_all (n := n) ha.2 q h
def pt_run (Y : pt_Y) (t : pt_B) : Nat → List pt_O → pt_S → Option (Prop × pt_S)
  | 0, _, σ => some (True, σ)
  | k + 1, o, σ => match pt_b1 (pt_bn t (σ.1 / 16)) σ.1 with
    | none => none
    | some q => match pt_stp Y q.1 q.2.1 q.2.2 o σ with
      | none => none
      | some r => match pt_run Y t k r.2.1 r.2.2 with
        | none => none
        | some z => some (match r.1 with
          | none => z.1
          | some P => P ∧ z.1, z.2)
theorem pt_run_ok {Y : pt_Y} {t : pt_B} (hok : pt_ok Y.2.1 t = true) : ∀ (k : Nat) (o : List pt_O) {σ τ : pt_S} {P : Prop}, pt_run Y t k o σ = some (P, τ) → P → pt_Go Y σ τ
  | 0, o, σ, τ, P, h, hP => by
    unfold pt_run at h
    cases h
    exact pt_Go.rf
  | k + 1, o, σ, τ, P, h, hP => by
    unfold pt_run at h
    split at h
    · cases h
    · rename_i q hq
      split at h
      · cases h
      · rename_i r hr
        split at h
        · cases h
        · rename_i z hz
          cases h
          have hm := pt_bn_all hok _ (pt_b1_mem hq)
          unfold pt_okI at hm
          obtain ⟨I, n, tg⟩ := q
          obtain ⟨c, o', σ'⟩ := r
          obtain ⟨P', τ'⟩ := z
          split at hm
          · rename_i z hdz
            rw [Bool.and_eq_true, Bool.and_eq_true] at hm
            obtain ⟨⟨h1, h2⟩, h3⟩ := hm
            have e1 := of_decide_eq_true h1
            rw [e1] at hdz
            dsimp only at hr hz hP hdz h2 h3
            cases c with
            | none => exact (pt_stp_ok hr (fun Z z => by cases z) hdz (Nat.eq_of_beq_eq_true h2) h3).tr (pt_run_ok hok k o' hz hP)
            | some P0 => exact (pt_stp_ok hr (fun Z z => by cases z; exact hP.1) hdz (Nat.eq_of_beq_eq_true h2) h3).tr (pt_run_ok hok k o' hz hP.2)
          · cases hm
end
section
/-! a method does what is said of it: 'pt_Does'; calling it -/
def pt_Ad (ad : Nat → Nat → Nat) : Nat → Prop := fun q => ∃ k i, pt_dm k i ∧ q = ad k i
def pt_Pc (D : va_G) (ad : Nat → Nat → Nat) (cA : Nat → ClassId) (M : pt_M) (vs : List pt_V) : Array Value → State → Prop := fun a U => a = (vs.map (pt_cv ad)).toArray ∧ pt_Hd D ad cA M U.heap ∧ pt_Wd D ad cA U ∧ pt_Ro ad (pt_Ad ad) M U
def pt_Qc (D : va_G) (ad : Nat → Nat → Nat) (cA : Nat → ClassId) (r : Option pt_V) (M' : pt_M) : Array Value → State → Outcome → State → Prop := fun _ st oc t => oc = .returned (r.map (pt_cv ad)) ∧ pt_Hd D ad cA M' t.heap ∧ va_F (pt_Ad ad) st t
def pt_Does (y : MethodName) (Y : pt_Y) (vs : List pt_V) (M : pt_M) (r : Option pt_V) (M' : pt_M) : Prop :=
  M'.2.2.2.2 = M.2.2.2.2 ∧ ∀ (l : Launch) (D : va_G) (ad : Nat → Nat → Nat) (cA : Nat → ClassId), Met l y (Cond.code y Y.2.1 Y.2.2.1 Y.2.2.2.1 :: pt_tb) Y.2.2.2.2 (pt_Pc D ad cA M vs) (pt_Qc D ad cA r M') 0 0 (pt_Ad ad)
def pt_en : Nat → List pt_V → List (Nat × pt_V)
  | _, [] => []
  | i, v :: vs => (i, v) :: pt_en (match pt_isL v with
    | true => i + 2
    | false => i + 1) vs
theorem pt_en_ok (ad : Nat → Nat → Nat) : ∀ (vs : List pt_V) (i : Nat), pt_cl ad (pt_en i vs) = lv_args i (vs.map (pt_cv ad))
  | [], _ => rfl
  | v :: vs, i => by
    show (i, pt_cv ad v) :: pt_cl ad (pt_en _ vs) = (i, pt_cv ad v) :: lv_args _ (vs.map (pt_cv ad))
    rw [pt_en_ok ad vs, pt_cat]
    cases pt_isL v <;> rfl
theorem pt_sl_len (ad : Nat → Nat → Nat) : ∀ vs : List pt_V, (lg_sl (vs.map (pt_cv ad))).length = (vs.map pt_w).sum
  | [] => rfl
  | v :: vs => by
    have ih := pt_sl_len ad vs
    unfold lg_sl at ih ⊢
    rw [List.map_cons, List.flatMap_cons, List.length_append, ih, List.map_cons, List.sum_cons, pt_cat]
    unfold pt_w
    cases pt_isL v <;> rfl
theorem pt_F0 {ad : Nat → Nat → Nat} {r : Option pt_V} {st : List pt_V} : (r.toList ++ st).map (pt_cv ad) = (r.map (pt_cv ad)).toList ++ st.map (pt_cv ad) := by
  cases r <;> simp
/-- the ends of a method -/
theorem pt_does {y : MethodName} {Y : pt_Y} {vs : List pt_V} {M M' : pt_M} {r : Option pt_V} (hy : plainFor y = true) (hown : y.cls = pt_own Y.1) (hvs : (vs.map pt_w).sum ≤ Y.2.2.1) (hX : M'.2.2.2.2 = M.2.2.2.2)
    (h : ∀ (p : Program) (l : Launch) (e : Env) (s : State) (m : MethodId) (args : Array Value) (below : List Frame) (meth : Method) (c : Code) (D : va_G) (ad : Nat → Nat → Nat) (cA : Nat → ClassId), pt_Cx Y p s m args meth c D ad cA (pt_Ad ad) 0 0 →
      pt_At Y p l e s m args below meth c D ad cA (pt_Ad ad) 0 0 (MQ below (pt_Qc D ad cA r M') args s 0 0 (pt_Ad ad)) (0, pt_en 0 vs, [], M)) : pt_Does y Y vs M r M' := by
  refine ⟨hX, fun l D ad cA => ?_⟩
  refine MetFree.of_bodySF (code := Y.2.1) (maxLocals := Y.2.2.1) (ret := Y.2.2.2.1) hy ?_ ?_
  · intro args s m h hn
    obtain ⟨meth, c, h1, h2, h3, h4, h5, h6, -, -⟩ := Cond.code_spec hn (atoms_spec (ws := Cond.code y Y.2.1 Y.2.2.1 Y.2.2.2.1 :: pt_tb) h _ List.mem_cons_self)
    exact ⟨meth, c, h1, h2, h3, h4, h5, h6⟩
  · intro p e s m args below meth c s₁ B hml hP _
    obtain ⟨rfl, hH, hW, hR⟩ := hP
    have hts := atoms_spec (ws := Cond.code y Y.2.1 Y.2.2.1 Y.2.2.2.1 :: pt_tb) B.pre
    have hh0 : s₁.heap = s.heap := by rw [B.state]; rfl
    have hcx : pt_Cx Y p s m (vs.map (pt_cv ad)).toArray meth c D ad cA (pt_Ad ad) 0 0 := ⟨B.exec, B.bytes, B.returns, hml, by rw [← hown]; exact findClass_of_methodNamed B.named, fun w hw => hts w (List.mem_cons_of_mem _ hw), ⟨B.notSynchronized, Nat.zero_le _, Nat.zero_le _⟩, hW, fun k i hd => ⟨k, i, hd, rfl⟩⟩
    have hl := lv_entry (vs.map (pt_cv ad)) (n := Y.2.2.1) (by rw [pt_sl_len]; exact hvs)
    rw [← pt_en_ok] at hl
    have K := h p l e s m (vs.map (pt_cv ad)).toArray below meth c D ad cA hcx s.heap [] _ hH hR va_S.rf hl
    obtain ⟨t, a1, o, b1, b2, b3⟩ := K s₁ hh0 (Stand.of_body B)
    refine ⟨t, o, ?_, b1, b2, ⟨b3.1, b3.2⟩⟩
    rw [lg_entry_eq]
    exact a1
theorem pt_reti {Y : pt_Y} {p : Program} {l : Launch} {e : Env} {s : State} {m : MethodId} {args : Array Value} {below : List Frame} {meth : Method} {c : Code} {D : va_G} {ad : Nat → Nat → Nat} {cA : Nat → ClassId} {pc : Nat} {L : List (Nat × pt_V)} {x : Int32} {M' : pt_M} {ty : FieldType} (hr : Y.2.2.2.1 = some ty) (hn : narrow ty (.int x) = .int x) (hd : decode Y.2.1 pc = .ok (.ireturn, 1)) (hC : pt_Cx Y p s m args meth c D ad cA (pt_Ad ad) 0 0) :
    pt_At Y p l e s m args below meth c D ad cA (pt_Ad ad) 0 0 (MQ below (pt_Qc D ad cA (some (pt_i x)) M') args s 0 0 (pt_Ad ad)) (pc, L, [pt_i x], M') := by
  intro H locs ls g1 g2 g3 g4
  obtain ⟨hx, hb, hrt, hml, hown, hts, hlk, hW, hAd⟩ := hC
  exact W.zret hx hb (hrt.trans hr) hn (fun t ht hW => ⟨rfl, by rw [ht]; exact g1, g3.F ht⟩) g3.2.2 hd hlk.1
theorem pt_retr {Y : pt_Y} {p : Program} {l : Launch} {e : Env} {s : State} {m : MethodId} {args : Array Value} {below : List Frame} {meth : Method} {c : Code} {D : va_G} {ad : Nat → Nat → Nat} {cA : Nat → ClassId} {pc : Nat} {L : List (Nat × pt_V)} {k i : Nat} {M' : pt_M} {ty : FieldType} (hr : Y.2.2.2.1 = some ty) (hn : (∃ n, ty = .object n) ∨ ∃ t, ty = .array t) (hd : decode Y.2.1 pc = .ok (.areturn, 1)) (hC : pt_Cx Y p s m args meth c D ad cA (pt_Ad ad) 0 0) :
    pt_At Y p l e s m args below meth c D ad cA (pt_Ad ad) 0 0 (MQ below (pt_Qc D ad cA (some (pt_r k i)) M') args s 0 0 (pt_Ad ad)) (pc, L, [pt_r k i], M') := by
  intro H locs ls g1 g2 g3 g4
  obtain ⟨hx, hb, hrt, hml, hown, hts, hlk, hW, hAd⟩ := hC
  exact W.aret hx hb (hrt.trans hr) hn (by cases k; exact Or.inl rfl; exact Or.inr ⟨_, rfl⟩) (fun t ht hW => ⟨rfl, by rw [ht]; exact g1, g3.F ht⟩) g3.2.2 hd hlk.1
theorem pt_retv {Y : pt_Y} {p : Program} {l : Launch} {e : Env} {s : State} {m : MethodId} {args : Array Value} {below : List Frame} {meth : Method} {c : Code} {D : va_G} {ad : Nat → Nat → Nat} {cA : Nat → ClassId} {pc : Nat} {L : List (Nat × pt_V)} {M' : pt_M} (hr : Y.2.2.2.1 = none) (hd : decode Y.2.1 pc = .ok (.return_, 1)) (hC : pt_Cx Y p s m args meth c D ad cA (pt_Ad ad) 0 0) :
    pt_At Y p l e s m args below meth c D ad cA (pt_Ad ad) 0 0 (MQ below (pt_Qc D ad cA none M') args s 0 0 (pt_Ad ad)) (pc, L, [], M') := by
  intro H locs ls g1 g2 g3 g4
  obtain ⟨hx, hb, hrt, hml, hown, hts, hlk, hW, hAd⟩ := hC
  exact W.vret hx hb (hrt.trans hr) (fun t ht hW => ⟨rfl, by rw [ht]; exact g1, g3.F ht⟩) g3.2.2 hd hlk.1
/-- the method comes to its return: what it answers, the memory behind it -/
def pt_rk (Y : pt_Y) (t : pt_B) (pc : Nat) (r : Option pt_V) : Prop := ∃ q, pt_b1 (pt_bn t (pc / 16)) pc = some q ∧ match r with
  | none => q.1 = .return_ ∧ Y.2.2.2.1 = none
  | some (.inl x) => q.1 = .ireturn ∧ ∃ ty, Y.2.2.2.1 = some ty ∧ narrow ty (.int x) = .int x
  | some (.inr (.inl _)) => False
  | some (.inr (.inr _)) => q.1 = .areturn ∧ ∃ ty, Y.2.2.2.1 = some ty ∧ ((∃ n, ty = .object n) ∨ ∃ t, ty = .array t)
theorem pt_dec {b : ByteArray} {t : pt_B} (hok : pt_ok b t = true) {pc : Nat} {q : Instr × Nat × Nat} (h : pt_b1 (pt_bn t (pc / 16)) pc = some q) : decode b pc = .ok (q.1, pt_ln q.1) := by
  have hm := pt_bn_all hok _ (pt_b1_mem h)
  unfold pt_okI at hm
  split at hm
  · rename_i z hdz
    rw [Bool.and_eq_true, Bool.and_eq_true] at hm
    obtain ⟨⟨h1, h2⟩, h3⟩ := hm
    have e1 := of_decide_eq_true h1
    rw [e1] at hdz
    rw [hdz, Nat.eq_of_beq_eq_true h2]
  · cases hm
theorem pt_does_go {y : MethodName} {Y : pt_Y} {t : pt_B} (hok : pt_ok Y.2.1 t = true) (hy : (plainFor y && decide (y.cls = pt_own Y.1)) = true) {vs : List pt_V} {M M' : pt_M} {r : Option pt_V} {pc : Nat} {L : List (Nat × pt_V)} (hvs : (vs.map pt_w).sum ≤ Y.2.2.1) (hX : M'.2.2.2.2 = M.2.2.2.2) (hr : pt_rk Y t pc r) (h : pt_Go Y (0, pt_en 0 vs, [], M) (pc, L, r.toList, M')) : pt_Does y Y vs M r M' := by
  rw [Bool.and_eq_true] at hy
  refine pt_does hy.1 (of_decide_eq_true hy.2) hvs hX fun p l e s m args below meth c D ad cA hC => h p l e s m args below meth c D ad cA (pt_Ad ad) 0 0 _ hC ?_
  obtain ⟨q, hq, hr⟩ := hr
  have hd := pt_dec hok hq
  match r, hr with
  | none, hr => rw [hr.1] at hd; exact pt_retv hr.2 hd hC
  | some (.inl x), hr =>
    obtain ⟨h1, ty, h2, h3⟩ := hr
    rw [h1] at hd
    exact pt_reti h2 h3 hd hC
  | some (.inr (.inr (k, i))), hr =>
    obtain ⟨h1, ty, h2, h3⟩ := hr
    rw [h1] at hd
    exact pt_retr h2 h3 hd hC
/-! calling -/
theorem pt_Wd.moved {D : va_G} {ad : Nat → Nat → Nat} {cA : Nat → ClassId} {s U : State} (h : s.vm.Alike U.vm) (hW : pt_Wd D ad cA s) : pt_Wd D ad cA U := ⟨va_K.moved h hW.1, hW.2⟩
theorem pt_Ro.moved {ad : Nat → Nat → Nat} {A B : Nat → Prop} {M : pt_M} {s U : State} {locs : List Loc} (h : s.vm.Alike U.vm) (hS : va_S A s.heap U.heap locs) (hAB : ∀ q, B q → A q) (hR : pt_Ro ad A M s) : pt_Ro ad B M U := by
  refine ⟨fun k q hq => ?_, fun k nm hn => ?_⟩
  · obtain ⟨h1, h2⟩ := hR.1 k q hq
    have hlt : ad k 0 < s.heap.size := by
      obtain ⟨scr, g1, -⟩ := h1
      exact (Array.getElem?_eq_some_iff.mp g1).1
    exact ⟨(h1.kept (hS.2.1 _ hlt h2)).moved h, fun z => h2 (hAB _ z)⟩
  · exact (((hR.2 k nm hn).kept (fun a h1 h2 => hS.2.1 a h1 h2)).moved h).narrow hAB
theorem pt_blind {D : va_G} {ad : Nat → Nat → Nat} {cA : Nat → ClassId} {M : pt_M} {vs : List pt_V} : FrameBlind (pt_Pc D ad cA M vs) := by
  intro a U g mk h
  obtain ⟨h1, h2, h3, h4⟩ := h
  exact ⟨h1, h2, pt_Wd.moved (s := U) (U := U.calling g mk a) (Vm.Alike.refl U.vm) h3, pt_Ro.moved (s := U) (U := U.calling g mk a) (A := pt_Ad ad) (locs := []) (Vm.Alike.refl U.vm) va_S.rf (fun _ z => z) h4⟩
theorem pt_goodw {y : MethodName} {b : ByteArray} {n : Nat} {r : Option FieldType} (h : Cond.code y b n r ∈ pt_tb) : GoodIn pt_tb (Cond.code y b n r :: pt_tb) := by
  intro w hw
  have hm : w ∈ pt_tb := by
    rcases List.mem_cons.mp hw with rfl | hw
    · exact h
    · exact hw
  exact ⟨hm, good_of_word (List.mem_filter.mp hm).2⟩
theorem pt_goes {Y : pt_Y} {pc : Nat} {L : List (Nat × pt_V)} {st st0 : List pt_V} {M M' : pt_M} {r : Option pt_V} {p : Program} {l : Launch} {e : Env} {s : State} {m : MethodId} {args : Array Value} {below : List Frame} {meth : Method} {c : Code} {D : va_G} {ad : Nat → Nat → Nat} {cA : Nat → ClassId} {A : Nat → Prop} {cells slots : Nat} {Q : State → Prop} {H : Heap} {locs : List Loc} {ls : Array Slot} {a : Array Value}
    (hX : M'.2.2.2.2 = M.2.2.2.2) (hAd : ∀ q, pt_Ad ad q → A q)
    (hr : va_Run p l e Y.2.2.2.2 s m args below meth c H locs cells slots 0 0 (F0 m pc ls (st0.map (pt_cv ad))) (st.map (pt_cv ad)) (pt_Qc D ad cA r M' a) (pt_Ad ad))
    (hA : pt_At Y p l e s m args below meth c D ad cA A cells slots Q (pc + 3, L, r.toList ++ st, M')) (g2 : pt_Ro ad A M s) (g3 : va_S A s.heap H locs) (g4 : lv_has ls Y.2.2.1 (pt_cl ad L)) :
    W p l e Y.2.2.2.2 s m args below meth c H locs cells slots Q (F0 m pc ls (st0.map (pt_cv ad))) := by
  intro T hT X
  obtain ⟨v, st₀, t, T', Lc, h0, X', hL, e1, e2, ⟨hv, hH', hz, hk⟩, stp⟩ := hr T hT X
  cases hv
  rw [h0] at hz hk
  have hro : pt_Ro ad A M' s := by
    refine ⟨fun k q hq => g2.1 k q ?_, g2.2⟩
    rw [← hq]
    unfold pt_ro pt_L pt_X
    rw [hX]
  have h3 : va_S A s.heap T'.heap (locs ++ Lc) := by
    refine ⟨Nat.le_trans g3.1 (by rw [e1]; exact hz), fun q h1 h2 => ?_, fun q hq => ?_⟩
    · rw [e1, hk q (Nat.lt_of_lt_of_le h1 g3.1) (fun z => h2 (hAd q z))]
      exact g3.2.1 q h1 h2
    · rcases List.mem_append.mp hq with h | h
      · exact g3.2.2 q h
      · exact hAd _ (hL q h)
  have K := hA T'.heap (locs ++ Lc) ls (by rw [e1]; exact hH') hro h3 g4
  dsimp only at K
  rw [pt_F0] at K
  obtain ⟨t2, a1, b1⟩ := K T' rfl X'
  exact ⟨t2, stp t2 a1, b1⟩

def pt_ckB (Y : pt_Y) (y : MethodName) (Yc : pt_Y) (n : Nat) : Bool :=
  decide (Cond.initialized y.cls ∈ pt_tb) && (decide (Cond.code y Yc.2.1 Yc.2.2.1 Yc.2.2.2.1 ∈ pt_tb) && (decide (y.cls ≠ "java/lang/invoke/MethodHandle" ∧ y.cls ≠ "java/lang/invoke/VarHandle") && (decide ((parseMethodDescriptor y.desc).map (fun d => d.parameters.length) = some n) &&
    (Nat.beq Yc.2.2.2.2.cells 0 && (Nat.beq Yc.2.2.2.2.slots 0 && (Nat.ble (Yc.2.2.2.2.frames + 1) Y.2.2.2.2.frames && Nat.ble (8 + (Yc.2.2.1 + 11) + Yc.2.2.2.2.locals) Y.2.2.2.2.locals))))))
theorem pt_ckB_ok {Y : pt_Y} {y : MethodName} {Yc : pt_Y} {n : Nat} (h : pt_ckB Y y Yc n = true) : Cond.initialized y.cls ∈ pt_tb ∧ Cond.code y Yc.2.1 Yc.2.2.1 Yc.2.2.2.1 ∈ pt_tb ∧ (y.cls ≠ "java/lang/invoke/MethodHandle" ∧ y.cls ≠ "java/lang/invoke/VarHandle" ∧ (parseMethodDescriptor y.desc).map (fun d => d.parameters.length) = some n) ∧ Yc.2.2.2.2.cells = 0 ∧ Yc.2.2.2.2.slots = 0 ∧ Yc.2.2.2.2.frames + 1 ≤ Y.2.2.2.2.frames ∧ 8 + (Yc.2.2.1 + 11) + Yc.2.2.2.2.locals ≤ Y.2.2.2.2.locals := by
  unfold pt_ckB at h
  simp only [Bool.and_eq_true, decide_eq_true_eq] at h
  obtain ⟨h1, h2, h3, h4, h5, h6, h7, h8⟩ := h
  exact ⟨h1, h2, ⟨h3.1, h3.2, h4⟩, Nat.eq_of_beq_eq_true h5, Nat.eq_of_beq_eq_true h6, Nat.le_of_ble_eq_true h7, Nat.le_of_ble_eq_true h8⟩
theorem pt_rm {ad : Nat → Nat → Nat} {m : MethodId} {pc : Nat} {ls : Array Slot} {rest : List Value} : ∀ {st : List pt_V}, (st.map pt_w).sum ≤ 8 → 2 * (F0 m pc ls rest).monitorRoom + ((st.map (pt_cv ad)).map fun v => v.category).sum ≤ 8 := by
  intro st h
  apply lv_room
  have : ((st.map (pt_cv ad)).map fun v => v.category) = st.map pt_w := by
    rw [List.map_map]
    apply List.map_congr_left
    intro v _
    show (pt_cv ad v).category = pt_w v
    rw [pt_cat]
    unfold pt_w
    cases pt_isL v <;> rfl
  rw [this]
  exact h
def pt_ckS (Y : pt_Y) (idx : Nat) (y : MethodName) (Yc : pt_Y) (n : Nat) : Bool := decide (Cond.methodLink (pt_own Y.1) idx y ∈ pt_tb) && (decide (Cond.static y ∈ pt_tb) && pt_ckB Y y Yc n)
theorem pt_callS {Y Yc : pt_Y} {idx n : Nat} {y : MethodName} {vs : List pt_V} {M M' : pt_M} {r : Option pt_V} (hk : pt_ckS Y idx y Yc n = true) (hn : vs.length = n) (hD : pt_Does y Yc vs M r M') : pt_Cal Y (.invokestatic idx) vs M r M' := by
  unfold pt_ckS at hk
  simp only [Bool.and_eq_true, decide_eq_true_eq] at hk
  obtain ⟨k1, k2, hk⟩ := hk
  obtain ⟨k3, k4, k5, k6, k7, k8, k9⟩ := pt_ckB_ok hk
  intro pc L st hd hst p l e s m args below meth c D ad cA A cells slots Q hC hA H locs ls g1 g2 g3 g4
  obtain ⟨hx, hb, hr, hml, hown, hts, hlk, hW, hAd⟩ := hC
  have hAB : ∀ q, pt_Ad ad q → A q := by
    rintro q ⟨k, i, h1, rfl⟩
    exact hAd k i h1
  have hcw : CallB Y.2.2.2.2 s args (pt_own Y.1) idx y Yc.2.1 Yc.2.2.1 Yc.2.2.2.1 (Cond.code y Yc.2.1 Yc.2.2.1 Yc.2.2.2.1 :: pt_tb) Yc.2.2.2.2 0 0 n := callB_of n hts (pt_goodw k4) rfl k6 k7 (hts _ k3) (hts _ k1) k5 ⟨k8, k9⟩
  refine pt_goes (a := (vs.map (pt_cv ad)).toArray) hD.1 hAB ?_ hA g2 g3 g4
  exact va_runS (As := vs.map (pt_cv ad)) (rest := st.map (pt_cv ad)) ⟨hx, hb, hml, hown, hts⟩ (hD.2 l D ad cA) ⟨hcw, hts _ k2⟩ ⟨pt_blind, fun U hU hWm => ⟨rfl, by rw [hU]; exact g1, hW.moved hWm.alike, pt_Ro.moved hWm.alike (by rw [hU]; exact g3) hAB g2⟩⟩ rfl (by rw [List.length_map]; exact hn) g4.1 (by show (vs.reverse ++ st).map _ = _; rw [List.map_append, List.map_reverse]) (pt_rm hst) hd ⟨hlk.2.1, hlk.2.2⟩
def pt_ckN (Y : pt_Y) (idx : Nat) (y : MethodName) (h : String) (Yc : pt_Y) (n : Nat) : Bool := decide (Cond.methodLinkNest (pt_own Y.1) idx y h ∈ pt_tb) && (decide (Cond.static y ∈ pt_tb) && pt_ckB Y y Yc n)
theorem pt_callN {Y Yc : pt_Y} {idx n : Nat} {y : MethodName} {h : String} {vs : List pt_V} {M M' : pt_M} {r : Option pt_V} (hk : pt_ckN Y idx y h Yc n = true) (hn : vs.length = n) (hD : pt_Does y Yc vs M r M') : pt_Cal Y (.invokestatic idx) vs M r M' := by
  unfold pt_ckN at hk
  simp only [Bool.and_eq_true, decide_eq_true_eq] at hk
  obtain ⟨k1, k2, hk⟩ := hk
  obtain ⟨k3, k4, k5, k6, k7, k8, k9⟩ := pt_ckB_ok hk
  intro pc L st hd hst p l e s m args below meth c D ad cA A cells slots Q hC hA H locs ls g1 g2 g3 g4
  obtain ⟨hx, hb, hr, hml, hown, hts, hlk, hW, hAd⟩ := hC
  have hAB : ∀ q, pt_Ad ad q → A q := by
    rintro q ⟨k, i, h1, rfl⟩
    exact hAd k i h1
  have hcw : va_CN Y.2.2.2.2 s args (pt_own Y.1) idx y h Yc.2.1 Yc.2.2.1 Yc.2.2.2.1 (Cond.code y Yc.2.1 Yc.2.2.1 Yc.2.2.2.1 :: pt_tb) Yc.2.2.2.2 0 0 n := va_cnB n hts (pt_goodw k4) rfl k6 k7 (va_Nw.of rfl (hts _ k1)) (hts _ k3) k5 ⟨k8, k9⟩
  refine pt_goes (a := (vs.map (pt_cv ad)).toArray) hD.1 hAB ?_ hA g2 g3 g4
  exact va_runSN (As := vs.map (pt_cv ad)) (rest := st.map (pt_cv ad)) ⟨hx, hb, hml, hown, hts⟩ (hD.2 l D ad cA) ⟨hcw, hts _ k2, trivial⟩ ⟨pt_blind, fun U hU hWm => ⟨rfl, by rw [hU]; exact g1, hW.moved hWm.alike, pt_Ro.moved hWm.alike (by rw [hU]; exact g3) hAB g2⟩⟩ rfl (by rw [List.length_map]; exact hn) g4.1 (by show (vs.reverse ++ st).map _ = _; rw [List.map_append, List.map_reverse]) (pt_rm hst) hd ⟨hlk.2.1, hlk.2.2⟩
def pt_cn (k : Nat) : String := match pt_ob k with
  | none => ""
  | some z => match vwCl[z.1]? with
    | none => ""
    | some q => q.1
def pt_ckV (Y : pt_Y) (idx k : Nat) (y : MethodName) (Yc : pt_Y) (n : Nat) : Bool := decide (Cond.methodLink (pt_own Y.1) idx y ∈ pt_tb) && (decide (Cond.instanceMethod y ∈ pt_tb) && (decide (Cond.selects (pt_cn k) y y ∈ pt_tb) && pt_ckB Y y Yc n))
theorem pt_recv {D : va_G} {ad : Nat → Nat → Nat} {cA : Nat → ClassId} {M : pt_M} {H : Heap} {s : State} {k i : Nat} (hW : pt_Wd D ad cA s) (g1 : pt_Hd D ad cA M H) (hk : (pt_ob k).isSome = true) (hi : i < pt_ct k) : ∃ cell : Cell, H[ad k i]? = some cell ∧ cell.vm.isStatics = false ∧ s.vm.findClass (pt_cn k) = some cell.cls := by
  cases ho : pt_ob k with
  | none => rw [ho] at hk; cases hk
  | some z =>
    obtain ⟨ci, N⟩ := z
    have hP := g1.at hi (pt_ce_o (ad := ad) (cA := cA) (M := M) (i := i) ho)
    have hq : ∃ q, vwCl[ci]? = some q := by
      unfold pt_ob at ho
      split at ho <;> cases ho <;> exact ⟨_, rfl⟩
    obtain ⟨q, hq⟩ := hq
    have h := va_recv hW.1 hP hq (q0 := 0) rfl
    unfold pt_cn
    rw [ho]
    dsimp only
    rw [hq]
    exact h
theorem pt_callV {Y Yc : pt_Y} {idx n k i : Nat} {y : MethodName} {vs : List pt_V} {M M' : pt_M} {r : Option pt_V} (hk : pt_ckV Y idx k y Yc n = true) (ho : (pt_ob k).isSome = true) (hi : i < pt_ct k) (hn : vs.length = n) (hD : pt_Does y Yc (pt_r k i :: vs) M r M') : pt_Cal Y (.invokevirtual idx) (pt_r k i :: vs) M r M' := by
  unfold pt_ckV at hk
  simp only [Bool.and_eq_true, decide_eq_true_eq] at hk
  obtain ⟨k1, k2, k22, hk⟩ := hk
  obtain ⟨k3, k4, k5, k6, k7, k8, k9⟩ := pt_ckB_ok hk
  intro pc L st hd hst p l e s m args below meth c D ad cA A cells slots Q hC hA H locs ls g1 g2 g3 g4
  obtain ⟨hx, hb, hr, hml, hown, hts, hlk, hW, hAd⟩ := hC
  have hAB : ∀ q, pt_Ad ad q → A q := by
    rintro q ⟨k, i, h1, rfl⟩
    exact hAd k i h1
  have hcw : CallB Y.2.2.2.2 s args (pt_own Y.1) idx y Yc.2.1 Yc.2.2.1 Yc.2.2.2.1 (Cond.code y Yc.2.1 Yc.2.2.1 Yc.2.2.2.1 :: pt_tb) Yc.2.2.2.2 0 0 n := callB_of n hts (pt_goodw k4) rfl k6 k7 (hts _ k3) (hts _ k1) k5 ⟨k8, k9⟩
  have hrv := pt_recv hW g1 ho hi
  refine pt_goes (a := ((pt_r k i :: vs).map (pt_cv ad)).toArray) hD.1 hAB ?_ hA g2 g3 g4
  have hM := hD.2 l D ad cA
  obtain ⟨k, rfl⟩ : ∃ n, k = n + 1 := by
    apply pt_k1
    rintro rfl
    cases ho
  exact va_runV (As := vs.map (pt_cv ad)) (rest := st.map (pt_cv ad)) (b := ad (k + 1) i) ⟨hx, hb, hml, hown, hts⟩ hM ⟨hcw, hts _ k2, hts _ k22⟩ ⟨pt_blind, hrv, fun U hU hWm => ⟨rfl, by rw [hU]; exact g1, hW.moved hWm.alike, pt_Ro.moved hWm.alike (by rw [hU]; exact g3) hAB g2⟩⟩ rfl (by rw [List.length_map]; exact hn) g4.1 (by show ((pt_r (k + 1) i :: vs).reverse ++ st).map _ = _; rw [List.reverse_cons, List.append_assoc, List.map_append, List.map_reverse]; rfl) (pt_rm hst) hd ⟨hlk.2.1, hlk.2.2⟩
end
