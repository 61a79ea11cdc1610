-- ===== PART A: goes FIRST, ahead of the names: the tables' words, and 'selects' of the private methods out of them =====
/-- a private method of a class that the tables say can be made, by its rows of tables_1 -/
def lw_okq (q : MethodName × Nat) : Prop := (q.1.cls ≠ "java/lang/invoke/MethodHandle" ∧ q.1.cls ≠ "java/lang/invoke/VarHandle") ∧ Cond.instantiable q.1.cls q.2 ∈ tables_1 ∧ Cond.privateMethod q.1 ∈ tables_1 ∧ Cond.instanceMethod q.1 ∈ tables_1
theorem lw_p0 : lw_okq (⟨"GreatCambric", "refused", "(I)I"⟩, 10) := ⟨⟨by decide +kernel, by decide +kernel⟩, List.mem_of_getElem? (i := 23) (by decide +kernel), List.mem_of_getElem? (i := 272) (by decide +kernel), List.mem_of_getElem? (i := 273) (by decide +kernel)⟩
theorem lw_p1 : lw_okq (⟨"GreatCambric", "isMourner", "(I)Z"⟩, 10) := ⟨⟨by decide +kernel, by decide +kernel⟩, List.mem_of_getElem? (i := 23) (by decide +kernel), List.mem_of_getElem? (i := 327) (by decide +kernel), List.mem_of_getElem? (i := 328) (by decide +kernel)⟩
theorem lw_p2 : lw_okq (⟨"GreatCambric$Law", "readText", "(I)Z"⟩, 5) := ⟨⟨by decide +kernel, by decide +kernel⟩, List.mem_of_getElem? (i := 82) (by decide +kernel), List.mem_of_getElem? (i := 473) (by decide +kernel), List.mem_of_getElem? (i := 474) (by decide +kernel)⟩
theorem lw_p3 : lw_okq (⟨"GreatCambric$Law", "readAll", "(I)Z"⟩, 5) := ⟨⟨by decide +kernel, by decide +kernel⟩, List.mem_of_getElem? (i := 82) (by decide +kernel), List.mem_of_getElem? (i := 477) (by decide +kernel), List.mem_of_getElem? (i := 478) (by decide +kernel)⟩
theorem lw_p4 : lw_okq (⟨"GreatCambric$Law", "readCompared", "(I)Z"⟩, 5) := ⟨⟨by decide +kernel, by decide +kernel⟩, List.mem_of_getElem? (i := 82) (by decide +kernel), List.mem_of_getElem? (i := 481) (by decide +kernel), List.mem_of_getElem? (i := 482) (by decide +kernel)⟩
theorem lw_p5 : lw_okq (⟨"GreatCambric$Law", "readSum", "(I)Z"⟩, 5) := ⟨⟨by decide +kernel, by decide +kernel⟩, List.mem_of_getElem? (i := 82) (by decide +kernel), List.mem_of_getElem? (i := 485) (by decide +kernel), List.mem_of_getElem? (i := 486) (by decide +kernel)⟩
theorem lw_p6 : lw_okq (⟨"GreatCambric$Law", "readProduct", "(I)Z"⟩, 5) := ⟨⟨by decide +kernel, by decide +kernel⟩, List.mem_of_getElem? (i := 82) (by decide +kernel), List.mem_of_getElem? (i := 489) (by decide +kernel), List.mem_of_getElem? (i := 490) (by decide +kernel)⟩
theorem lw_p7 : lw_okq (⟨"GreatCambric$Law", "readLeast", "(I)Z"⟩, 5) := ⟨⟨by decide +kernel, by decide +kernel⟩, List.mem_of_getElem? (i := 82) (by decide +kernel), List.mem_of_getElem? (i := 493) (by decide +kernel), List.mem_of_getElem? (i := 494) (by decide +kernel)⟩
theorem lw_p8 : lw_okq (⟨"GreatCambric$Law", "ahead", "()I"⟩, 5) := ⟨⟨by decide +kernel, by decide +kernel⟩, List.mem_of_getElem? (i := 82) (by decide +kernel), List.mem_of_getElem? (i := 497) (by decide +kernel), List.mem_of_getElem? (i := 498) (by decide +kernel)⟩
theorem lw_p9 : lw_okq (⟨"GreatCambric$Law", "readNumber", "()V"⟩, 5) := ⟨⟨by decide +kernel, by decide +kernel⟩, List.mem_of_getElem? (i := 82) (by decide +kernel), List.mem_of_getElem? (i := 501) (by decide +kernel), List.mem_of_getElem? (i := 502) (by decide +kernel)⟩
theorem lw_p10 : lw_okq (⟨"GreatCambric$Law", "pass", "()V"⟩, 5) := ⟨⟨by decide +kernel, by decide +kernel⟩, List.mem_of_getElem? (i := 82) (by decide +kernel), List.mem_of_getElem? (i := 505) (by decide +kernel), List.mem_of_getElem? (i := 506) (by decide +kernel)⟩
theorem lw_p11 : lw_okq (⟨"GreatCambric$Cloth", "seep", "()V"⟩, 15) := ⟨⟨by decide +kernel, by decide +kernel⟩, List.mem_of_getElem? (i := 131) (by decide +kernel), List.mem_of_getElem? (i := 614) (by decide +kernel), List.mem_of_getElem? (i := 615) (by decide +kernel)⟩
theorem lw_p12 : lw_okq (⟨"GreatCambric$Cloth", "seepBetween", "(II)V"⟩, 15) := ⟨⟨by decide +kernel, by decide +kernel⟩, List.mem_of_getElem? (i := 131) (by decide +kernel), List.mem_of_getElem? (i := 619) (by decide +kernel), List.mem_of_getElem? (i := 620) (by decide +kernel)⟩
theorem lw_p13 : lw_okq (⟨"GreatCambric$Cloth", "dryOut", "()V"⟩, 15) := ⟨⟨by decide +kernel, by decide +kernel⟩, List.mem_of_getElem? (i := 131) (by decide +kernel), List.mem_of_getElem? (i := 623) (by decide +kernel), List.mem_of_getElem? (i := 624) (by decide +kernel)⟩
theorem lw_p14 : lw_okq (⟨"GreatCambric$Cloth", "grieve", "()V"⟩, 15) := ⟨⟨by decide +kernel, by decide +kernel⟩, List.mem_of_getElem? (i := 131) (by decide +kernel), List.mem_of_getElem? (i := 630) (by decide +kernel), List.mem_of_getElem? (i := 631) (by decide +kernel)⟩
theorem lw_p15 : lw_okq (⟨"GreatCambric$Cloth", "drawn", "()I"⟩, 15) := ⟨⟨by decide +kernel, by decide +kernel⟩, List.mem_of_getElem? (i := 131) (by decide +kernel), List.mem_of_getElem? (i := 647) (by decide +kernel), List.mem_of_getElem? (i := 648) (by decide +kernel)⟩
def lw_privs_1 : List (MethodName × Nat) := [(⟨"GreatCambric", "refused", "(I)I"⟩, 10), (⟨"GreatCambric", "isMourner", "(I)Z"⟩, 10), (⟨"GreatCambric$Law", "readText", "(I)Z"⟩, 5), (⟨"GreatCambric$Law", "readAll", "(I)Z"⟩, 5), (⟨"GreatCambric$Law", "readCompared", "(I)Z"⟩, 5), (⟨"GreatCambric$Law", "readSum", "(I)Z"⟩, 5), (⟨"GreatCambric$Law", "readProduct", "(I)Z"⟩, 5), (⟨"GreatCambric$Law", "readLeast", "(I)Z"⟩, 5), (⟨"GreatCambric$Law", "ahead", "()I"⟩, 5), (⟨"GreatCambric$Law", "readNumber", "()V"⟩, 5), (⟨"GreatCambric$Law", "pass", "()V"⟩, 5), (⟨"GreatCambric$Cloth", "seep", "()V"⟩, 15), (⟨"GreatCambric$Cloth", "seepBetween", "(II)V"⟩, 15), (⟨"GreatCambric$Cloth", "dryOut", "()V"⟩, 15), (⟨"GreatCambric$Cloth", "grieve", "()V"⟩, 15), (⟨"GreatCambric$Cloth", "drawn", "()I"⟩, 15)]
theorem lw_r1 : ∀ q ∈ lw_privs_1, lw_okq q := List.forall_mem_cons.mpr ⟨lw_p0, List.forall_mem_cons.mpr ⟨lw_p1, List.forall_mem_cons.mpr ⟨lw_p2, List.forall_mem_cons.mpr ⟨lw_p3, List.forall_mem_cons.mpr ⟨lw_p4, List.forall_mem_cons.mpr ⟨lw_p5, List.forall_mem_cons.mpr ⟨lw_p6, List.forall_mem_cons.mpr ⟨lw_p7, List.forall_mem_cons.mpr ⟨lw_p8, List.forall_mem_cons.mpr ⟨lw_p9, List.forall_mem_cons.mpr ⟨lw_p10, List.forall_mem_cons.mpr ⟨lw_p11, List.forall_mem_cons.mpr ⟨lw_p12, List.forall_mem_cons.mpr ⟨lw_p13, List.forall_mem_cons.mpr ⟨lw_p14, List.forall_mem_cons.mpr ⟨lw_p15, fun _ h => absurd h List.not_mem_nil⟩⟩⟩⟩⟩⟩⟩⟩⟩⟩⟩⟩⟩⟩⟩⟩
theorem lw_p16 : lw_okq (⟨"GreatCambric", "thinkBehind", "(I)V"⟩, 10) := ⟨⟨by decide +kernel, by decide +kernel⟩, List.mem_of_getElem? (i := 23) (by decide +kernel), List.mem_of_getElem? (i := 656) (by decide +kernel), List.mem_of_getElem? (i := 657) (by decide +kernel)⟩
theorem lw_p17 : lw_okq (⟨"GreatCambric", "firstBehind", "([III)I"⟩, 10) := ⟨⟨by decide +kernel, by decide +kernel⟩, List.mem_of_getElem? (i := 23) (by decide +kernel), List.mem_of_getElem? (i := 677) (by decide +kernel), List.mem_of_getElem? (i := 678) (by decide +kernel)⟩
theorem lw_p18 : lw_okq (⟨"GreatCambric", "leastWetting", "(IIII)I"⟩, 10) := ⟨⟨by decide +kernel, by decide +kernel⟩, List.mem_of_getElem? (i := 23) (by decide +kernel), List.mem_of_getElem? (i := 689) (by decide +kernel), List.mem_of_getElem? (i := 690) (by decide +kernel)⟩
theorem lw_p19 : lw_okq (⟨"GreatCambric", "suppose", "(III)V"⟩, 10) := ⟨⟨by decide +kernel, by decide +kernel⟩, List.mem_of_getElem? (i := 23) (by decide +kernel), List.mem_of_getElem? (i := 693) (by decide +kernel), List.mem_of_getElem? (i := 694) (by decide +kernel)⟩
theorem lw_p20 : lw_okq (⟨"GreatCambric", "leastToWin", "(I)I"⟩, 10) := ⟨⟨by decide +kernel, by decide +kernel⟩, List.mem_of_getElem? (i := 23) (by decide +kernel), List.mem_of_getElem? (i := 748) (by decide +kernel), List.mem_of_getElem? (i := 749) (by decide +kernel)⟩
theorem lw_p21 : lw_okq (⟨"GreatCambric", "listDryings", "(I)V"⟩, 10) := ⟨⟨by decide +kernel, by decide +kernel⟩, List.mem_of_getElem? (i := 23) (by decide +kernel), List.mem_of_getElem? (i := 752) (by decide +kernel), List.mem_of_getElem? (i := 753) (by decide +kernel)⟩
theorem lw_p22 : lw_okq (⟨"GreatCambric", "leastToWinRanked", "(I)I"⟩, 10) := ⟨⟨by decide +kernel, by decide +kernel⟩, List.mem_of_getElem? (i := 23) (by decide +kernel), List.mem_of_getElem? (i := 759) (by decide +kernel), List.mem_of_getElem? (i := 760) (by decide +kernel)⟩
theorem lw_p23 : lw_okq (⟨"GreatCambric", "firstUntrue", "(LGreatCambric$Row;)I"⟩, 10) := ⟨⟨by decide +kernel, by decide +kernel⟩, List.mem_of_getElem? (i := 23) (by decide +kernel), List.mem_of_getElem? (i := 773) (by decide +kernel), List.mem_of_getElem? (i := 774) (by decide +kernel)⟩
theorem lw_p24 : lw_okq (⟨"GreatCambricModel", "finds", "(I)I"⟩, 28) := ⟨⟨by decide +kernel, by decide +kernel⟩, List.mem_of_getElem? (i := 946) (by decide +kernel), List.mem_of_getElem? (i := 1045) (by decide +kernel), List.mem_of_getElem? (i := 1046) (by decide +kernel)⟩
theorem lw_p25 : lw_okq (⟨"GreatCambricModel", "reads", "(III)V"⟩, 28) := ⟨⟨by decide +kernel, by decide +kernel⟩, List.mem_of_getElem? (i := 946) (by decide +kernel), List.mem_of_getElem? (i := 1055) (by decide +kernel), List.mem_of_getElem? (i := 1056) (by decide +kernel)⟩
theorem lw_p26 : lw_okq (⟨"GreatCambricModel", "either", "()V"⟩, 28) := ⟨⟨by decide +kernel, by decide +kernel⟩, List.mem_of_getElem? (i := 946) (by decide +kernel), List.mem_of_getElem? (i := 1059) (by decide +kernel), List.mem_of_getElem? (i := 1060) (by decide +kernel)⟩
theorem lw_p27 : lw_okq (⟨"GreatCambricModel", "both", "()V"⟩, 28) := ⟨⟨by decide +kernel, by decide +kernel⟩, List.mem_of_getElem? (i := 946) (by decide +kernel), List.mem_of_getElem? (i := 1063) (by decide +kernel), List.mem_of_getElem? (i := 1064) (by decide +kernel)⟩
theorem lw_p28 : lw_okq (⟨"GreatCambricModel", "compared", "()V"⟩, 28) := ⟨⟨by decide +kernel, by decide +kernel⟩, List.mem_of_getElem? (i := 946) (by decide +kernel), List.mem_of_getElem? (i := 1067) (by decide +kernel), List.mem_of_getElem? (i := 1068) (by decide +kernel)⟩
theorem lw_p29 : lw_okq (⟨"GreatCambricModel", "sum", "()V"⟩, 28) := ⟨⟨by decide +kernel, by decide +kernel⟩, List.mem_of_getElem? (i := 946) (by decide +kernel), List.mem_of_getElem? (i := 1071) (by decide +kernel), List.mem_of_getElem? (i := 1072) (by decide +kernel)⟩
theorem lw_p30 : lw_okq (⟨"GreatCambricModel", "product", "()V"⟩, 28) := ⟨⟨by decide +kernel, by decide +kernel⟩, List.mem_of_getElem? (i := 946) (by decide +kernel), List.mem_of_getElem? (i := 1075) (by decide +kernel), List.mem_of_getElem? (i := 1076) (by decide +kernel)⟩
theorem lw_p31 : lw_okq (⟨"GreatCambricModel", "unit", "()V"⟩, 28) := ⟨⟨by decide +kernel, by decide +kernel⟩, List.mem_of_getElem? (i := 946) (by decide +kernel), List.mem_of_getElem? (i := 1079) (by decide +kernel), List.mem_of_getElem? (i := 1080) (by decide +kernel)⟩
def lw_privs_2 : List (MethodName × Nat) := [(⟨"GreatCambric", "thinkBehind", "(I)V"⟩, 10), (⟨"GreatCambric", "firstBehind", "([III)I"⟩, 10), (⟨"GreatCambric", "leastWetting", "(IIII)I"⟩, 10), (⟨"GreatCambric", "suppose", "(III)V"⟩, 10), (⟨"GreatCambric", "leastToWin", "(I)I"⟩, 10), (⟨"GreatCambric", "listDryings", "(I)V"⟩, 10), (⟨"GreatCambric", "leastToWinRanked", "(I)I"⟩, 10), (⟨"GreatCambric", "firstUntrue", "(LGreatCambric$Row;)I"⟩, 10), (⟨"GreatCambricModel", "finds", "(I)I"⟩, 28), (⟨"GreatCambricModel", "reads", "(III)V"⟩, 28), (⟨"GreatCambricModel", "either", "()V"⟩, 28), (⟨"GreatCambricModel", "both", "()V"⟩, 28), (⟨"GreatCambricModel", "compared", "()V"⟩, 28), (⟨"GreatCambricModel", "sum", "()V"⟩, 28), (⟨"GreatCambricModel", "product", "()V"⟩, 28), (⟨"GreatCambricModel", "unit", "()V"⟩, 28)]
theorem lw_r2 : ∀ q ∈ lw_privs_2, lw_okq q := List.forall_mem_cons.mpr ⟨lw_p16, List.forall_mem_cons.mpr ⟨lw_p17, List.forall_mem_cons.mpr ⟨lw_p18, List.forall_mem_cons.mpr ⟨lw_p19, List.forall_mem_cons.mpr ⟨lw_p20, List.forall_mem_cons.mpr ⟨lw_p21, List.forall_mem_cons.mpr ⟨lw_p22, List.forall_mem_cons.mpr ⟨lw_p23, List.forall_mem_cons.mpr ⟨lw_p24, List.forall_mem_cons.mpr ⟨lw_p25, List.forall_mem_cons.mpr ⟨lw_p26, List.forall_mem_cons.mpr ⟨lw_p27, List.forall_mem_cons.mpr ⟨lw_p28, List.forall_mem_cons.mpr ⟨lw_p29, List.forall_mem_cons.mpr ⟨lw_p30, List.forall_mem_cons.mpr ⟨lw_p31, fun _ h => absurd h List.not_mem_nil⟩⟩⟩⟩⟩⟩⟩⟩⟩⟩⟩⟩⟩⟩⟩⟩
theorem lw_p32 : lw_okq (⟨"GreatCambricModel", "here", "()I"⟩, 28) := ⟨⟨by decide +kernel, by decide +kernel⟩, List.mem_of_getElem? (i := 946) (by decide +kernel), List.mem_of_getElem? (i := 1083) (by decide +kernel), List.mem_of_getElem? (i := 1084) (by decide +kernel)⟩
theorem lw_p33 : lw_okq (⟨"GreatCambricModel", "opens", "(I)V"⟩, 28) := ⟨⟨by decide +kernel, by decide +kernel⟩, List.mem_of_getElem? (i := 946) (by decide +kernel), List.mem_of_getElem? (i := 1087) (by decide +kernel), List.mem_of_getElem? (i := 1088) (by decide +kernel)⟩
theorem lw_p34 : lw_okq (⟨"GreatCambricModel", "wrong", "()V"⟩, 28) := ⟨⟨by decide +kernel, by decide +kernel⟩, List.mem_of_getElem? (i := 946) (by decide +kernel), List.mem_of_getElem? (i := 1091) (by decide +kernel), List.mem_of_getElem? (i := 1092) (by decide +kernel)⟩
theorem lw_p35 : lw_okq (⟨"GreatCambricModel", "lay", "(I)V"⟩, 28) := ⟨⟨by decide +kernel, by decide +kernel⟩, List.mem_of_getElem? (i := 946) (by decide +kernel), List.mem_of_getElem? (i := 1095) (by decide +kernel), List.mem_of_getElem? (i := 1096) (by decide +kernel)⟩
theorem lw_p36 : lw_okq (⟨"GreatCambricModel", "takes", "(I)Z"⟩, 28) := ⟨⟨by decide +kernel, by decide +kernel⟩, List.mem_of_getElem? (i := 946) (by decide +kernel), List.mem_of_getElem? (i := 1099) (by decide +kernel), List.mem_of_getElem? (i := 1100) (by decide +kernel)⟩
theorem lw_p37 : lw_okq (⟨"GreatCambricModel", "nameOf", "(I)I"⟩, 28) := ⟨⟨by decide +kernel, by decide +kernel⟩, List.mem_of_getElem? (i := 946) (by decide +kernel), List.mem_of_getElem? (i := 1103) (by decide +kernel), List.mem_of_getElem? (i := 1104) (by decide +kernel)⟩
theorem lw_p38 : lw_okq (⟨"GreatCambricModel", "textGives", "(IIII)I"⟩, 28) := ⟨⟨by decide +kernel, by decide +kernel⟩, List.mem_of_getElem? (i := 946) (by decide +kernel), List.mem_of_getElem? (i := 1113) (by decide +kernel), List.mem_of_getElem? (i := 1114) (by decide +kernel)⟩
theorem lw_p39 : lw_okq (⟨"GreatCambricModel", "worked", "(II)I"⟩, 28) := ⟨⟨by decide +kernel, by decide +kernel⟩, List.mem_of_getElem? (i := 946) (by decide +kernel), List.mem_of_getElem? (i := 1117) (by decide +kernel), List.mem_of_getElem? (i := 1118) (by decide +kernel)⟩
theorem lw_p40 : lw_okq (⟨"GreatCambricModel", "becomes", "(II)I"⟩, 28) := ⟨⟨by decide +kernel, by decide +kernel⟩, List.mem_of_getElem? (i := 946) (by decide +kernel), List.mem_of_getElem? (i := 1136) (by decide +kernel), List.mem_of_getElem? (i := 1137) (by decide +kernel)⟩
theorem lw_p41 : lw_okq (⟨"GreatCambricModel", "of", "(II)I"⟩, 28) := ⟨⟨by decide +kernel, by decide +kernel⟩, List.mem_of_getElem? (i := 946) (by decide +kernel), List.mem_of_getElem? (i := 1145) (by decide +kernel), List.mem_of_getElem? (i := 1146) (by decide +kernel)⟩
theorem lw_p42 : lw_okq (⟨"GreatCambricModel", "bare", "(I)I"⟩, 28) := ⟨⟨by decide +kernel, by decide +kernel⟩, List.mem_of_getElem? (i := 946) (by decide +kernel), List.mem_of_getElem? (i := 1149) (by decide +kernel), List.mem_of_getElem? (i := 1150) (by decide +kernel)⟩
theorem lw_p43 : lw_okq (⟨"GreatCambricModel", "sets", "(III)V"⟩, 28) := ⟨⟨by decide +kernel, by decide +kernel⟩, List.mem_of_getElem? (i := 946) (by decide +kernel), List.mem_of_getElem? (i := 1174) (by decide +kernel), List.mem_of_getElem? (i := 1175) (by decide +kernel)⟩
theorem lw_p44 : lw_okq (⟨"GreatCambricModel", "isMourner", "(I)Z"⟩, 28) := ⟨⟨by decide +kernel, by decide +kernel⟩, List.mem_of_getElem? (i := 946) (by decide +kernel), List.mem_of_getElem? (i := 1182) (by decide +kernel), List.mem_of_getElem? (i := 1183) (by decide +kernel)⟩
theorem lw_p45 : lw_okq (⟨"GreatCambricModel", "wept", "(I)I"⟩, 28) := ⟨⟨by decide +kernel, by decide +kernel⟩, List.mem_of_getElem? (i := 946) (by decide +kernel), List.mem_of_getElem? (i := 1187) (by decide +kernel), List.mem_of_getElem? (i := 1188) (by decide +kernel)⟩
theorem lw_p46 : lw_okq (⟨"GreatCambricModel", "weeps", "(I)I"⟩, 28) := ⟨⟨by decide +kernel, by decide +kernel⟩, List.mem_of_getElem? (i := 946) (by decide +kernel), List.mem_of_getElem? (i := 1191) (by decide +kernel), List.mem_of_getElem? (i := 1192) (by decide +kernel)⟩
theorem lw_p47 : lw_okq (⟨"GreatCambricModel", "eases", "(II)I"⟩, 28) := ⟨⟨by decide +kernel, by decide +kernel⟩, List.mem_of_getElem? (i := 946) (by decide +kernel), List.mem_of_getElem? (i := 1195) (by decide +kernel), List.mem_of_getElem? (i := 1196) (by decide +kernel)⟩
def lw_privs_3 : List (MethodName × Nat) := [(⟨"GreatCambricModel", "here", "()I"⟩, 28), (⟨"GreatCambricModel", "opens", "(I)V"⟩, 28), (⟨"GreatCambricModel", "wrong", "()V"⟩, 28), (⟨"GreatCambricModel", "lay", "(I)V"⟩, 28), (⟨"GreatCambricModel", "takes", "(I)Z"⟩, 28), (⟨"GreatCambricModel", "nameOf", "(I)I"⟩, 28), (⟨"GreatCambricModel", "textGives", "(IIII)I"⟩, 28), (⟨"GreatCambricModel", "worked", "(II)I"⟩, 28), (⟨"GreatCambricModel", "becomes", "(II)I"⟩, 28), (⟨"GreatCambricModel", "of", "(II)I"⟩, 28), (⟨"GreatCambricModel", "bare", "(I)I"⟩, 28), (⟨"GreatCambricModel", "sets", "(III)V"⟩, 28), (⟨"GreatCambricModel", "isMourner", "(I)Z"⟩, 28), (⟨"GreatCambricModel", "wept", "(I)I"⟩, 28), (⟨"GreatCambricModel", "weeps", "(I)I"⟩, 28), (⟨"GreatCambricModel", "eases", "(II)I"⟩, 28)]
theorem lw_r3 : ∀ q ∈ lw_privs_3, lw_okq q := List.forall_mem_cons.mpr ⟨lw_p32, List.forall_mem_cons.mpr ⟨lw_p33, List.forall_mem_cons.mpr ⟨lw_p34, List.forall_mem_cons.mpr ⟨lw_p35, List.forall_mem_cons.mpr ⟨lw_p36, List.forall_mem_cons.mpr ⟨lw_p37, List.forall_mem_cons.mpr ⟨lw_p38, List.forall_mem_cons.mpr ⟨lw_p39, List.forall_mem_cons.mpr ⟨lw_p40, List.forall_mem_cons.mpr ⟨lw_p41, List.forall_mem_cons.mpr ⟨lw_p42, List.forall_mem_cons.mpr ⟨lw_p43, List.forall_mem_cons.mpr ⟨lw_p44, List.forall_mem_cons.mpr ⟨lw_p45, List.forall_mem_cons.mpr ⟨lw_p46, List.forall_mem_cons.mpr ⟨lw_p47, fun _ h => absurd h List.not_mem_nil⟩⟩⟩⟩⟩⟩⟩⟩⟩⟩⟩⟩⟩⟩⟩⟩
theorem lw_p48 : lw_okq (⟨"GreatCambricModel", "grieves", "(I)I"⟩, 28) := ⟨⟨by decide +kernel, by decide +kernel⟩, List.mem_of_getElem? (i := 946) (by decide +kernel), List.mem_of_getElem? (i := 1199) (by decide +kernel), List.mem_of_getElem? (i := 1200) (by decide +kernel)⟩
theorem lw_p49 : lw_okq (⟨"GreatCambricModel", "isLate", "(I)Z"⟩, 28) := ⟨⟨by decide +kernel, by decide +kernel⟩, List.mem_of_getElem? (i := 946) (by decide +kernel), List.mem_of_getElem? (i := 1223) (by decide +kernel), List.mem_of_getElem? (i := 1224) (by decide +kernel)⟩
theorem lw_p50 : lw_okq (⟨"GreatCambricModel", "yearsGo", "(I)V"⟩, 28) := ⟨⟨by decide +kernel, by decide +kernel⟩, List.mem_of_getElem? (i := 946) (by decide +kernel), List.mem_of_getElem? (i := 1227) (by decide +kernel), List.mem_of_getElem? (i := 1228) (by decide +kernel)⟩
theorem lw_p51 : lw_okq (⟨"GreatCambricModel", "yearGoes", "()V"⟩, 28) := ⟨⟨by decide +kernel, by decide +kernel⟩, List.mem_of_getElem? (i := 946) (by decide +kernel), List.mem_of_getElem? (i := 1231) (by decide +kernel), List.mem_of_getElem? (i := 1232) (by decide +kernel)⟩
theorem lw_p52 : lw_okq (⟨"GreatCambricModel", "weepsNow", "(I)V"⟩, 28) := ⟨⟨by decide +kernel, by decide +kernel⟩, List.mem_of_getElem? (i := 946) (by decide +kernel), List.mem_of_getElem? (i := 1235) (by decide +kernel), List.mem_of_getElem? (i := 1236) (by decide +kernel)⟩
theorem lw_p53 : lw_okq (⟨"GreatCambricModel", "seeps", "()V"⟩, 28) := ⟨⟨by decide +kernel, by decide +kernel⟩, List.mem_of_getElem? (i := 946) (by decide +kernel), List.mem_of_getElem? (i := 1239) (by decide +kernel), List.mem_of_getElem? (i := 1240) (by decide +kernel)⟩
theorem lw_p54 : lw_okq (⟨"GreatCambricModel", "dries", "()V"⟩, 28) := ⟨⟨by decide +kernel, by decide +kernel⟩, List.mem_of_getElem? (i := 946) (by decide +kernel), List.mem_of_getElem? (i := 1243) (by decide +kernel), List.mem_of_getElem? (i := 1244) (by decide +kernel)⟩
theorem lw_p55 : lw_okq (⟨"GreatCambricModel", "allWet", "()I"⟩, 28) := ⟨⟨by decide +kernel, by decide +kernel⟩, List.mem_of_getElem? (i := 946) (by decide +kernel), List.mem_of_getElem? (i := 1247) (by decide +kernel), List.mem_of_getElem? (i := 1248) (by decide +kernel)⟩
theorem lw_p56 : lw_okq (⟨"GreatCambricModel", "sumOf", "(III)I"⟩, 28) := ⟨⟨by decide +kernel, by decide +kernel⟩, List.mem_of_getElem? (i := 946) (by decide +kernel), List.mem_of_getElem? (i := 1251) (by decide +kernel), List.mem_of_getElem? (i := 1252) (by decide +kernel)⟩
theorem lw_p57 : lw_okq (⟨"GreatCambricModel", "draw", "()I"⟩, 28) := ⟨⟨by decide +kernel, by decide +kernel⟩, List.mem_of_getElem? (i := 946) (by decide +kernel), List.mem_of_getElem? (i := 1260) (by decide +kernel), List.mem_of_getElem? (i := 1261) (by decide +kernel)⟩
theorem lw_p58 : lw_okq (⟨"GreatCambricModel", "keepAside", "()V"⟩, 28) := ⟨⟨by decide +kernel, by decide +kernel⟩, List.mem_of_getElem? (i := 946) (by decide +kernel), List.mem_of_getElem? (i := 1276) (by decide +kernel), List.mem_of_getElem? (i := 1277) (by decide +kernel)⟩
theorem lw_p59 : lw_okq (⟨"GreatCambricModel", "putBack", "()V"⟩, 28) := ⟨⟨by decide +kernel, by decide +kernel⟩, List.mem_of_getElem? (i := 946) (by decide +kernel), List.mem_of_getElem? (i := 1280) (by decide +kernel), List.mem_of_getElem? (i := 1281) (by decide +kernel)⟩
theorem lw_p60 : lw_okq (⟨"GreatCambricModel", "wetCells", "()I"⟩, 28) := ⟨⟨by decide +kernel, by decide +kernel⟩, List.mem_of_getElem? (i := 946) (by decide +kernel), List.mem_of_getElem? (i := 1289) (by decide +kernel), List.mem_of_getElem? (i := 1290) (by decide +kernel)⟩
theorem lw_p61 : lw_okq (⟨"GreatCambricModel", "firstLow", "(II)I"⟩, 28) := ⟨⟨by decide +kernel, by decide +kernel⟩, List.mem_of_getElem? (i := 946) (by decide +kernel), List.mem_of_getElem? (i := 1300) (by decide +kernel), List.mem_of_getElem? (i := 1301) (by decide +kernel)⟩
theorem lw_p62 : lw_okq (⟨"GreatCambricModel", "bestOf", "(III)I"⟩, 28) := ⟨⟨by decide +kernel, by decide +kernel⟩, List.mem_of_getElem? (i := 946) (by decide +kernel), List.mem_of_getElem? (i := 1312) (by decide +kernel), List.mem_of_getElem? (i := 1313) (by decide +kernel)⟩
theorem lw_p63 : lw_okq (⟨"GreatCambricModel", "wetBehind", "(I)I"⟩, 28) := ⟨⟨by decide +kernel, by decide +kernel⟩, List.mem_of_getElem? (i := 946) (by decide +kernel), List.mem_of_getElem? (i := 1317) (by decide +kernel), List.mem_of_getElem? (i := 1318) (by decide +kernel)⟩
def lw_privs_4 : List (MethodName × Nat) := [(⟨"GreatCambricModel", "grieves", "(I)I"⟩, 28), (⟨"GreatCambricModel", "isLate", "(I)Z"⟩, 28), (⟨"GreatCambricModel", "yearsGo", "(I)V"⟩, 28), (⟨"GreatCambricModel", "yearGoes", "()V"⟩, 28), (⟨"GreatCambricModel", "weepsNow", "(I)V"⟩, 28), (⟨"GreatCambricModel", "seeps", "()V"⟩, 28), (⟨"GreatCambricModel", "dries", "()V"⟩, 28), (⟨"GreatCambricModel", "allWet", "()I"⟩, 28), (⟨"GreatCambricModel", "sumOf", "(III)I"⟩, 28), (⟨"GreatCambricModel", "draw", "()I"⟩, 28), (⟨"GreatCambricModel", "keepAside", "()V"⟩, 28), (⟨"GreatCambricModel", "putBack", "()V"⟩, 28), (⟨"GreatCambricModel", "wetCells", "()I"⟩, 28), (⟨"GreatCambricModel", "firstLow", "(II)I"⟩, 28), (⟨"GreatCambricModel", "bestOf", "(III)I"⟩, 28), (⟨"GreatCambricModel", "wetBehind", "(I)I"⟩, 28)]
theorem lw_r4 : ∀ q ∈ lw_privs_4, lw_okq q := List.forall_mem_cons.mpr ⟨lw_p48, List.forall_mem_cons.mpr ⟨lw_p49, List.forall_mem_cons.mpr ⟨lw_p50, List.forall_mem_cons.mpr ⟨lw_p51, List.forall_mem_cons.mpr ⟨lw_p52, List.forall_mem_cons.mpr ⟨lw_p53, List.forall_mem_cons.mpr ⟨lw_p54, List.forall_mem_cons.mpr ⟨lw_p55, List.forall_mem_cons.mpr ⟨lw_p56, List.forall_mem_cons.mpr ⟨lw_p57, List.forall_mem_cons.mpr ⟨lw_p58, List.forall_mem_cons.mpr ⟨lw_p59, List.forall_mem_cons.mpr ⟨lw_p60, List.forall_mem_cons.mpr ⟨lw_p61, List.forall_mem_cons.mpr ⟨lw_p62, List.forall_mem_cons.mpr ⟨lw_p63, fun _ h => absurd h List.not_mem_nil⟩⟩⟩⟩⟩⟩⟩⟩⟩⟩⟩⟩⟩⟩⟩⟩
theorem lw_p64 : lw_okq (⟨"GreatCambricModel", "foldsAll", "(I)V"⟩, 28) := ⟨⟨by decide +kernel, by decide +kernel⟩, List.mem_of_getElem? (i := 946) (by decide +kernel), List.mem_of_getElem? (i := 1336) (by decide +kernel), List.mem_of_getElem? (i := 1337) (by decide +kernel)⟩
theorem lw_p65 : lw_okq (⟨"GreatCambricModel", "folds", "(III)V"⟩, 28) := ⟨⟨by decide +kernel, by decide +kernel⟩, List.mem_of_getElem? (i := 946) (by decide +kernel), List.mem_of_getElem? (i := 1343) (by decide +kernel), List.mem_of_getElem? (i := 1344) (by decide +kernel)⟩
theorem lw_p66 : lw_okq (⟨"GreatCambricModel", "whole", "()I"⟩, 28) := ⟨⟨by decide +kernel, by decide +kernel⟩, List.mem_of_getElem? (i := 946) (by decide +kernel), List.mem_of_getElem? (i := 1355) (by decide +kernel), List.mem_of_getElem? (i := 1356) (by decide +kernel)⟩
theorem lw_p67 : lw_okq (⟨"GreatCambricModel", "tornCells", "()I"⟩, 28) := ⟨⟨by decide +kernel, by decide +kernel⟩, List.mem_of_getElem? (i := 946) (by decide +kernel), List.mem_of_getElem? (i := 1360) (by decide +kernel), List.mem_of_getElem? (i := 1361) (by decide +kernel)⟩
theorem lw_p68 : lw_okq (⟨"GreatCambricModel", "measures", "(II)V"⟩, 28) := ⟨⟨by decide +kernel, by decide +kernel⟩, List.mem_of_getElem? (i := 946) (by decide +kernel), List.mem_of_getElem? (i := 1364) (by decide +kernel), List.mem_of_getElem? (i := 1365) (by decide +kernel)⟩
theorem lw_p69 : lw_okq (⟨"GreatCambricModel", "partsOf", "(I)I"⟩, 28) := ⟨⟨by decide +kernel, by decide +kernel⟩, List.mem_of_getElem? (i := 946) (by decide +kernel), List.mem_of_getElem? (i := 1372) (by decide +kernel), List.mem_of_getElem? (i := 1373) (by decide +kernel)⟩
theorem lw_p70 : lw_okq (⟨"GreatCambricModel", "winsBy", "(II)I"⟩, 28) := ⟨⟨by decide +kernel, by decide +kernel⟩, List.mem_of_getElem? (i := 946) (by decide +kernel), List.mem_of_getElem? (i := 1384) (by decide +kernel), List.mem_of_getElem? (i := 1385) (by decide +kernel)⟩
theorem lw_p71 : lw_okq (⟨"GreatCambricModel", "isTold", "(I)Z"⟩, 28) := ⟨⟨by decide +kernel, by decide +kernel⟩, List.mem_of_getElem? (i := 946) (by decide +kernel), List.mem_of_getElem? (i := 1395) (by decide +kernel), List.mem_of_getElem? (i := 1396) (by decide +kernel)⟩
theorem lw_p72 : lw_okq (⟨"GreatCambricModel", "sighsBy", "(II)I"⟩, 28) := ⟨⟨by decide +kernel, by decide +kernel⟩, List.mem_of_getElem? (i := 946) (by decide +kernel), List.mem_of_getElem? (i := 1416) (by decide +kernel), List.mem_of_getElem? (i := 1417) (by decide +kernel)⟩
theorem lw_p73 : lw_okq (⟨"GreatCambricModel", "ran", "(I)V"⟩, 28) := ⟨⟨by decide +kernel, by decide +kernel⟩, List.mem_of_getElem? (i := 946) (by decide +kernel), List.mem_of_getElem? (i := 1420) (by decide +kernel), List.mem_of_getElem? (i := 1421) (by decide +kernel)⟩
theorem lw_p74 : lw_okq (⟨"GreatCambricModel", "blowsBy", "(II)I"⟩, 28) := ⟨⟨by decide +kernel, by decide +kernel⟩, List.mem_of_getElem? (i := 946) (by decide +kernel), List.mem_of_getElem? (i := 1424) (by decide +kernel), List.mem_of_getElem? (i := 1425) (by decide +kernel)⟩
theorem lw_p75 : lw_okq (⟨"GreatCambricModel", "foldsBy", "(II)I"⟩, 28) := ⟨⟨by decide +kernel, by decide +kernel⟩, List.mem_of_getElem? (i := 946) (by decide +kernel), List.mem_of_getElem? (i := 1428) (by decide +kernel), List.mem_of_getElem? (i := 1429) (by decide +kernel)⟩
theorem lw_p76 : lw_okq (⟨"GreatCambricModel", "tellsBy", "(II)I"⟩, 28) := ⟨⟨by decide +kernel, by decide +kernel⟩, List.mem_of_getElem? (i := 946) (by decide +kernel), List.mem_of_getElem? (i := 1432) (by decide +kernel), List.mem_of_getElem? (i := 1433) (by decide +kernel)⟩
def lw_privs_5 : List (MethodName × Nat) := [(⟨"GreatCambricModel", "foldsAll", "(I)V"⟩, 28), (⟨"GreatCambricModel", "folds", "(III)V"⟩, 28), (⟨"GreatCambricModel", "whole", "()I"⟩, 28), (⟨"GreatCambricModel", "tornCells", "()I"⟩, 28), (⟨"GreatCambricModel", "measures", "(II)V"⟩, 28), (⟨"GreatCambricModel", "partsOf", "(I)I"⟩, 28), (⟨"GreatCambricModel", "winsBy", "(II)I"⟩, 28), (⟨"GreatCambricModel", "isTold", "(I)Z"⟩, 28), (⟨"GreatCambricModel", "sighsBy", "(II)I"⟩, 28), (⟨"GreatCambricModel", "ran", "(I)V"⟩, 28), (⟨"GreatCambricModel", "blowsBy", "(II)I"⟩, 28), (⟨"GreatCambricModel", "foldsBy", "(II)I"⟩, 28), (⟨"GreatCambricModel", "tellsBy", "(II)I"⟩, 28)]
theorem lw_r5 : ∀ q ∈ lw_privs_5, lw_okq q := List.forall_mem_cons.mpr ⟨lw_p64, List.forall_mem_cons.mpr ⟨lw_p65, List.forall_mem_cons.mpr ⟨lw_p66, List.forall_mem_cons.mpr ⟨lw_p67, List.forall_mem_cons.mpr ⟨lw_p68, List.forall_mem_cons.mpr ⟨lw_p69, List.forall_mem_cons.mpr ⟨lw_p70, List.forall_mem_cons.mpr ⟨lw_p71, List.forall_mem_cons.mpr ⟨lw_p72, List.forall_mem_cons.mpr ⟨lw_p73, List.forall_mem_cons.mpr ⟨lw_p74, List.forall_mem_cons.mpr ⟨lw_p75, List.forall_mem_cons.mpr ⟨lw_p76, fun _ h => absurd h List.not_mem_nil⟩⟩⟩⟩⟩⟩⟩⟩⟩⟩⟩⟩⟩
def lw_privs : List (MethodName × Nat) := lw_privs_1 ++ (lw_privs_2 ++ (lw_privs_3 ++ (lw_privs_4 ++ (lw_privs_5))))
def lw_tbl : List Cond := k2_sels lw_privs ++ tables_1
theorem lw_privs_ok : ∀ q ∈ lw_privs, lw_okq q := by
  show ∀ q ∈ lw_privs_1 ++ (lw_privs_2 ++ (lw_privs_3 ++ (lw_privs_4 ++ (lw_privs_5)))), lw_okq q
  exact List.forall_mem_append.mpr ⟨lw_r1, List.forall_mem_append.mpr ⟨lw_r2, List.forall_mem_append.mpr ⟨lw_r3, List.forall_mem_append.mpr ⟨lw_r4, lw_r5⟩⟩⟩⟩
def RX0 : String := "GreatCambric$Cloth"
def TX0 : u_T := fun k => match k with
  | 0 => ("GreatCambric$Cloth", "kinds", "[LGreatCambric$Mourner;", true)
  | 1 => ("GreatCambric$Cloth", "laws", "[LGreatCambric$Law;", true)
  | 2 => ("GreatCambric$Cloth", "wet", "[I", true)
  | 3 => ("GreatCambric$Cloth", "was", "[I", true)
  | 4 => ("GreatCambric$Cloth", "places", "[I", true)
  | 5 => ("GreatCambric$Cloth", "kind", "[I", true)
  | 6 => ("GreatCambric$Cloth", "m", "[I", true)
  | 7 => ("GreatCambric$Cloth", "sorrow", "[I", true)
  | 8 => ("GreatCambric$Cloth", "at", "[I", true)
  | 9 => ("GreatCambric$Cloth", "tape", "LGreatCambric$Row;", true)
  | 10 => ("GreatCambric$Cloth", "waiting", "LGreatCambric$Row;", true)
  | 11 => ("GreatCambric$Cloth", "torn", "I", false)
  | 12 => ("GreatCambric$Cloth", "year", "I", false)
  | 13 => ("GreatCambric$Cloth", "mourners", "I", false)
  | _ => ("GreatCambric$Cloth", "z", "I", false)
def tyX0 : Nat → FieldType := fun k => match k with
  | 0 => .array (.object "GreatCambric$Mourner")
  | 1 => .array (.object "GreatCambric$Law")
  | 2 => .array .int
  | 3 => .array .int
  | 4 => .array .int
  | 5 => .array .int
  | 6 => .array .int
  | 7 => .array .int
  | 8 => .array .int
  | 9 => .object "GreatCambric$Row"
  | 10 => .object "GreatCambric$Row"
  | 11 => .int
  | 12 => .int
  | 13 => .int
  | _ => .int
abbrev wsX00 : List Cond := u_ws RX0 TX0 15
theorem nmX0 : ∀ a, a < 15 → ∀ b, b < 15 → a ≠ b → (TX0 a).2.1 ≠ (TX0 b).2.1 := by decide +kernel
theorem tyX0_ok : ∀ k, k < 15 → parseFieldDescriptor (TX0 k).2.2.1 = some (tyX0 k) := by decide +kernel
abbrev cX0_init : ByteArray := prog_2_method_1_code
def yX0_init : MethodName := ⟨RX0, "<init>", "([LGreatCambric$Mourner;[LGreatCambric$Law;)V"⟩
abbrev cX0_takes : ByteArray := prog_2_method_2_code
def yX0_takes : MethodName := ⟨RX0, "takes", "(LGreatCambric$Cloth;)V"⟩
abbrev cX0_takesAll : ByteArray := prog_2_method_3_code
def yX0_takesAll : MethodName := ⟨RX0, "takesAll", "(LGreatCambric$Cloth;)V"⟩
abbrev cX0_kindOf : ByteArray := prog_2_method_4_code
def yX0_kindOf : MethodName := ⟨RX0, "kindOf", "(I)LGreatCambric$Mourner;"⟩
abbrev cX0_whole : ByteArray := prog_2_method_5_code
def yX0_whole : MethodName := ⟨RX0, "whole", "()I"⟩
abbrev cX0_wetCells : ByteArray := prog_2_method_6_code
def yX0_wetCells : MethodName := ⟨RX0, "wetCells", "()I"⟩
abbrev cX0_tornOrDry : ByteArray := prog_2_method_7_code
def yX0_tornOrDry : MethodName := ⟨RX0, "tornOrDry", "()I"⟩
abbrev cX0_thoseAt : ByteArray := prog_2_method_8_code
def yX0_thoseAt : MethodName := ⟨RX0, "thoseAt", "(I)I"⟩
abbrev cX0_wetOfAll : ByteArray := prog_2_method_9_code
def yX0_wetOfAll : MethodName := ⟨RX0, "wetOfAll", "()I"⟩
abbrev cX0_sorrowOfAll : ByteArray := prog_2_method_10_code
def yX0_sorrowOfAll : MethodName := ⟨RX0, "sorrowOfAll", "()I"⟩
abbrev cX0_given : ByteArray := prog_2_method_11_code
def yX0_given : MethodName := ⟨RX0, "given", "(IIII)I"⟩
abbrev cX0_weptBy : ByteArray := prog_2_method_12_code
def yX0_weptBy : MethodName := ⟨RX0, "weptBy", "(I)I"⟩
abbrev cX0_passYear : ByteArray := prog_2_method_13_code
def yX0_passYear : MethodName := ⟨RX0, "passYear", "()V"⟩
abbrev cX0_seep : ByteArray := prog_2_method_14_code
def yX0_seep : MethodName := ⟨RX0, "seep", "()V"⟩
abbrev cX0_seepBetween : ByteArray := prog_2_method_15_code
def yX0_seepBetween : MethodName := ⟨RX0, "seepBetween", "(II)V"⟩
abbrev cX0_dryOut : ByteArray := prog_2_method_16_code
def yX0_dryOut : MethodName := ⟨RX0, "dryOut", "()V"⟩
abbrev cX0_grieve : ByteArray := prog_2_method_17_code
def yX0_grieve : MethodName := ⟨RX0, "grieve", "()V"⟩
abbrev cX0_drawWhoAndWhere : ByteArray := prog_2_method_18_code
def yX0_drawWhoAndWhere : MethodName := ⟨RX0, "drawWhoAndWhere", "()V"⟩
abbrev cX0_drawn : ByteArray := prog_2_method_19_code
def yX0_drawn : MethodName := ⟨RX0, "drawn", "()I"⟩
def RX1 : String := "GreatCambric$Laundress"
def TX1 : u_T := fun k => match k with
  | _ => ("", "", "", false)
def tyX1 : Nat → FieldType := fun k => match k with
  | _ => .int
abbrev wsX10 : List Cond := u_ws RX1 TX1 0
theorem nmX1 : ∀ a, a < 0 → ∀ b, b < 0 → a ≠ b → (TX1 a).2.1 ≠ (TX1 b).2.1 := by decide +kernel
theorem tyX1_ok : ∀ k, k < 0 → parseFieldDescriptor (TX1 k).2.2.1 = some (tyX1 k) := by decide +kernel
abbrev cX1_init : ByteArray := prog_3_method_1_code
def yX1_init : MethodName := ⟨RX1, "<init>", "()V"⟩
abbrev cX1_weeps : ByteArray := prog_3_method_2_code
def yX1_weeps : MethodName := ⟨RX1, "weeps", "(II)I"⟩
abbrev cX1_eases : ByteArray := prog_3_method_3_code
def yX1_eases : MethodName := ⟨RX1, "eases", "(II)I"⟩
abbrev cX1_folds : ByteArray := prog_3_method_4_code
def yX1_folds : MethodName := ⟨RX1, "folds", "(LGreatCambric$Voice;I)I"⟩
abbrev cX1_tells : ByteArray := prog_3_method_5_code
def yX1_tells : MethodName := ⟨RX1, "tells", "(LGreatCambric$Voice;I)I"⟩
def RX2 : String := "GreatCambric$Law"
def TX2 : u_T := fun k => match k with
  | 0 => ("GreatCambric$Law", "code", "LGreatCambric$Row;", true)
  | 1 => ("GreatCambric$Law", "stack", "[I", true)
  | 2 => ("GreatCambric$Law", "source", "LGreatCambric$Row;", false)
  | 3 => ("GreatCambric$Law", "names", "Ljava/lang/String;", false)
  | _ => ("GreatCambric$Law", "at", "I", false)
def tyX2 : Nat → FieldType := fun k => match k with
  | 0 => .object "GreatCambric$Row"
  | 1 => .array .int
  | 2 => .object "GreatCambric$Row"
  | 3 => .object "java/lang/String"
  | _ => .int
abbrev wsX20 : List Cond := u_ws RX2 TX2 5
theorem nmX2 : ∀ a, a < 5 → ∀ b, b < 5 → a ≠ b → (TX2 a).2.1 ≠ (TX2 b).2.1 := by decide +kernel
theorem tyX2_ok : ∀ k, k < 5 → parseFieldDescriptor (TX2 k).2.2.1 = some (tyX2 k) := by decide +kernel
abbrev cX2_init : ByteArray := prog_4_method_1_code
def yX2_init : MethodName := ⟨RX2, "<init>", "()V"⟩
abbrev cX2_read : ByteArray := prog_4_method_2_code
def yX2_read : MethodName := ⟨RX2, "read", "(LGreatCambric$Row;I)I"⟩
abbrev cX2_ahead : ByteArray := prog_4_method_3_code
def yX2_ahead : MethodName := ⟨RX2, "ahead", "()I"⟩
abbrev cX2_pass : ByteArray := prog_4_method_4_code
def yX2_pass : MethodName := ⟨RX2, "pass", "()V"⟩
abbrev cX2_readText : ByteArray := prog_4_method_5_code
def yX2_readText : MethodName := ⟨RX2, "readText", "(I)Z"⟩
abbrev cX2_readAll : ByteArray := prog_4_method_6_code
def yX2_readAll : MethodName := ⟨RX2, "readAll", "(I)Z"⟩
abbrev cX2_readCompared : ByteArray := prog_4_method_7_code
def yX2_readCompared : MethodName := ⟨RX2, "readCompared", "(I)Z"⟩
abbrev cX2_readSum : ByteArray := prog_4_method_8_code
def yX2_readSum : MethodName := ⟨RX2, "readSum", "(I)Z"⟩
abbrev cX2_readProduct : ByteArray := prog_4_method_9_code
def yX2_readProduct : MethodName := ⟨RX2, "readProduct", "(I)Z"⟩
abbrev cX2_readLeast : ByteArray := prog_4_method_10_code
def yX2_readLeast : MethodName := ⟨RX2, "readLeast", "(I)Z"⟩
abbrev cX2_readNumber : ByteArray := prog_4_method_11_code
def yX2_readNumber : MethodName := ⟨RX2, "readNumber", "()V"⟩
abbrev cX2_workedOut : ByteArray := prog_4_method_12_code
def yX2_workedOut : MethodName := ⟨RX2, "workedOut", "(III)I"⟩
abbrev cX2_joined : ByteArray := prog_4_method_13_code
def yX2_joined : MethodName := ⟨RX2, "joined", "(III)I"⟩
def RX3 : String := "GreatCambric$Member"
def TX3 : u_T := fun k => match k with
  | _ => ("", "", "", false)
def tyX3 : Nat → FieldType := fun k => match k with
  | _ => .int
abbrev wsX30 : List Cond := u_ws RX3 TX3 0
theorem nmX3 : ∀ a, a < 0 → ∀ b, b < 0 → a ≠ b → (TX3 a).2.1 ≠ (TX3 b).2.1 := by decide +kernel
theorem tyX3_ok : ∀ k, k < 0 → parseFieldDescriptor (TX3 k).2.2.1 = some (tyX3 k) := by decide +kernel
abbrev cX3_init : ByteArray := prog_5_method_1_code
def yX3_init : MethodName := ⟨RX3, "<init>", "()V"⟩
abbrev cX3_weeps : ByteArray := prog_5_method_2_code
def yX3_weeps : MethodName := ⟨RX3, "weeps", "(II)I"⟩
abbrev cX3_grieves : ByteArray := prog_5_method_3_code
def yX3_grieves : MethodName := ⟨RX3, "grieves", "(II)I"⟩
abbrev cX3_folds : ByteArray := prog_5_method_4_code
def yX3_folds : MethodName := ⟨RX3, "folds", "(LGreatCambric$Voice;I)I"⟩
def RX4 : String := "GreatCambric$Middy"
def TX4 : u_T := fun k => match k with
  | _ => ("", "", "", false)
def tyX4 : Nat → FieldType := fun k => match k with
  | _ => .int
abbrev wsX40 : List Cond := u_ws RX4 TX4 0
theorem nmX4 : ∀ a, a < 0 → ∀ b, b < 0 → a ≠ b → (TX4 a).2.1 ≠ (TX4 b).2.1 := by decide +kernel
theorem tyX4_ok : ∀ k, k < 0 → parseFieldDescriptor (TX4 k).2.2.1 = some (tyX4 k) := by decide +kernel
abbrev cX4_init : ByteArray := prog_6_method_1_code
def yX4_init : MethodName := ⟨RX4, "<init>", "()V"⟩
abbrev cX4_weeps : ByteArray := prog_6_method_2_code
def yX4_weeps : MethodName := ⟨RX4, "weeps", "(II)I"⟩
abbrev cX4_grieves : ByteArray := prog_6_method_3_code
def yX4_grieves : MethodName := ⟨RX4, "grieves", "(II)I"⟩
abbrev cX4_blows : ByteArray := prog_6_method_4_code
def yX4_blows : MethodName := ⟨RX4, "blows", "(LGreatCambric$Voice;I)I"⟩
def RX5 : String := "GreatCambric$Mourner"
def TX5 : u_T := fun k => match k with
  | _ => ("", "", "", false)
def tyX5 : Nat → FieldType := fun k => match k with
  | _ => .int
abbrev wsX50 : List Cond := u_ws RX5 TX5 0
theorem nmX5 : ∀ a, a < 0 → ∀ b, b < 0 → a ≠ b → (TX5 a).2.1 ≠ (TX5 b).2.1 := by decide +kernel
theorem tyX5_ok : ∀ k, k < 0 → parseFieldDescriptor (TX5 k).2.2.1 = some (tyX5 k) := by decide +kernel
abbrev cX5_init : ByteArray := prog_7_method_1_code
def yX5_init : MethodName := ⟨RX5, "<init>", "()V"⟩
abbrev cX5_weeps : ByteArray := prog_7_method_2_code
def yX5_weeps : MethodName := ⟨RX5, "weeps", "(II)I"⟩
abbrev cX5_eases : ByteArray := prog_7_method_3_code
def yX5_eases : MethodName := ⟨RX5, "eases", "(II)I"⟩
abbrev cX5_grieves : ByteArray := prog_7_method_4_code
def yX5_grieves : MethodName := ⟨RX5, "grieves", "(II)I"⟩
abbrev cX5_sighs : ByteArray := prog_7_method_5_code
def yX5_sighs : MethodName := ⟨RX5, "sighs", "(LGreatCambric$Voice;I)I"⟩
abbrev cX5_blows : ByteArray := prog_7_method_6_code
def yX5_blows : MethodName := ⟨RX5, "blows", "(LGreatCambric$Voice;I)I"⟩
abbrev cX5_folds : ByteArray := prog_7_method_7_code
def yX5_folds : MethodName := ⟨RX5, "folds", "(LGreatCambric$Voice;I)I"⟩
abbrev cX5_tells : ByteArray := prog_7_method_8_code
def yX5_tells : MethodName := ⟨RX5, "tells", "(LGreatCambric$Voice;I)I"⟩
def RX6 : String := "GreatCambric$Queen"
def TX6 : u_T := fun k => match k with
  | _ => ("", "", "", false)
def tyX6 : Nat → FieldType := fun k => match k with
  | _ => .int
abbrev wsX60 : List Cond := u_ws RX6 TX6 0
theorem nmX6 : ∀ a, a < 0 → ∀ b, b < 0 → a ≠ b → (TX6 a).2.1 ≠ (TX6 b).2.1 := by decide +kernel
theorem tyX6_ok : ∀ k, k < 0 → parseFieldDescriptor (TX6 k).2.2.1 = some (tyX6 k) := by decide +kernel
abbrev cX6_init : ByteArray := prog_8_method_1_code
def yX6_init : MethodName := ⟨RX6, "<init>", "()V"⟩
abbrev cX6_weeps : ByteArray := prog_8_method_2_code
def yX6_weeps : MethodName := ⟨RX6, "weeps", "(II)I"⟩
abbrev cX6_eases : ByteArray := prog_8_method_3_code
def yX6_eases : MethodName := ⟨RX6, "eases", "(II)I"⟩
abbrev cX6_grieves : ByteArray := prog_8_method_4_code
def yX6_grieves : MethodName := ⟨RX6, "grieves", "(II)I"⟩
abbrev cX6_tells : ByteArray := prog_8_method_5_code
def yX6_tells : MethodName := ⟨RX6, "tells", "(LGreatCambric$Voice;I)I"⟩
def RX7 : String := "GreatCambric$Row"
def TX7 : u_T := fun k => match k with
  | 0 => ("GreatCambric$Row", "numbers", "[I", true)
  | 1 => ("GreatCambric$Row", "length", "I", false)
  | _ => ("GreatCambric$Row", "bits", "I", false)
def tyX7 : Nat → FieldType := fun k => match k with
  | 0 => .array .int
  | 1 => .int
  | _ => .int
abbrev wsX70 : List Cond := u_ws RX7 TX7 3
theorem nmX7 : ∀ a, a < 3 → ∀ b, b < 3 → a ≠ b → (TX7 a).2.1 ≠ (TX7 b).2.1 := by decide +kernel
theorem tyX7_ok : ∀ k, k < 3 → parseFieldDescriptor (TX7 k).2.2.1 = some (tyX7 k) := by decide +kernel
abbrev cX7_init : ByteArray := prog_9_method_1_code
def yX7_init : MethodName := ⟨RX7, "<init>", "(I)V"⟩
abbrev cX7_has : ByteArray := prog_9_method_2_code
def yX7_has : MethodName := ⟨RX7, "has", "(I)Z"⟩
abbrev cX7_holds : ByteArray := prog_9_method_3_code
def yX7_holds : MethodName := ⟨RX7, "holds", "(II)Z"⟩
abbrev cX7_add : ByteArray := prog_9_method_4_code
def yX7_add : MethodName := ⟨RX7, "add", "(I)V"⟩
abbrev cX7_startAnew : ByteArray := prog_9_method_5_code
def yX7_startAnew : MethodName := ⟨RX7, "startAnew", "(II)V"⟩
abbrev cX7_takes : ByteArray := prog_9_method_6_code
def yX7_takes : MethodName := ⟨RX7, "takes", "(LGreatCambric$Row;)V"⟩
def RX8 : String := "GreatCambric$Sailor"
def TX8 : u_T := fun k => match k with
  | _ => ("", "", "", false)
def tyX8 : Nat → FieldType := fun k => match k with
  | _ => .int
abbrev wsX80 : List Cond := u_ws RX8 TX8 0
theorem nmX8 : ∀ a, a < 0 → ∀ b, b < 0 → a ≠ b → (TX8 a).2.1 ≠ (TX8 b).2.1 := by decide +kernel
theorem tyX8_ok : ∀ k, k < 0 → parseFieldDescriptor (TX8 k).2.2.1 = some (tyX8 k) := by decide +kernel
abbrev cX8_init : ByteArray := prog_10_method_1_code
def yX8_init : MethodName := ⟨RX8, "<init>", "()V"⟩
abbrev cX8_weeps : ByteArray := prog_10_method_2_code
def yX8_weeps : MethodName := ⟨RX8, "weeps", "(II)I"⟩
abbrev cX8_eases : ByteArray := prog_10_method_3_code
def yX8_eases : MethodName := ⟨RX8, "eases", "(II)I"⟩
abbrev cX8_blows : ByteArray := prog_10_method_4_code
def yX8_blows : MethodName := ⟨RX8, "blows", "(LGreatCambric$Voice;I)I"⟩
def RX9 : String := "GreatCambric$Voice"
def TX9 : u_T := fun k => match k with
  | 0 => ("GreatCambric$Voice", "trace", "LGreatCambric$Row;", true)
  | 1 => ("GreatCambric$Voice", "number", "I", false)
  | _ => ("GreatCambric$Voice", "m", "I", false)
def tyX9 : Nat → FieldType := fun k => match k with
  | 0 => .object "GreatCambric$Row"
  | 1 => .int
  | _ => .int
abbrev wsX90 : List Cond := u_ws RX9 TX9 3
theorem nmX9 : ∀ a, a < 3 → ∀ b, b < 3 → a ≠ b → (TX9 a).2.1 ≠ (TX9 b).2.1 := by decide +kernel
theorem tyX9_ok : ∀ k, k < 3 → parseFieldDescriptor (TX9 k).2.2.1 = some (tyX9 k) := by decide +kernel
abbrev cX9_init : ByteArray := prog_11_method_1_code
def yX9_init : MethodName := ⟨RX9, "<init>", "()V"⟩
def RX10 : String := "GreatCambric$Widow"
def TX10 : u_T := fun k => match k with
  | _ => ("", "", "", false)
def tyX10 : Nat → FieldType := fun k => match k with
  | _ => .int
abbrev wsX100 : List Cond := u_ws RX10 TX10 0
theorem nmX10 : ∀ a, a < 0 → ∀ b, b < 0 → a ≠ b → (TX10 a).2.1 ≠ (TX10 b).2.1 := by decide +kernel
theorem tyX10_ok : ∀ k, k < 0 → parseFieldDescriptor (TX10 k).2.2.1 = some (tyX10 k) := by decide +kernel
abbrev cX10_init : ByteArray := prog_12_method_1_code
def yX10_init : MethodName := ⟨RX10, "<init>", "()V"⟩
abbrev cX10_weeps : ByteArray := prog_12_method_2_code
def yX10_weeps : MethodName := ⟨RX10, "weeps", "(II)I"⟩
abbrev cX10_grieves : ByteArray := prog_12_method_3_code
def yX10_grieves : MethodName := ⟨RX10, "grieves", "(II)I"⟩
abbrev cX10_sighs : ByteArray := prog_12_method_4_code
def yX10_sighs : MethodName := ⟨RX10, "sighs", "(LGreatCambric$Voice;I)I"⟩
def RX11 : String := "GreatCambric"
def TX11 : u_T := fun k => match k with
  | 0 => ("GreatCambric", "now", "LGreatCambric$Cloth;", true)
  | 1 => ("GreatCambric", "thought", "LGreatCambric$Cloth;", true)
  | 2 => ("GreatCambric", "kept", "LGreatCambric$Cloth;", true)
  | 3 => ("GreatCambric", "draft", "LGreatCambric$Law;", true)
  | 4 => ("GreatCambric", "sheets", "[LGreatCambric$Row;", true)
  | 5 => ("GreatCambric", "speaker", "LGreatCambric$Voice;", true)
  | 6 => ("GreatCambric", "refusals", "[I", true)
  | 7 => ("GreatCambric", "dryings", "LGreatCambric$Row;", true)
  | 8 => ("GreatCambric", "wins", "[Z", true)
  | _ => ("GreatCambric", "images", "I", false)
def tyX11 : Nat → FieldType := fun k => match k with
  | 0 => .object "GreatCambric$Cloth"
  | 1 => .object "GreatCambric$Cloth"
  | 2 => .object "GreatCambric$Cloth"
  | 3 => .object "GreatCambric$Law"
  | 4 => .array (.object "GreatCambric$Row")
  | 5 => .object "GreatCambric$Voice"
  | 6 => .array .int
  | 7 => .object "GreatCambric$Row"
  | 8 => .array .boolean
  | _ => .int
abbrev wsX110 : List Cond := u_ws RX11 TX11 10
theorem nmX11 : ∀ a, a < 10 → ∀ b, b < 10 → a ≠ b → (TX11 a).2.1 ≠ (TX11 b).2.1 := by decide +kernel
theorem tyX11_ok : ∀ k, k < 10 → parseFieldDescriptor (TX11 k).2.2.1 = some (tyX11 k) := by decide +kernel
abbrev cX11_init : ByteArray := prog_1_method_1_code
def yX11_init : MethodName := ⟨RX11, "<init>", "()V"⟩
abbrev cX11_cell : ByteArray := prog_1_method_2_code
def yX11_cell : MethodName := ⟨RX11, "cell", "(III)I"⟩
abbrev cX11_ofCell : ByteArray := prog_1_method_3_code
def yX11_ofCell : MethodName := ⟨RX11, "ofCell", "(II)I"⟩
abbrev cX11_list : ByteArray := prog_1_method_4_code
def yX11_list : MethodName := ⟨RX11, "list", "(II)I"⟩
abbrev cX11_ofList : ByteArray := prog_1_method_5_code
def yX11_ofList : MethodName := ⟨RX11, "ofList", "(I)I"⟩
abbrev cX11_mourner : ByteArray := prog_1_method_6_code
def yX11_mourner : MethodName := ⟨RX11, "mourner", "(III)I"⟩
abbrev cX11_ofMourner : ByteArray := prog_1_method_7_code
def yX11_ofMourner : MethodName := ⟨RX11, "ofMourner", "(II)I"⟩
abbrev cX11_change : ByteArray := prog_1_method_8_code
def yX11_change : MethodName := ⟨RX11, "change", "(III)I"⟩
abbrev cX11_become : ByteArray := prog_1_method_9_code
def yX11_become : MethodName := ⟨RX11, "become", "(II)I"⟩
abbrev cX11_as : ByteArray := prog_1_method_10_code
def yX11_as : MethodName := ⟨RX11, "as", "(II)I"⟩
abbrev cX11_feed : ByteArray := prog_1_method_11_code
def yX11_feed : MethodName := ⟨RX11, "feed", "(JI)I"⟩
abbrev cX11_text : ByteArray := prog_1_method_12_code
def yX11_text : MethodName := ⟨RX11, "text", "(I)I"⟩
abbrev cX11_law : ByteArray := prog_1_method_13_code
def yX11_law : MethodName := ⟨RX11, "law", "(IIII)I"⟩
abbrev cX11_years : ByteArray := prog_1_method_14_code
def yX11_years : MethodName := ⟨RX11, "years", "(I)I"⟩
abbrev cX11_loose : ByteArray := prog_1_method_15_code
def yX11_loose : MethodName := ⟨RX11, "loose", "(I)I"⟩
abbrev cX11_then : ByteArray := prog_1_method_16_code
def yX11_then : MethodName := ⟨RX11, "then", "(II)I"⟩
abbrev cX11_all : ByteArray := prog_1_method_17_code
def yX11_all : MethodName := ⟨RX11, "all", "(II)I"⟩
abbrev cX11_dry : ByteArray := prog_1_method_18_code
def yX11_dry : MethodName := ⟨RX11, "dry", "(I)I"⟩
abbrev cX11_eased : ByteArray := prog_1_method_19_code
def yX11_eased : MethodName := ⟨RX11, "eased", "(II)I"⟩
abbrev cX11_cellFor : ByteArray := prog_1_method_20_code
def yX11_cellFor : MethodName := ⟨RX11, "cellFor", "(II)I"⟩
abbrev cX11_comesFor : ByteArray := prog_1_method_21_code
def yX11_comesFor : MethodName := ⟨RX11, "comesFor", "(II)I"⟩
abbrev cX11_kindFor : ByteArray := prog_1_method_22_code
def yX11_kindFor : MethodName := ⟨RX11, "kindFor", "(II)I"⟩
abbrev cX11_folded : ByteArray := prog_1_method_23_code
def yX11_folded : MethodName := ⟨RX11, "folded", "(III)I"⟩
abbrev cX11_topFor : ByteArray := prog_1_method_24_code
def yX11_topFor : MethodName := ⟨RX11, "topFor", "(I)I"⟩
abbrev cX11_route : ByteArray := prog_1_method_25_code
def yX11_route : MethodName := ⟨RX11, "route", "(II)I"⟩
abbrev cX11_parts : ByteArray := prog_1_method_26_code
def yX11_parts : MethodName := ⟨RX11, "parts", "()I"⟩
abbrev cX11_mends : ByteArray := prog_1_method_27_code
def yX11_mends : MethodName := ⟨RX11, "mends", "()I"⟩
abbrev cX11_game : ByteArray := prog_1_method_28_code
def yX11_game : MethodName := ⟨RX11, "game", "(I)I"⟩
abbrev cX11_which : ByteArray := prog_1_method_29_code
def yX11_which : MethodName := ⟨RX11, "which", "(II)I"⟩
abbrev cX11_sorry : ByteArray := prog_1_method_30_code
def yX11_sorry : MethodName := site_1144
abbrev cX11_odds : ByteArray := prog_1_method_31_code
def yX11_odds : MethodName := ⟨RX11, "odds", "(III)I"⟩
abbrev cX11_seed : ByteArray := prog_1_method_32_code
def yX11_seed : MethodName := ⟨RX11, "seed", "(I)I"⟩
abbrev cX11_voice : ByteArray := prog_1_method_33_code
def yX11_voice : MethodName := ⟨RX11, "voice", "(III)I"⟩
abbrev cX11_trace : ByteArray := prog_1_method_34_code
def yX11_trace : MethodName := ⟨RX11, "trace", "(I)I"⟩
abbrev cX11_sheet : ByteArray := prog_1_method_35_code
def yX11_sheet : MethodName := ⟨RX11, "sheet", "(III)I"⟩
abbrev cX11_put : ByteArray := prog_1_method_36_code
def yX11_put : MethodName := ⟨RX11, "put", "(III)I"⟩
abbrev cX11_move : ByteArray := prog_1_method_37_code
def yX11_move : MethodName := ⟨RX11, "move", "(IIIII)I"⟩
abbrev cX11_wets : ByteArray := prog_1_method_38_code
def yX11_wets : MethodName := ⟨RX11, "wets", "(I)I"⟩
abbrev cX11_judge : ByteArray := prog_1_method_39_code
def yX11_judge : MethodName := ⟨RX11, "judge", "(I)I"⟩
abbrev cX11_image : ByteArray := prog_1_method_40_code
def yX11_image : MethodName := ⟨RX11, "image", "()I"⟩
abbrev cX11_restore : ByteArray := prog_1_method_41_code
def yX11_restore : MethodName := ⟨RX11, "restore", "()I"⟩
abbrev cX11_tell : ByteArray := prog_1_method_42_code
def yX11_tell : MethodName := ⟨RX11, "tell", "(I)I"⟩
abbrev cX11_check : ByteArray := prog_1_method_43_code
def yX11_check : MethodName := ⟨RX11, "check", "()I"⟩
abbrev cX11_count : ByteArray := prog_1_method_44_code
def yX11_count : MethodName := ⟨RX11, "count", "(I)I"⟩
abbrev cX11_told : ByteArray := prog_1_method_45_code
def yX11_told : MethodName := ⟨RX11, "told", "(I)I"⟩
abbrev cX11_refused : ByteArray := prog_1_method_46_code
def yX11_refused : MethodName := ⟨RX11, "refused", "(I)I"⟩
abbrev cX11_upTo : ByteArray := prog_1_method_47_code
def yX11_upTo : MethodName := ⟨RX11, "upTo", "(II)Z"⟩
abbrev cX11_isCell : ByteArray := prog_1_method_48_code
def yX11_isCell : MethodName := ⟨RX11, "isCell", "(I)Z"⟩
abbrev cX11_isKindAndNumber : ByteArray := prog_1_method_49_code
def yX11_isKindAndNumber : MethodName := ⟨RX11, "isKindAndNumber", "(I)Z"⟩
abbrev cX11_isUse : ByteArray := prog_1_method_50_code
def yX11_isUse : MethodName := ⟨RX11, "isUse", "(I)Z"⟩
abbrev cX11_isSheet : ByteArray := prog_1_method_51_code
def yX11_isSheet : MethodName := ⟨RX11, "isSheet", "(I)Z"⟩
abbrev cX11_isMourner : ByteArray := prog_1_method_52_code
def yX11_isMourner : MethodName := ⟨RX11, "isMourner", "(I)Z"⟩
abbrev cX11_isUnder : ByteArray := prog_1_method_53_code
def yX11_isUnder : MethodName := ⟨RX11, "isUnder", "(II)Z"⟩
abbrev cX11_held : ByteArray := prog_1_method_54_code
def yX11_held : MethodName := ⟨RX11, "held", "(I)I"⟩
abbrev cX11_lowestBits : ByteArray := prog_1_method_55_code
def yX11_lowestBits : MethodName := ⟨RX11, "lowestBits", "(II)I"⟩
abbrev cX11_spread : ByteArray := prog_1_method_56_code
def yX11_spread : MethodName := ⟨RX11, "spread", "(I)I"⟩
abbrev cX11_beside : ByteArray := prog_1_method_57_code
def yX11_beside : MethodName := ⟨RX11, "beside", "(I)I"⟩
abbrev cX11_partOfLeast : ByteArray := prog_1_method_58_code
def yX11_partOfLeast : MethodName := ⟨RX11, "partOfLeast", "(I)I"⟩
abbrev cX11_partsOf : ByteArray := prog_1_method_59_code
def yX11_partsOf : MethodName := ⟨RX11, "partsOf", "(I)I"⟩
abbrev cX11_isOnePartAtMost : ByteArray := prog_1_method_60_code
def yX11_isOnePartAtMost : MethodName := ⟨RX11, "isOnePartAtMost", "(I)Z"⟩
abbrev cX11_thinkBehind : ByteArray := prog_1_method_61_code
def yX11_thinkBehind : MethodName := ⟨RX11, "thinkBehind", "(I)V"⟩
abbrev cX11_firstBehind : ByteArray := prog_1_method_62_code
def yX11_firstBehind : MethodName := ⟨RX11, "firstBehind", "([III)I"⟩
abbrev cX11_suppose : ByteArray := prog_1_method_63_code
def yX11_suppose : MethodName := ⟨RX11, "suppose", "(III)V"⟩
abbrev cX11_leastWetting : ByteArray := prog_1_method_64_code
def yX11_leastWetting : MethodName := ⟨RX11, "leastWetting", "(IIII)I"⟩
abbrev cX11_firstUntrue : ByteArray := prog_1_method_65_code
def yX11_firstUntrue : MethodName := ⟨RX11, "firstUntrue", "(LGreatCambric$Row;)I"⟩
abbrev cX11_pileAndLayer : ByteArray := prog_1_method_66_code
def yX11_pileAndLayer : MethodName := ⟨RX11, "pileAndLayer", "(II)I"⟩
abbrev cX11_firstUnit : ByteArray := prog_1_method_67_code
def yX11_firstUnit : MethodName := ⟨RX11, "firstUnit", "(I)I"⟩
abbrev cX11_leastToWin : ByteArray := prog_1_method_68_code
def yX11_leastToWin : MethodName := ⟨RX11, "leastToWin", "(I)I"⟩
abbrev cX11_listDryings : ByteArray := prog_1_method_69_code
def yX11_listDryings : MethodName := ⟨RX11, "listDryings", "(I)V"⟩
abbrev cX11_rank : ByteArray := prog_1_method_70_code
def yX11_rank : MethodName := ⟨RX11, "rank", "(II)I"⟩
abbrev cX11_unranked : ByteArray := prog_1_method_71_code
def yX11_unranked : MethodName := ⟨RX11, "unranked", "(II)I"⟩
abbrev cX11_leastToWinRanked : ByteArray := prog_1_method_72_code
def yX11_leastToWinRanked : MethodName := ⟨RX11, "leastToWinRanked", "(I)I"⟩
def RX12 : String := "GreatCambricModel"
def TX12 : u_T := fun k => match k with
  | 0 => ("GreatCambricModel", "d", "[I", true)
  | 1 => ("GreatCambricModel", "kept", "[I", true)
  | 2 => ("GreatCambricModel", "aside", "[I", true)
  | 3 => ("GreatCambricModel", "images", "I", false)
  | 4 => ("GreatCambricModel", "found", "[I", true)
  | 5 => ("GreatCambricModel", "base", "I", false)
  | 6 => ("GreatCambricModel", "at", "I", false)
  | 7 => ("GreatCambricModel", "size", "I", false)
  | 8 => ("GreatCambricModel", "fault", "I", false)
  | 9 => ("GreatCambricModel", "opened", "I", false)
  | 10 => ("GreatCambricModel", "isDry", "Z", false)
  | 11 => ("GreatCambricModel", "names", "[I", true)
  | 12 => ("GreatCambricModel", "code", "[I", true)
  | 13 => ("GreatCambricModel", "coded", "I", false)
  | 14 => ("GreatCambricModel", "pile", "[I", true)
  | 15 => ("GreatCambricModel", "changes", "[I", true)
  | 16 => ("GreatCambricModel", "lies", "[I", true)
  | 17 => ("GreatCambricModel", "layer", "[I", true)
  | 18 => ("GreatCambricModel", "way", "[I", true)
  | 19 => ("GreatCambricModel", "cells0", "[I", true)
  | 20 => ("GreatCambricModel", "wins", "[I", true)
  | 21 => ("GreatCambricModel", "traced", "[I", true)
  | 22 => ("GreatCambricModel", "traceMany", "I", false)
  | 23 => ("GreatCambricModel", "who", "I", false)
  | 24 => ("GreatCambricModel", "bitsOf", "[I", true)
  | 25 => ("GreatCambricModel", "sizeOf", "[I", true)
  | 26 => ("GreatCambricModel", "number", "[I", true)
  | _ => ("GreatCambricModel", "lifted", "[I", true)
def tyX12 : Nat → FieldType := fun k => match k with
  | 0 => .array .int
  | 1 => .array .int
  | 2 => .array .int
  | 3 => .int
  | 4 => .array .int
  | 5 => .int
  | 6 => .int
  | 7 => .int
  | 8 => .int
  | 9 => .int
  | 10 => .boolean
  | 11 => .array .int
  | 12 => .array .int
  | 13 => .int
  | 14 => .array .int
  | 15 => .array .int
  | 16 => .array .int
  | 17 => .array .int
  | 18 => .array .int
  | 19 => .array .int
  | 20 => .array .int
  | 21 => .array .int
  | 22 => .int
  | 23 => .int
  | 24 => .array .int
  | 25 => .array .int
  | 26 => .array .int
  | _ => .array .int
abbrev wsX120 : List Cond := u_ws RX12 TX12 28
theorem nmX12 : ∀ a, a < 28 → ∀ b, b < 28 → a ≠ b → (TX12 a).2.1 ≠ (TX12 b).2.1 := by decide +kernel
theorem tyX12_ok : ∀ k, k < 28 → parseFieldDescriptor (TX12 k).2.2.1 = some (tyX12 k) := by decide +kernel
abbrev cX12_init : ByteArray := prog_14_method_1_code
def yX12_init : MethodName := ⟨RX12, "<init>", "()V"⟩
abbrev cX12_finds : ByteArray := prog_14_method_3_code
def yX12_finds : MethodName := ⟨RX12, "finds", "(I)I"⟩
abbrev cX12_in : ByteArray := prog_14_method_4_code
def yX12_in : MethodName := ⟨RX12, "in", "(JJJ)Z"⟩
abbrev cX12_held : ByteArray := prog_14_method_5_code
def yX12_held : MethodName := ⟨RX12, "held", "(III)I"⟩
abbrev cX12_isMourner : ByteArray := prog_14_method_6_code
def yX12_isMourner : MethodName := ⟨RX12, "isMourner", "(I)Z"⟩
abbrev cX12_isCell : ByteArray := prog_14_method_7_code
def yX12_isCell : MethodName := ⟨RX12, "isCell", "(I)Z"⟩
abbrev cX12_of : ByteArray := prog_14_method_8_code
def yX12_of : MethodName := ⟨RX12, "of", "(II)I"⟩
abbrev cX12_sets : ByteArray := prog_14_method_9_code
def yX12_sets : MethodName := ⟨RX12, "sets", "(III)V"⟩
abbrev cX12_above : ByteArray := prog_14_method_10_code
def yX12_above : MethodName := ⟨RX12, "above", "(I)I"⟩
abbrev cX12_becomes : ByteArray := prog_14_method_11_code
def yX12_becomes : MethodName := ⟨RX12, "becomes", "(II)I"⟩
abbrev cX12_ones : ByteArray := prog_14_method_12_code
def yX12_ones : MethodName := ⟨RX12, "ones", "(I)I"⟩
abbrev cX12_keepAside : ByteArray := prog_14_method_13_code
def yX12_keepAside : MethodName := ⟨RX12, "keepAside", "()V"⟩
abbrev cX12_putBack : ByteArray := prog_14_method_14_code
def yX12_putBack : MethodName := ⟨RX12, "putBack", "()V"⟩
abbrev cX12_here : ByteArray := prog_14_method_15_code
def yX12_here : MethodName := ⟨RX12, "here", "()I"⟩
abbrev cX12_wrong : ByteArray := prog_14_method_16_code
def yX12_wrong : MethodName := ⟨RX12, "wrong", "()V"⟩
abbrev cX12_takes : ByteArray := prog_14_method_17_code
def yX12_takes : MethodName := ⟨RX12, "takes", "(I)Z"⟩
abbrev cX12_nameOf : ByteArray := prog_14_method_18_code
def yX12_nameOf : MethodName := ⟨RX12, "nameOf", "(I)I"⟩
abbrev cX12_lay : ByteArray := prog_14_method_19_code
def yX12_lay : MethodName := ⟨RX12, "lay", "(I)V"⟩
abbrev cX12_either : ByteArray := prog_14_method_20_code
def yX12_either : MethodName := ⟨RX12, "either", "()V"⟩
abbrev cX12_both : ByteArray := prog_14_method_21_code
def yX12_both : MethodName := ⟨RX12, "both", "()V"⟩
abbrev cX12_compared : ByteArray := prog_14_method_22_code
def yX12_compared : MethodName := ⟨RX12, "compared", "()V"⟩
abbrev cX12_sum : ByteArray := prog_14_method_23_code
def yX12_sum : MethodName := ⟨RX12, "sum", "()V"⟩
abbrev cX12_product : ByteArray := prog_14_method_24_code
def yX12_product : MethodName := ⟨RX12, "product", "()V"⟩
abbrev cX12_opens : ByteArray := prog_14_method_25_code
def yX12_opens : MethodName := ⟨RX12, "opens", "(I)V"⟩
abbrev cX12_unit : ByteArray := prog_14_method_26_code
def yX12_unit : MethodName := ⟨RX12, "unit", "()V"⟩
abbrev cX12_reads : ByteArray := prog_14_method_27_code
def yX12_reads : MethodName := ⟨RX12, "reads", "(III)V"⟩
abbrev cX12_done : ByteArray := prog_14_method_28_code
def yX12_done : MethodName := ⟨RX12, "done", "(III)I"⟩
abbrev cX12_worked : ByteArray := prog_14_method_29_code
def yX12_worked : MethodName := ⟨RX12, "worked", "(II)I"⟩
abbrev cX12_feed : ByteArray := prog_14_method_30_code
def yX12_feed : MethodName := ⟨RX12, "feed", "(JI)I"⟩
abbrev cX12_text : ByteArray := prog_14_method_31_code
def yX12_text : MethodName := ⟨RX12, "text", "(I)I"⟩
abbrev cX12_textGives : ByteArray := prog_14_method_32_code
def yX12_textGives : MethodName := ⟨RX12, "textGives", "(IIII)I"⟩
abbrev cX12_law : ByteArray := prog_14_method_33_code
def yX12_law : MethodName := ⟨RX12, "law", "(IIII)I"⟩
abbrev cX12_isBeside : ByteArray := prog_14_method_34_code
def yX12_isBeside : MethodName := ⟨RX12, "isBeside", "(II)Z"⟩
abbrev cX12_bare : ByteArray := prog_14_method_35_code
def yX12_bare : MethodName := ⟨RX12, "bare", "(I)I"⟩
abbrev cX12_weeps : ByteArray := prog_14_method_36_code
def yX12_weeps : MethodName := ⟨RX12, "weeps", "(I)I"⟩
abbrev cX12_wept : ByteArray := prog_14_method_37_code
def yX12_wept : MethodName := ⟨RX12, "wept", "(I)I"⟩
abbrev cX12_eases : ByteArray := prog_14_method_38_code
def yX12_eases : MethodName := ⟨RX12, "eases", "(II)I"⟩
abbrev cX12_grieves : ByteArray := prog_14_method_39_code
def yX12_grieves : MethodName := ⟨RX12, "grieves", "(I)I"⟩
abbrev cX12_weepsNow : ByteArray := prog_14_method_40_code
def yX12_weepsNow : MethodName := ⟨RX12, "weepsNow", "(I)V"⟩
abbrev cX12_seeps : ByteArray := prog_14_method_41_code
def yX12_seeps : MethodName := ⟨RX12, "seeps", "()V"⟩
abbrev cX12_dries : ByteArray := prog_14_method_42_code
def yX12_dries : MethodName := ⟨RX12, "dries", "()V"⟩
abbrev cX12_yearGoes : ByteArray := prog_14_method_43_code
def yX12_yearGoes : MethodName := ⟨RX12, "yearGoes", "()V"⟩
abbrev cX12_yearsGo : ByteArray := prog_14_method_44_code
def yX12_yearsGo : MethodName := ⟨RX12, "yearsGo", "(I)V"⟩
abbrev cX12_sumOf : ByteArray := prog_14_method_45_code
def yX12_sumOf : MethodName := ⟨RX12, "sumOf", "(III)I"⟩
abbrev cX12_allWet : ByteArray := prog_14_method_46_code
def yX12_allWet : MethodName := ⟨RX12, "allWet", "()I"⟩
abbrev cX12_wetCells : ByteArray := prog_14_method_47_code
def yX12_wetCells : MethodName := ⟨RX12, "wetCells", "()I"⟩
abbrev cX12_tornCells : ByteArray := prog_14_method_48_code
def yX12_tornCells : MethodName := ⟨RX12, "tornCells", "()I"⟩
abbrev cX12_cell : ByteArray := prog_14_method_49_code
def yX12_cell : MethodName := ⟨RX12, "cell", "(III)I"⟩
abbrev cX12_ofCell : ByteArray := prog_14_method_50_code
def yX12_ofCell : MethodName := ⟨RX12, "ofCell", "(II)I"⟩
abbrev cX12_list : ByteArray := prog_14_method_51_code
def yX12_list : MethodName := ⟨RX12, "list", "(II)I"⟩
abbrev cX12_ofList : ByteArray := prog_14_method_52_code
def yX12_ofList : MethodName := ⟨RX12, "ofList", "(I)I"⟩
abbrev cX12_isKm : ByteArray := prog_14_method_53_code
def yX12_isKm : MethodName := ⟨RX12, "isKm", "(I)Z"⟩
abbrev cX12_mourner : ByteArray := prog_14_method_54_code
def yX12_mourner : MethodName := ⟨RX12, "mourner", "(III)I"⟩
abbrev cX12_ofMourner : ByteArray := prog_14_method_55_code
def yX12_ofMourner : MethodName := ⟨RX12, "ofMourner", "(II)I"⟩
abbrev cX12_change : ByteArray := prog_14_method_56_code
def yX12_change : MethodName := ⟨RX12, "change", "(III)I"⟩
abbrev cX12_become : ByteArray := prog_14_method_57_code
def yX12_become : MethodName := ⟨RX12, "become", "(II)I"⟩
abbrev cX12_as : ByteArray := prog_14_method_58_code
def yX12_as : MethodName := ⟨RX12, "as", "(II)I"⟩
abbrev cX12_isLate : ByteArray := prog_14_method_59_code
def yX12_isLate : MethodName := ⟨RX12, "isLate", "(I)Z"⟩
abbrev cX12_years : ByteArray := prog_14_method_60_code
def yX12_years : MethodName := ⟨RX12, "years", "(I)I"⟩
abbrev cX12_draw : ByteArray := prog_14_method_61_code
def yX12_draw : MethodName := ⟨RX12, "draw", "()I"⟩
abbrev cX12_loose : ByteArray := prog_14_method_62_code
def yX12_loose : MethodName := ⟨RX12, "loose", "(I)I"⟩
abbrev cX12_seed : ByteArray := prog_14_method_63_code
def yX12_seed : MethodName := ⟨RX12, "seed", "(I)I"⟩
abbrev cX12_isAhead : ByteArray := prog_14_method_64_code
def yX12_isAhead : MethodName := ⟨RX12, "isAhead", "(I)Z"⟩
abbrev cX12_then : ByteArray := prog_14_method_65_code
def yX12_then : MethodName := ⟨RX12, "then", "(II)I"⟩
abbrev cX12_all : ByteArray := prog_14_method_66_code
def yX12_all : MethodName := ⟨RX12, "all", "(II)I"⟩
abbrev cX12_firstLow : ByteArray := prog_14_method_67_code
def yX12_firstLow : MethodName := ⟨RX12, "firstLow", "(II)I"⟩
abbrev cX12_dry : ByteArray := prog_14_method_68_code
def yX12_dry : MethodName := ⟨RX12, "dry", "(I)I"⟩
abbrev cX12_eased : ByteArray := prog_14_method_69_code
def yX12_eased : MethodName := ⟨RX12, "eased", "(II)I"⟩
abbrev cX12_wetBehind : ByteArray := prog_14_method_70_code
def yX12_wetBehind : MethodName := ⟨RX12, "wetBehind", "(I)I"⟩
abbrev cX12_bestOf : ByteArray := prog_14_method_71_code
def yX12_bestOf : MethodName := ⟨RX12, "bestOf", "(III)I"⟩
abbrev cX12_cellFor : ByteArray := prog_14_method_72_code
def yX12_cellFor : MethodName := ⟨RX12, "cellFor", "(II)I"⟩
abbrev cX12_comesFor : ByteArray := prog_14_method_73_code
def yX12_comesFor : MethodName := ⟨RX12, "comesFor", "(II)I"⟩
abbrev cX12_kindFor : ByteArray := prog_14_method_74_code
def yX12_kindFor : MethodName := ⟨RX12, "kindFor", "(II)I"⟩
abbrev cX12_isFolding : ByteArray := prog_14_method_75_code
def yX12_isFolding : MethodName := ⟨RX12, "isFolding", "(I)Z"⟩
abbrev cX12_digits : ByteArray := prog_14_method_76_code
def yX12_digits : MethodName := ⟨RX12, "digits", "(I)I"⟩
abbrev cX12_folds : ByteArray := prog_14_method_77_code
def yX12_folds : MethodName := ⟨RX12, "folds", "(III)V"⟩
abbrev cX12_foldsAll : ByteArray := prog_14_method_78_code
def yX12_foldsAll : MethodName := ⟨RX12, "foldsAll", "(I)V"⟩
abbrev cX12_folded : ByteArray := prog_14_method_79_code
def yX12_folded : MethodName := ⟨RX12, "folded", "(III)I"⟩
abbrev cX12_topFor : ByteArray := prog_14_method_80_code
def yX12_topFor : MethodName := ⟨RX12, "topFor", "(I)I"⟩
abbrev cX12_measures : ByteArray := prog_14_method_81_code
def yX12_measures : MethodName := ⟨RX12, "measures", "(II)V"⟩
abbrev cX12_partsOf : ByteArray := prog_14_method_82_code
def yX12_partsOf : MethodName := ⟨RX12, "partsOf", "(I)I"⟩
abbrev cX12_whole : ByteArray := prog_14_method_83_code
def yX12_whole : MethodName := ⟨RX12, "whole", "()I"⟩
abbrev cX12_route : ByteArray := prog_14_method_84_code
def yX12_route : MethodName := ⟨RX12, "route", "(II)I"⟩
abbrev cX12_parts : ByteArray := prog_14_method_85_code
def yX12_parts : MethodName := ⟨RX12, "parts", "()I"⟩
abbrev cX12_mends : ByteArray := prog_14_method_86_code
def yX12_mends : MethodName := ⟨RX12, "mends", "()I"⟩
abbrev cX12_winsBy : ByteArray := prog_14_method_87_code
def yX12_winsBy : MethodName := ⟨RX12, "winsBy", "(II)I"⟩
abbrev cX12_game : ByteArray := prog_14_method_88_code
def yX12_game : MethodName := ⟨RX12, "game", "(I)I"⟩
abbrev cX12_isTold : ByteArray := prog_14_method_89_code
def yX12_isTold : MethodName := ⟨RX12, "isTold", "(I)Z"⟩
abbrev cX12_which : ByteArray := prog_14_method_90_code
def yX12_which : MethodName := ⟨RX12, "which", "(II)I"⟩
abbrev cX12_sorry : ByteArray := prog_14_method_91_code
def yX12_sorry : MethodName := site_1163
abbrev cX12_common : ByteArray := prog_14_method_92_code
def yX12_common : MethodName := ⟨RX12, "common", "(II)I"⟩
abbrev cX12_odds : ByteArray := prog_14_method_93_code
def yX12_odds : MethodName := ⟨RX12, "odds", "(III)I"⟩
abbrev cX12_ran : ByteArray := prog_14_method_94_code
def yX12_ran : MethodName := ⟨RX12, "ran", "(I)V"⟩
abbrev cX12_sighsBy : ByteArray := prog_14_method_95_code
def yX12_sighsBy : MethodName := ⟨RX12, "sighsBy", "(II)I"⟩
abbrev cX12_blowsBy : ByteArray := prog_14_method_96_code
def yX12_blowsBy : MethodName := ⟨RX12, "blowsBy", "(II)I"⟩
abbrev cX12_foldsBy : ByteArray := prog_14_method_97_code
def yX12_foldsBy : MethodName := ⟨RX12, "foldsBy", "(II)I"⟩
abbrev cX12_tellsBy : ByteArray := prog_14_method_98_code
def yX12_tellsBy : MethodName := ⟨RX12, "tellsBy", "(II)I"⟩
abbrev cX12_voice : ByteArray := prog_14_method_99_code
def yX12_voice : MethodName := ⟨RX12, "voice", "(III)I"⟩
abbrev cX12_trace : ByteArray := prog_14_method_100_code
def yX12_trace : MethodName := ⟨RX12, "trace", "(I)I"⟩
abbrev cX12_isSheet : ByteArray := prog_14_method_101_code
def yX12_isSheet : MethodName := ⟨RX12, "isSheet", "(I)Z"⟩
abbrev cX12_sheet : ByteArray := prog_14_method_102_code
def yX12_sheet : MethodName := ⟨RX12, "sheet", "(III)I"⟩
abbrev cX12_put : ByteArray := prog_14_method_103_code
def yX12_put : MethodName := ⟨RX12, "put", "(III)I"⟩
abbrev cX12_move : ByteArray := prog_14_method_104_code
def yX12_move : MethodName := ⟨RX12, "move", "(IIIII)I"⟩
abbrev cX12_wets : ByteArray := prog_14_method_105_code
def yX12_wets : MethodName := ⟨RX12, "wets", "(I)I"⟩
abbrev cX12_judge : ByteArray := prog_14_method_106_code
def yX12_judge : MethodName := ⟨RX12, "judge", "(I)I"⟩
abbrev cX12_image : ByteArray := prog_14_method_107_code
def yX12_image : MethodName := ⟨RX12, "image", "()I"⟩
abbrev cX12_restore : ByteArray := prog_14_method_108_code
def yX12_restore : MethodName := ⟨RX12, "restore", "()I"⟩
abbrev cX12_tell : ByteArray := prog_14_method_109_code
def yX12_tell : MethodName := ⟨RX12, "tell", "(I)I"⟩
abbrev cX12_check : ByteArray := prog_14_method_110_code
def yX12_check : MethodName := ⟨RX12, "check", "()I"⟩
abbrev cX12_count : ByteArray := prog_14_method_111_code
def yX12_count : MethodName := ⟨RX12, "count", "(I)I"⟩
abbrev cX12_told : ByteArray := prog_14_method_112_code
def yX12_told : MethodName := ⟨RX12, "told", "(I)I"⟩
def RJ11 : String := "java/lang/Character"
def TJ11 : u_T := fun k => match k with
  | _ => ("", "", "", false)
def tyJ11 : Nat → FieldType := fun k => match k with
  | _ => .int
abbrev wsJ110 : List Cond := u_ws RJ11 TJ11 0
theorem nmJ11 : ∀ a, a < 0 → ∀ b, b < 0 → a ≠ b → (TJ11 a).2.1 ≠ (TJ11 b).2.1 := by decide +kernel
theorem tyJ11_ok : ∀ k, k < 0 → parseFieldDescriptor (TJ11 k).2.2.1 = some (tyJ11 k) := by decide +kernel
abbrev cJ11_isValidCodePoint_9a6ad : ByteArray := prog_15_method_11_code
def yJ11_isValidCodePoint_9a6ad : MethodName := ⟨RJ11, "isValidCodePoint", "(I)Z"⟩
abbrev cJ11_highSurrogate_5068e : ByteArray := prog_15_method_28_code
def yJ11_highSurrogate_5068e : MethodName := ⟨RJ11, "highSurrogate", "(I)C"⟩
abbrev cJ11_lowSurrogate_5068e : ByteArray := prog_15_method_29_code
def yJ11_lowSurrogate_5068e : MethodName := ⟨RJ11, "lowSurrogate", "(I)C"⟩
def RJ6 : String := "java/lang/Integer"
def TJ6 : u_T := fun k => match k with
  | _ => ("", "", "", false)
def tyJ6 : Nat → FieldType := fun k => match k with
  | _ => .int
abbrev wsJ60 : List Cond := u_ws RJ6 TJ6 0
theorem nmJ6 : ∀ a, a < 0 → ∀ b, b < 0 → a ≠ b → (TJ6 a).2.1 ≠ (TJ6 b).2.1 := by decide +kernel
theorem tyJ6_ok : ∀ k, k < 0 → parseFieldDescriptor (TJ6 k).2.2.1 = some (tyJ6 k) := by decide +kernel
abbrev cJ6_bitCount_0f7a4 : ByteArray := prog_16_method_49_code
def yJ6_bitCount_0f7a4 : MethodName := ⟨RJ6, "bitCount", "(I)I"⟩
def RJ9 : String := "java/lang/Math"
def TJ9 : u_T := fun k => match k with
  | _ => ("", "", "", false)
def tyJ9 : Nat → FieldType := fun k => match k with
  | _ => .int
abbrev wsJ90 : List Cond := u_ws RJ9 TJ9 0
theorem nmJ9 : ∀ a, a < 0 → ∀ b, b < 0 → a ≠ b → (TJ9 a).2.1 ≠ (TJ9 b).2.1 := by decide +kernel
theorem tyJ9_ok : ∀ k, k < 0 → parseFieldDescriptor (TJ9 k).2.2.1 = some (tyJ9 k) := by decide +kernel
abbrev cJ9_max_7cf53 : ByteArray := prog_17_method_65_code
def yJ9_max_7cf53 : MethodName := ⟨RJ9, "max", "(II)I"⟩
abbrev cJ9_min_7cf53 : ByteArray := prog_17_method_69_code
def yJ9_min_7cf53 : MethodName := ⟨RJ9, "min", "(II)I"⟩
def RJ0 : String := "java/lang/String"
def TJ0 : u_T := fun k => match k with
  | _ => ("", "", "", false)
def tyJ0 : Nat → FieldType := fun k => match k with
  | _ => .int
abbrev wsJ00 : List Cond := u_ws RJ0 TJ0 0
theorem nmJ0 : ∀ a, a < 0 → ∀ b, b < 0 → a ≠ b → (TJ0 a).2.1 ≠ (TJ0 b).2.1 := by decide +kernel
theorem tyJ0_ok : ∀ k, k < 0 → parseFieldDescriptor (TJ0 k).2.2.1 = some (tyJ0 k) := by decide +kernel
abbrev cJ0_length_8abf5 : ByteArray := prog_18_method_54_code
def yJ0_length_8abf5 : MethodName := ⟨RJ0, "length", "()I"⟩
abbrev cJ0_indexOf_0f7a4 : ByteArray := prog_18_method_79_code
def yJ0_indexOf_0f7a4 : MethodName := ⟨RJ0, "indexOf", "(I)I"⟩
abbrev cJ0_indexOf_7cf53 : ByteArray := prog_18_method_80_code
def yJ0_indexOf_7cf53 : MethodName := ⟨RJ0, "indexOf", "(II)I"⟩
abbrev cJ0_coder_7d493 : ByteArray := prog_18_method_152_code
def yJ0_coder_7d493 : MethodName := ⟨RJ0, "coder", "()B"⟩
abbrev cJ0_isLatin1_aae02 : ByteArray := prog_18_method_154_code
def yJ0_isLatin1_aae02 : MethodName := ⟨RJ0, "isLatin1", "()Z"⟩
abbrev cJ0_checkBoundsBeginEnd_23922 : ByteArray := prog_18_method_158_code
def yJ0_checkBoundsBeginEnd_23922 : MethodName := ⟨RJ0, "checkBoundsBeginEnd", "(III)V"⟩
def RJ1 : String := "java/lang/StringLatin1"
def TJ1 : u_T := fun k => match k with
  | _ => ("", "", "", false)
def tyJ1 : Nat → FieldType := fun k => match k with
  | _ => .int
abbrev wsJ10 : List Cond := u_ws RJ1 TJ1 0
theorem nmJ1 : ∀ a, a < 0 → ∀ b, b < 0 → a ≠ b → (TJ1 a).2.1 ≠ (TJ1 b).2.1 := by decide +kernel
theorem tyJ1_ok : ∀ k, k < 0 → parseFieldDescriptor (TJ1 k).2.2.1 = some (tyJ1 k) := by decide +kernel
abbrev cJ1_canEncode_9a6ad : ByteArray := prog_19_method_4_code
def yJ1_canEncode_9a6ad : MethodName := ⟨RJ1, "canEncode", "(I)Z"⟩
abbrev cJ1_indexOf_4cfef : ByteArray := prog_19_method_22_code
def yJ1_indexOf_4cfef : MethodName := ⟨RJ1, "indexOf", "([BIII)I"⟩
abbrev cJ1_indexOfChar_4cfef : ByteArray := prog_19_method_23_code
def yJ1_indexOfChar_4cfef : MethodName := ⟨RJ1, "indexOfChar", "([BIII)I"⟩
def RJ2 : String := "java/lang/StringUTF16"
def TJ2 : u_T := fun k => match k with
  | _ => ("", "", "", false)
def tyJ2 : Nat → FieldType := fun k => match k with
  | _ => .int
abbrev wsJ20 : List Cond := u_ws RJ2 TJ2 0
theorem nmJ2 : ∀ a, a < 0 → ∀ b, b < 0 → a ≠ b → (TJ2 a).2.1 ≠ (TJ2 b).2.1 := by decide +kernel
theorem tyJ2_ok : ∀ k, k < 0 → parseFieldDescriptor (TJ2 k).2.2.1 = some (tyJ2 k) := by decide +kernel
abbrev cJ2_getChar_3b067 : ByteArray := prog_20_method_5_code
def yJ2_getChar_3b067 : MethodName := ⟨RJ2, "getChar", "([BI)C"⟩
abbrev cJ2_length_9d52b : ByteArray := prog_20_method_6_code
def yJ2_length_9d52b : MethodName := ⟨RJ2, "length", "([B)I"⟩
abbrev cJ2_indexOf_4cfef : ByteArray := prog_20_method_40_code
def yJ2_indexOf_4cfef : MethodName := ⟨RJ2, "indexOf", "([BIII)I"⟩
abbrev cJ2_indexOfChar_4cfef : ByteArray := prog_20_method_47_code
def yJ2_indexOfChar_4cfef : MethodName := ⟨RJ2, "indexOfChar", "([BIII)I"⟩
abbrev cJ2_indexOfCharUnsafe_4cfef : ByteArray := prog_20_method_48_code
def yJ2_indexOfCharUnsafe_4cfef : MethodName := ⟨RJ2, "indexOfCharUnsafe", "([BIII)I"⟩
abbrev cJ2_indexOfSupplementary_4cfef : ByteArray := prog_20_method_49_code
def yJ2_indexOfSupplementary_4cfef : MethodName := ⟨RJ2, "indexOfSupplementary", "([BIII)I"⟩
abbrev cJ2_checkBoundsBeginEnd_d044e : ByteArray := prog_20_method_93_code
def yJ2_checkBoundsBeginEnd_d044e : MethodName := ⟨RJ2, "checkBoundsBeginEnd", "(II[B)V"⟩
def RJ10 : String := "java/lang/System"
def TJ10 : u_T := fun k => match k with
  | _ => ("", "", "", false)
def tyJ10 : Nat → FieldType := fun k => match k with
  | _ => .int
abbrev wsJ100 : List Cond := u_ws RJ10 TJ10 0
theorem nmJ10 : ∀ a, a < 0 → ∀ b, b < 0 → a ≠ b → (TJ10 a).2.1 ≠ (TJ10 b).2.1 := by decide +kernel
theorem tyJ10_ok : ∀ k, k < 0 → parseFieldDescriptor (TJ10 k).2.2.1 = some (tyJ10 k) := by decide +kernel
def RJ3 : String := "jdk/internal/util/Preconditions"
def TJ3 : u_T := fun k => match k with
  | _ => ("", "", "", false)
def tyJ3 : Nat → FieldType := fun k => match k with
  | _ => .int
abbrev wsJ30 : List Cond := u_ws RJ3 TJ3 0
theorem nmJ3 : ∀ a, a < 0 → ∀ b, b < 0 → a ≠ b → (TJ3 a).2.1 ≠ (TJ3 b).2.1 := by decide +kernel
theorem tyJ3_ok : ∀ k, k < 0 → parseFieldDescriptor (TJ3 k).2.2.1 = some (tyJ3 k) := by decide +kernel
abbrev cJ3_checkFromToIndex_8c36e : ByteArray := prog_22_method_12_code
def yJ3_checkFromToIndex_8c36e : MethodName := ⟨RJ3, "checkFromToIndex", "(IIILjava/util/function/BiFunction;)I"⟩
def RL : String := "GreatCambricLaw"
abbrev cL_law : ByteArray := code
def yL_law : MethodName := ⟨RL, "law", "([I)Z"⟩
abbrev vwCl : List vw_C := [(RX0, TX0, 15), (RX1, TX1, 0), (RX2, TX2, 5), (RX3, TX3, 0), (RX4, TX4, 0), (RX5, TX5, 0), (RX6, TX6, 0), (RX7, TX7, 3), (RX8, TX8, 0), (RX9, TX9, 3), (RX10, TX10, 0), (RX11, TX11, 10), (RX12, TX12, 28)]
