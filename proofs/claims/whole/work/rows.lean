section
-- ===== PART A: goes FIRST, ahead of the names: the tables' words, and 'selects' of the private methods out of them =====
/-- a private method of a class that the tables say can be made, by its rows of tables_1 -/
def lw_okq (q : MethodName × Nat) : Prop := (q.1.cls ≠ "java/lang/invoke/MethodHandle" ∧ q.1.cls ≠ "java/lang/invoke/VarHandle") ∧ Cond.instantiable q.1.cls q.2 ∈ tables_1 ∧ Cond.privateMethod q.1 ∈ tables_1 ∧ Cond.instanceMethod q.1 ∈ tables_1
theorem lw_p0 : lw_okq (⟨"DustSills", "error", "(I)I"⟩, 11) := ⟨⟨by decide +kernel, by decide +kernel⟩, List.mem_of_getElem? (i := 24) (by decide +kernel), List.mem_of_getElem? (i := 290) (by decide +kernel), List.mem_of_getElem? (i := 291) (by decide +kernel)⟩
theorem lw_p1 : lw_okq (⟨"DustSills", "isHeir", "(I)Z"⟩, 11) := ⟨⟨by decide +kernel, by decide +kernel⟩, List.mem_of_getElem? (i := 24) (by decide +kernel), List.mem_of_getElem? (i := 336) (by decide +kernel), List.mem_of_getElem? (i := 337) (by decide +kernel)⟩
theorem lw_p2 : lw_okq (⟨"DustSills$Town", "sunOf", "(I)I"⟩, 14) := ⟨⟨by decide +kernel, by decide +kernel⟩, List.mem_of_getElem? (i := 82) (by decide +kernel), List.mem_of_getElem? (i := 381) (by decide +kernel), List.mem_of_getElem? (i := 382) (by decide +kernel)⟩
theorem lw_p3 : lw_okq (⟨"DustSills$Law", "readLevel", "([IIII)V"⟩, 9) := ⟨⟨by decide +kernel, by decide +kernel⟩, List.mem_of_getElem? (i := 151) (by decide +kernel), List.mem_of_getElem? (i := 485) (by decide +kernel), List.mem_of_getElem? (i := 486) (by decide +kernel)⟩
theorem lw_p4 : lw_okq (⟨"DustSills$Law", "readPart", "([III)V"⟩, 9) := ⟨⟨by decide +kernel, by decide +kernel⟩, List.mem_of_getElem? (i := 151) (by decide +kernel), List.mem_of_getElem? (i := 489) (by decide +kernel), List.mem_of_getElem? (i := 490) (by decide +kernel)⟩
theorem lw_p5 : lw_okq (⟨"DustSills$Law", "readNumber", "([II)V"⟩, 9) := ⟨⟨by decide +kernel, by decide +kernel⟩, List.mem_of_getElem? (i := 151) (by decide +kernel), List.mem_of_getElem? (i := 581) (by decide +kernel), List.mem_of_getElem? (i := 582) (by decide +kernel)⟩
theorem lw_p6 : lw_okq (⟨"DustSills$Law", "write", "(I)V"⟩, 9) := ⟨⟨by decide +kernel, by decide +kernel⟩, List.mem_of_getElem? (i := 151) (by decide +kernel), List.mem_of_getElem? (i := 585) (by decide +kernel), List.mem_of_getElem? (i := 586) (by decide +kernel)⟩
theorem lw_p7 : lw_okq (⟨"DustSills$Law", "readClosing", "([II)V"⟩, 9) := ⟨⟨by decide +kernel, by decide +kernel⟩, List.mem_of_getElem? (i := 151) (by decide +kernel), List.mem_of_getElem? (i := 589) (by decide +kernel), List.mem_of_getElem? (i := 590) (by decide +kernel)⟩
theorem lw_p8 : lw_okq (⟨"DustSills$Law", "take", "([II)V"⟩, 9) := ⟨⟨by decide +kernel, by decide +kernel⟩, List.mem_of_getElem? (i := 151) (by decide +kernel), List.mem_of_getElem? (i := 596) (by decide +kernel), List.mem_of_getElem? (i := 597) (by decide +kernel)⟩
theorem lw_p9 : lw_okq (⟨"DustSills$Law", "workedOut", "(III)I"⟩, 9) := ⟨⟨by decide +kernel, by decide +kernel⟩, List.mem_of_getElem? (i := 151) (by decide +kernel), List.mem_of_getElem? (i := 612) (by decide +kernel), List.mem_of_getElem? (i := 613) (by decide +kernel)⟩
theorem lw_p10 : lw_okq (⟨"DustSills$Town", "carry", "(I)V"⟩, 14) := ⟨⟨by decide +kernel, by decide +kernel⟩, List.mem_of_getElem? (i := 82) (by decide +kernel), List.mem_of_getElem? (i := 645) (by decide +kernel), List.mem_of_getElem? (i := 646) (by decide +kernel)⟩
theorem lw_p11 : lw_okq (⟨"DustSills$Town", "drift", "(II)V"⟩, 14) := ⟨⟨by decide +kernel, by decide +kernel⟩, List.mem_of_getElem? (i := 82) (by decide +kernel), List.mem_of_getElem? (i := 650) (by decide +kernel), List.mem_of_getElem? (i := 651) (by decide +kernel)⟩
theorem lw_p12 : lw_okq (⟨"DustSills$Town", "shine", "(LDustSills$Law;)V"⟩, 14) := ⟨⟨by decide +kernel, by decide +kernel⟩, List.mem_of_getElem? (i := 82) (by decide +kernel), List.mem_of_getElem? (i := 654) (by decide +kernel), List.mem_of_getElem? (i := 655) (by decide +kernel)⟩
theorem lw_p13 : lw_okq (⟨"DustSills$Town", "sweepUp", "()V"⟩, 14) := ⟨⟨by decide +kernel, by decide +kernel⟩, List.mem_of_getElem? (i := 82) (by decide +kernel), List.mem_of_getElem? (i := 661) (by decide +kernel), List.mem_of_getElem? (i := 662) (by decide +kernel)⟩
theorem lw_p14 : lw_okq (⟨"DustSills", "think", "()V"⟩, 11) := ⟨⟨by decide +kernel, by decide +kernel⟩, List.mem_of_getElem? (i := 24) (by decide +kernel), List.mem_of_getElem? (i := 679) (by decide +kernel), List.mem_of_getElem? (i := 680) (by decide +kernel)⟩
theorem lw_p15 : lw_okq (⟨"DustSills", "isSetOfHeirs", "(I)Z"⟩, 11) := ⟨⟨by decide +kernel, by decide +kernel⟩, List.mem_of_getElem? (i := 24) (by decide +kernel), List.mem_of_getElem? (i := 712) (by decide +kernel), List.mem_of_getElem? (i := 713) (by decide +kernel)⟩
def lw_privs_1 : List (MethodName × Nat) := [(⟨"DustSills", "error", "(I)I"⟩, 11), (⟨"DustSills", "isHeir", "(I)Z"⟩, 11), (⟨"DustSills$Town", "sunOf", "(I)I"⟩, 14), (⟨"DustSills$Law", "readLevel", "([IIII)V"⟩, 9), (⟨"DustSills$Law", "readPart", "([III)V"⟩, 9), (⟨"DustSills$Law", "readNumber", "([II)V"⟩, 9), (⟨"DustSills$Law", "write", "(I)V"⟩, 9), (⟨"DustSills$Law", "readClosing", "([II)V"⟩, 9), (⟨"DustSills$Law", "take", "([II)V"⟩, 9), (⟨"DustSills$Law", "workedOut", "(III)I"⟩, 9), (⟨"DustSills$Town", "carry", "(I)V"⟩, 14), (⟨"DustSills$Town", "drift", "(II)V"⟩, 14), (⟨"DustSills$Town", "shine", "(LDustSills$Law;)V"⟩, 14), (⟨"DustSills$Town", "sweepUp", "()V"⟩, 14), (⟨"DustSills", "think", "()V"⟩, 11), (⟨"DustSills", "isSetOfHeirs", "(I)Z"⟩, 11)]
theorem lw_r1 : ∀ q ∈ lw_privs_1, lw_okq q := List.forall_mem_cons.mpr ⟨lw_p0, List.forall_mem_cons.mpr ⟨lw_p1, List.forall_mem_cons.mpr ⟨lw_p2, List.forall_mem_cons.mpr ⟨lw_p3, List.forall_mem_cons.mpr ⟨lw_p4, List.forall_mem_cons.mpr ⟨lw_p5, List.forall_mem_cons.mpr ⟨lw_p6, List.forall_mem_cons.mpr ⟨lw_p7, List.forall_mem_cons.mpr ⟨lw_p8, List.forall_mem_cons.mpr ⟨lw_p9, List.forall_mem_cons.mpr ⟨lw_p10, List.forall_mem_cons.mpr ⟨lw_p11, List.forall_mem_cons.mpr ⟨lw_p12, List.forall_mem_cons.mpr ⟨lw_p13, List.forall_mem_cons.mpr ⟨lw_p14, List.forall_mem_cons.mpr ⟨lw_p15, fun _ h => absurd h List.not_mem_nil⟩⟩⟩⟩⟩⟩⟩⟩⟩⟩⟩⟩⟩⟩⟩⟩
theorem lw_p16 : lw_okq (⟨"DustSills", "isMissing", "(I)Z"⟩, 11) := ⟨⟨by decide +kernel, by decide +kernel⟩, List.mem_of_getElem? (i := 24) (by decide +kernel), List.mem_of_getElem? (i := 744) (by decide +kernel), List.mem_of_getElem? (i := 745) (by decide +kernel)⟩
theorem lw_p17 : lw_okq (⟨"DustSills", "liesAsTold", "(II)Z"⟩, 11) := ⟨⟨by decide +kernel, by decide +kernel⟩, List.mem_of_getElem? (i := 24) (by decide +kernel), List.mem_of_getElem? (i := 748) (by decide +kernel), List.mem_of_getElem? (i := 749) (by decide +kernel)⟩
theorem lw_p18 : lw_okq (⟨"DustSills", "stand", "(III)Z"⟩, 11) := ⟨⟨by decide +kernel, by decide +kernel⟩, List.mem_of_getElem? (i := 24) (by decide +kernel), List.mem_of_getElem? (i := 891) (by decide +kernel), List.mem_of_getElem? (i := 892) (by decide +kernel)⟩
theorem lw_p19 : lw_okq (⟨"DustSillsModel", "finds", "(I)I"⟩, 22) := ⟨⟨by decide +kernel, by decide +kernel⟩, List.mem_of_getElem? (i := 952) (by decide +kernel), List.mem_of_getElem? (i := 1033) (by decide +kernel), List.mem_of_getElem? (i := 1034) (by decide +kernel)⟩
theorem lw_p20 : lw_okq (⟨"DustSillsModel", "reads", "(III)V"⟩, 22) := ⟨⟨by decide +kernel, by decide +kernel⟩, List.mem_of_getElem? (i := 952) (by decide +kernel), List.mem_of_getElem? (i := 1043) (by decide +kernel), List.mem_of_getElem? (i := 1044) (by decide +kernel)⟩
theorem lw_p21 : lw_okq (⟨"DustSillsModel", "either", "()V"⟩, 22) := ⟨⟨by decide +kernel, by decide +kernel⟩, List.mem_of_getElem? (i := 952) (by decide +kernel), List.mem_of_getElem? (i := 1047) (by decide +kernel), List.mem_of_getElem? (i := 1048) (by decide +kernel)⟩
theorem lw_p22 : lw_okq (⟨"DustSillsModel", "both", "()V"⟩, 22) := ⟨⟨by decide +kernel, by decide +kernel⟩, List.mem_of_getElem? (i := 952) (by decide +kernel), List.mem_of_getElem? (i := 1051) (by decide +kernel), List.mem_of_getElem? (i := 1052) (by decide +kernel)⟩
theorem lw_p23 : lw_okq (⟨"DustSillsModel", "compared", "()V"⟩, 22) := ⟨⟨by decide +kernel, by decide +kernel⟩, List.mem_of_getElem? (i := 952) (by decide +kernel), List.mem_of_getElem? (i := 1055) (by decide +kernel), List.mem_of_getElem? (i := 1056) (by decide +kernel)⟩
theorem lw_p24 : lw_okq (⟨"DustSillsModel", "sum", "()V"⟩, 22) := ⟨⟨by decide +kernel, by decide +kernel⟩, List.mem_of_getElem? (i := 952) (by decide +kernel), List.mem_of_getElem? (i := 1059) (by decide +kernel), List.mem_of_getElem? (i := 1060) (by decide +kernel)⟩
theorem lw_p25 : lw_okq (⟨"DustSillsModel", "product", "()V"⟩, 22) := ⟨⟨by decide +kernel, by decide +kernel⟩, List.mem_of_getElem? (i := 952) (by decide +kernel), List.mem_of_getElem? (i := 1063) (by decide +kernel), List.mem_of_getElem? (i := 1064) (by decide +kernel)⟩
theorem lw_p26 : lw_okq (⟨"DustSillsModel", "unit", "()V"⟩, 22) := ⟨⟨by decide +kernel, by decide +kernel⟩, List.mem_of_getElem? (i := 952) (by decide +kernel), List.mem_of_getElem? (i := 1067) (by decide +kernel), List.mem_of_getElem? (i := 1068) (by decide +kernel)⟩
theorem lw_p27 : lw_okq (⟨"DustSillsModel", "here", "()I"⟩, 22) := ⟨⟨by decide +kernel, by decide +kernel⟩, List.mem_of_getElem? (i := 952) (by decide +kernel), List.mem_of_getElem? (i := 1071) (by decide +kernel), List.mem_of_getElem? (i := 1072) (by decide +kernel)⟩
theorem lw_p28 : lw_okq (⟨"DustSillsModel", "opens", "(I)V"⟩, 22) := ⟨⟨by decide +kernel, by decide +kernel⟩, List.mem_of_getElem? (i := 952) (by decide +kernel), List.mem_of_getElem? (i := 1075) (by decide +kernel), List.mem_of_getElem? (i := 1076) (by decide +kernel)⟩
theorem lw_p29 : lw_okq (⟨"DustSillsModel", "wrong", "()V"⟩, 22) := ⟨⟨by decide +kernel, by decide +kernel⟩, List.mem_of_getElem? (i := 952) (by decide +kernel), List.mem_of_getElem? (i := 1079) (by decide +kernel), List.mem_of_getElem? (i := 1080) (by decide +kernel)⟩
theorem lw_p30 : lw_okq (⟨"DustSillsModel", "lay", "(I)V"⟩, 22) := ⟨⟨by decide +kernel, by decide +kernel⟩, List.mem_of_getElem? (i := 952) (by decide +kernel), List.mem_of_getElem? (i := 1083) (by decide +kernel), List.mem_of_getElem? (i := 1084) (by decide +kernel)⟩
theorem lw_p31 : lw_okq (⟨"DustSillsModel", "takes", "(I)Z"⟩, 22) := ⟨⟨by decide +kernel, by decide +kernel⟩, List.mem_of_getElem? (i := 952) (by decide +kernel), List.mem_of_getElem? (i := 1087) (by decide +kernel), List.mem_of_getElem? (i := 1088) (by decide +kernel)⟩
def lw_privs_2 : List (MethodName × Nat) := [(⟨"DustSills", "isMissing", "(I)Z"⟩, 11), (⟨"DustSills", "liesAsTold", "(II)Z"⟩, 11), (⟨"DustSills", "stand", "(III)Z"⟩, 11), (⟨"DustSillsModel", "finds", "(I)I"⟩, 22), (⟨"DustSillsModel", "reads", "(III)V"⟩, 22), (⟨"DustSillsModel", "either", "()V"⟩, 22), (⟨"DustSillsModel", "both", "()V"⟩, 22), (⟨"DustSillsModel", "compared", "()V"⟩, 22), (⟨"DustSillsModel", "sum", "()V"⟩, 22), (⟨"DustSillsModel", "product", "()V"⟩, 22), (⟨"DustSillsModel", "unit", "()V"⟩, 22), (⟨"DustSillsModel", "here", "()I"⟩, 22), (⟨"DustSillsModel", "opens", "(I)V"⟩, 22), (⟨"DustSillsModel", "wrong", "()V"⟩, 22), (⟨"DustSillsModel", "lay", "(I)V"⟩, 22), (⟨"DustSillsModel", "takes", "(I)Z"⟩, 22)]
theorem lw_r2 : ∀ q ∈ lw_privs_2, lw_okq q := List.forall_mem_cons.mpr ⟨lw_p16, List.forall_mem_cons.mpr ⟨lw_p17, List.forall_mem_cons.mpr ⟨lw_p18, List.forall_mem_cons.mpr ⟨lw_p19, List.forall_mem_cons.mpr ⟨lw_p20, List.forall_mem_cons.mpr ⟨lw_p21, List.forall_mem_cons.mpr ⟨lw_p22, List.forall_mem_cons.mpr ⟨lw_p23, List.forall_mem_cons.mpr ⟨lw_p24, List.forall_mem_cons.mpr ⟨lw_p25, List.forall_mem_cons.mpr ⟨lw_p26, List.forall_mem_cons.mpr ⟨lw_p27, List.forall_mem_cons.mpr ⟨lw_p28, List.forall_mem_cons.mpr ⟨lw_p29, List.forall_mem_cons.mpr ⟨lw_p30, List.forall_mem_cons.mpr ⟨lw_p31, fun _ h => absurd h List.not_mem_nil⟩⟩⟩⟩⟩⟩⟩⟩⟩⟩⟩⟩⟩⟩⟩⟩
theorem lw_p32 : lw_okq (⟨"DustSillsModel", "nameOf", "(I)I"⟩, 22) := ⟨⟨by decide +kernel, by decide +kernel⟩, List.mem_of_getElem? (i := 952) (by decide +kernel), List.mem_of_getElem? (i := 1091) (by decide +kernel), List.mem_of_getElem? (i := 1092) (by decide +kernel)⟩
theorem lw_p33 : lw_okq (⟨"DustSillsModel", "textGives", "(IIII)I"⟩, 22) := ⟨⟨by decide +kernel, by decide +kernel⟩, List.mem_of_getElem? (i := 952) (by decide +kernel), List.mem_of_getElem? (i := 1101) (by decide +kernel), List.mem_of_getElem? (i := 1102) (by decide +kernel)⟩
theorem lw_p34 : lw_okq (⟨"DustSillsModel", "worked", "(II)I"⟩, 22) := ⟨⟨by decide +kernel, by decide +kernel⟩, List.mem_of_getElem? (i := 952) (by decide +kernel), List.mem_of_getElem? (i := 1105) (by decide +kernel), List.mem_of_getElem? (i := 1106) (by decide +kernel)⟩
theorem lw_p35 : lw_okq (⟨"DustSillsModel", "becomes", "(II)I"⟩, 22) := ⟨⟨by decide +kernel, by decide +kernel⟩, List.mem_of_getElem? (i := 952) (by decide +kernel), List.mem_of_getElem? (i := 1124) (by decide +kernel), List.mem_of_getElem? (i := 1125) (by decide +kernel)⟩
theorem lw_p36 : lw_okq (⟨"DustSillsModel", "lying", "(I)I"⟩, 22) := ⟨⟨by decide +kernel, by decide +kernel⟩, List.mem_of_getElem? (i := 952) (by decide +kernel), List.mem_of_getElem? (i := 1133) (by decide +kernel), List.mem_of_getElem? (i := 1134) (by decide +kernel)⟩
theorem lw_p37 : lw_okq (⟨"DustSillsModel", "of", "(II)I"⟩, 22) := ⟨⟨by decide +kernel, by decide +kernel⟩, List.mem_of_getElem? (i := 952) (by decide +kernel), List.mem_of_getElem? (i := 1137) (by decide +kernel), List.mem_of_getElem? (i := 1138) (by decide +kernel)⟩
theorem lw_p38 : lw_okq (⟨"DustSillsModel", "sets", "(III)V"⟩, 22) := ⟨⟨by decide +kernel, by decide +kernel⟩, List.mem_of_getElem? (i := 952) (by decide +kernel), List.mem_of_getElem? (i := 1153) (by decide +kernel), List.mem_of_getElem? (i := 1154) (by decide +kernel)⟩
theorem lw_p39 : lw_okq (⟨"DustSillsModel", "leaves", "(II)V"⟩, 22) := ⟨⟨by decide +kernel, by decide +kernel⟩, List.mem_of_getElem? (i := 952) (by decide +kernel), List.mem_of_getElem? (i := 1157) (by decide +kernel), List.mem_of_getElem? (i := 1158) (by decide +kernel)⟩
theorem lw_p40 : lw_okq (⟨"DustSillsModel", "isHeir", "(I)Z"⟩, 22) := ⟨⟨by decide +kernel, by decide +kernel⟩, List.mem_of_getElem? (i := 952) (by decide +kernel), List.mem_of_getElem? (i := 1165) (by decide +kernel), List.mem_of_getElem? (i := 1166) (by decide +kernel)⟩
theorem lw_p41 : lw_okq (⟨"DustSillsModel", "drifts", "(II)I"⟩, 22) := ⟨⟨by decide +kernel, by decide +kernel⟩, List.mem_of_getElem? (i := 952) (by decide +kernel), List.mem_of_getElem? (i := 1169) (by decide +kernel), List.mem_of_getElem? (i := 1170) (by decide +kernel)⟩
theorem lw_p42 : lw_okq (⟨"DustSillsModel", "sunOf", "(I)I"⟩, 22) := ⟨⟨by decide +kernel, by decide +kernel⟩, List.mem_of_getElem? (i := 952) (by decide +kernel), List.mem_of_getElem? (i := 1173) (by decide +kernel), List.mem_of_getElem? (i := 1174) (by decide +kernel)⟩
theorem lw_p43 : lw_okq (⟨"DustSillsModel", "isDust", "(I)Z"⟩, 22) := ⟨⟨by decide +kernel, by decide +kernel⟩, List.mem_of_getElem? (i := 952) (by decide +kernel), List.mem_of_getElem? (i := 1177) (by decide +kernel), List.mem_of_getElem? (i := 1178) (by decide +kernel)⟩
theorem lw_p44 : lw_okq (⟨"DustSillsModel", "shines", "(II)I"⟩, 22) := ⟨⟨by decide +kernel, by decide +kernel⟩, List.mem_of_getElem? (i := 952) (by decide +kernel), List.mem_of_getElem? (i := 1181) (by decide +kernel), List.mem_of_getElem? (i := 1182) (by decide +kernel)⟩
theorem lw_p45 : lw_okq (⟨"DustSillsModel", "needs", "(I)I"⟩, 22) := ⟨⟨by decide +kernel, by decide +kernel⟩, List.mem_of_getElem? (i := 952) (by decide +kernel), List.mem_of_getElem? (i := 1185) (by decide +kernel), List.mem_of_getElem? (i := 1186) (by decide +kernel)⟩
theorem lw_p46 : lw_okq (⟨"DustSillsModel", "isContent", "(I)Z"⟩, 22) := ⟨⟨by decide +kernel, by decide +kernel⟩, List.mem_of_getElem? (i := 952) (by decide +kernel), List.mem_of_getElem? (i := 1189) (by decide +kernel), List.mem_of_getElem? (i := 1190) (by decide +kernel)⟩
theorem lw_p47 : lw_okq (⟨"DustSillsModel", "daysGo", "(I)V"⟩, 22) := ⟨⟨by decide +kernel, by decide +kernel⟩, List.mem_of_getElem? (i := 952) (by decide +kernel), List.mem_of_getElem? (i := 1215) (by decide +kernel), List.mem_of_getElem? (i := 1216) (by decide +kernel)⟩
def lw_privs_3 : List (MethodName × Nat) := [(⟨"DustSillsModel", "nameOf", "(I)I"⟩, 22), (⟨"DustSillsModel", "textGives", "(IIII)I"⟩, 22), (⟨"DustSillsModel", "worked", "(II)I"⟩, 22), (⟨"DustSillsModel", "becomes", "(II)I"⟩, 22), (⟨"DustSillsModel", "lying", "(I)I"⟩, 22), (⟨"DustSillsModel", "of", "(II)I"⟩, 22), (⟨"DustSillsModel", "sets", "(III)V"⟩, 22), (⟨"DustSillsModel", "leaves", "(II)V"⟩, 22), (⟨"DustSillsModel", "isHeir", "(I)Z"⟩, 22), (⟨"DustSillsModel", "drifts", "(II)I"⟩, 22), (⟨"DustSillsModel", "sunOf", "(I)I"⟩, 22), (⟨"DustSillsModel", "isDust", "(I)Z"⟩, 22), (⟨"DustSillsModel", "shines", "(II)I"⟩, 22), (⟨"DustSillsModel", "needs", "(I)I"⟩, 22), (⟨"DustSillsModel", "isContent", "(I)Z"⟩, 22), (⟨"DustSillsModel", "daysGo", "(I)V"⟩, 22)]
theorem lw_r3 : ∀ q ∈ lw_privs_3, lw_okq q := List.forall_mem_cons.mpr ⟨lw_p32, List.forall_mem_cons.mpr ⟨lw_p33, List.forall_mem_cons.mpr ⟨lw_p34, List.forall_mem_cons.mpr ⟨lw_p35, List.forall_mem_cons.mpr ⟨lw_p36, List.forall_mem_cons.mpr ⟨lw_p37, List.forall_mem_cons.mpr ⟨lw_p38, List.forall_mem_cons.mpr ⟨lw_p39, List.forall_mem_cons.mpr ⟨lw_p40, List.forall_mem_cons.mpr ⟨lw_p41, List.forall_mem_cons.mpr ⟨lw_p42, List.forall_mem_cons.mpr ⟨lw_p43, List.forall_mem_cons.mpr ⟨lw_p44, List.forall_mem_cons.mpr ⟨lw_p45, List.forall_mem_cons.mpr ⟨lw_p46, List.forall_mem_cons.mpr ⟨lw_p47, fun _ h => absurd h List.not_mem_nil⟩⟩⟩⟩⟩⟩⟩⟩⟩⟩⟩⟩⟩⟩⟩⟩
theorem lw_p48 : lw_okq (⟨"DustSillsModel", "dayGoes", "()V"⟩, 22) := ⟨⟨by decide +kernel, by decide +kernel⟩, List.mem_of_getElem? (i := 952) (by decide +kernel), List.mem_of_getElem? (i := 1219) (by decide +kernel), List.mem_of_getElem? (i := 1220) (by decide +kernel)⟩
theorem lw_p49 : lw_okq (⟨"DustSillsModel", "dusts", "()I"⟩, 22) := ⟨⟨by decide +kernel, by decide +kernel⟩, List.mem_of_getElem? (i := 952) (by decide +kernel), List.mem_of_getElem? (i := 1223) (by decide +kernel), List.mem_of_getElem? (i := 1224) (by decide +kernel)⟩
theorem lw_p50 : lw_okq (⟨"DustSillsModel", "drawn", "()I"⟩, 22) := ⟨⟨by decide +kernel, by decide +kernel⟩, List.mem_of_getElem? (i := 952) (by decide +kernel), List.mem_of_getElem? (i := 1233) (by decide +kernel), List.mem_of_getElem? (i := 1234) (by decide +kernel)⟩
theorem lw_p51 : lw_okq (⟨"DustSillsModel", "keepAside", "()V"⟩, 22) := ⟨⟨by decide +kernel, by decide +kernel⟩, List.mem_of_getElem? (i := 952) (by decide +kernel), List.mem_of_getElem? (i := 1242) (by decide +kernel), List.mem_of_getElem? (i := 1243) (by decide +kernel)⟩
theorem lw_p52 : lw_okq (⟨"DustSillsModel", "behind", "(II)I"⟩, 22) := ⟨⟨by decide +kernel, by decide +kernel⟩, List.mem_of_getElem? (i := 952) (by decide +kernel), List.mem_of_getElem? (i := 1249) (by decide +kernel), List.mem_of_getElem? (i := 1250) (by decide +kernel)⟩
theorem lw_p53 : lw_okq (⟨"DustSillsModel", "putBack", "()V"⟩, 22) := ⟨⟨by decide +kernel, by decide +kernel⟩, List.mem_of_getElem? (i := 952) (by decide +kernel), List.mem_of_getElem? (i := 1253) (by decide +kernel), List.mem_of_getElem? (i := 1254) (by decide +kernel)⟩
theorem lw_p54 : lw_okq (⟨"DustSillsModel", "contents", "()I"⟩, 22) := ⟨⟨by decide +kernel, by decide +kernel⟩, List.mem_of_getElem? (i := 952) (by decide +kernel), List.mem_of_getElem? (i := 1280) (by decide +kernel), List.mem_of_getElem? (i := 1281) (by decide +kernel)⟩
theorem lw_p55 : lw_okq (⟨"DustSillsModel", "areDust", "(I)Z"⟩, 22) := ⟨⟨by decide +kernel, by decide +kernel⟩, List.mem_of_getElem? (i := 952) (by decide +kernel), List.mem_of_getElem? (i := 1327) (by decide +kernel), List.mem_of_getElem? (i := 1328) (by decide +kernel)⟩
theorem lw_p56 : lw_okq (⟨"DustSillsModel", "liesBy", "(II)I"⟩, 22) := ⟨⟨by decide +kernel, by decide +kernel⟩, List.mem_of_getElem? (i := 952) (by decide +kernel), List.mem_of_getElem? (i := 1346) (by decide +kernel), List.mem_of_getElem? (i := 1347) (by decide +kernel)⟩
theorem lw_p57 : lw_okq (⟨"DustSillsModel", "ran", "(I)V"⟩, 22) := ⟨⟨by decide +kernel, by decide +kernel⟩, List.mem_of_getElem? (i := 952) (by decide +kernel), List.mem_of_getElem? (i := 1350) (by decide +kernel), List.mem_of_getElem? (i := 1351) (by decide +kernel)⟩
theorem lw_p58 : lw_okq (⟨"DustSillsModel", "shinesBy", "(II)I"⟩, 22) := ⟨⟨by decide +kernel, by decide +kernel⟩, List.mem_of_getElem? (i := 952) (by decide +kernel), List.mem_of_getElem? (i := 1354) (by decide +kernel), List.mem_of_getElem? (i := 1355) (by decide +kernel)⟩
theorem lw_p59 : lw_okq (⟨"DustSillsModel", "driftsBy", "(II)I"⟩, 22) := ⟨⟨by decide +kernel, by decide +kernel⟩, List.mem_of_getElem? (i := 952) (by decide +kernel), List.mem_of_getElem? (i := 1358) (by decide +kernel), List.mem_of_getElem? (i := 1359) (by decide +kernel)⟩
theorem lw_p60 : lw_okq (⟨"DustSillsModel", "tellsBy", "(II)I"⟩, 22) := ⟨⟨by decide +kernel, by decide +kernel⟩, List.mem_of_getElem? (i := 952) (by decide +kernel), List.mem_of_getElem? (i := 1362) (by decide +kernel), List.mem_of_getElem? (i := 1363) (by decide +kernel)⟩
theorem lw_p61 : lw_okq (⟨"DustSillsModel", "sumOf", "(III)I"⟩, 22) := ⟨⟨by decide +kernel, by decide +kernel⟩, List.mem_of_getElem? (i := 952) (by decide +kernel), List.mem_of_getElem? (i := 1410) (by decide +kernel), List.mem_of_getElem? (i := 1411) (by decide +kernel)⟩
def lw_privs_4 : List (MethodName × Nat) := [(⟨"DustSillsModel", "dayGoes", "()V"⟩, 22), (⟨"DustSillsModel", "dusts", "()I"⟩, 22), (⟨"DustSillsModel", "drawn", "()I"⟩, 22), (⟨"DustSillsModel", "keepAside", "()V"⟩, 22), (⟨"DustSillsModel", "behind", "(II)I"⟩, 22), (⟨"DustSillsModel", "putBack", "()V"⟩, 22), (⟨"DustSillsModel", "contents", "()I"⟩, 22), (⟨"DustSillsModel", "areDust", "(I)Z"⟩, 22), (⟨"DustSillsModel", "liesBy", "(II)I"⟩, 22), (⟨"DustSillsModel", "ran", "(I)V"⟩, 22), (⟨"DustSillsModel", "shinesBy", "(II)I"⟩, 22), (⟨"DustSillsModel", "driftsBy", "(II)I"⟩, 22), (⟨"DustSillsModel", "tellsBy", "(II)I"⟩, 22), (⟨"DustSillsModel", "sumOf", "(III)I"⟩, 22)]
theorem lw_r4 : ∀ q ∈ lw_privs_4, lw_okq q := List.forall_mem_cons.mpr ⟨lw_p48, List.forall_mem_cons.mpr ⟨lw_p49, List.forall_mem_cons.mpr ⟨lw_p50, List.forall_mem_cons.mpr ⟨lw_p51, List.forall_mem_cons.mpr ⟨lw_p52, List.forall_mem_cons.mpr ⟨lw_p53, List.forall_mem_cons.mpr ⟨lw_p54, List.forall_mem_cons.mpr ⟨lw_p55, List.forall_mem_cons.mpr ⟨lw_p56, List.forall_mem_cons.mpr ⟨lw_p57, List.forall_mem_cons.mpr ⟨lw_p58, List.forall_mem_cons.mpr ⟨lw_p59, List.forall_mem_cons.mpr ⟨lw_p60, List.forall_mem_cons.mpr ⟨lw_p61, fun _ h => absurd h List.not_mem_nil⟩⟩⟩⟩⟩⟩⟩⟩⟩⟩⟩⟩⟩⟩
def lw_privs : List (MethodName × Nat) := lw_privs_1 ++ (lw_privs_2 ++ (lw_privs_3 ++ (lw_privs_4)))
def lw_tbl : List Cond := k2_sels lw_privs ++ tables_1
theorem lw_privs_ok : ∀ q ∈ lw_privs, lw_okq q := by
  show ∀ q ∈ lw_privs_1 ++ (lw_privs_2 ++ (lw_privs_3 ++ (lw_privs_4))), lw_okq q
  exact List.forall_mem_append.mpr ⟨lw_r1, List.forall_mem_append.mpr ⟨lw_r2, List.forall_mem_append.mpr ⟨lw_r3, lw_r4⟩⟩⟩
end
section
def RX0 : String := "DustSills$Aunt"
def TX0 : u_T := fun k => match k with
  | _ => ("", "", "", false)
def tyX0 : Nat → FieldType := fun k => match k with
  | _ => .int
abbrev wsX00 : List Cond := u_ws RX0 TX0 0
theorem nmX0 : ∀ a, a < 0 → ∀ b, b < 0 → a ≠ b → (TX0 a).2.1 ≠ (TX0 b).2.1 := by decide +kernel
theorem tyX0_ok : ∀ k, k < 0 → parseFieldDescriptor (TX0 k).2.2.1 = some (tyX0 k) := by decide +kernel
abbrev cX0_init : ByteArray := prog_2_method_1_code
def yX0_init : MethodName := ⟨RX0, "<init>", "()V"⟩
abbrev cX0_driftsBy : ByteArray := prog_2_method_2_code
def yX0_driftsBy : MethodName := ⟨RX0, "driftsBy", "(III)I"⟩
abbrev cX0_shinesBy : ByteArray := prog_2_method_3_code
def yX0_shinesBy : MethodName := ⟨RX0, "shinesBy", "(III)I"⟩
abbrev cX0_needsBy : ByteArray := prog_2_method_4_code
def yX0_needsBy : MethodName := ⟨RX0, "needsBy", "(I)I"⟩
abbrev cX0_drifts : ByteArray := prog_2_method_5_code
def yX0_drifts : MethodName := ⟨RX0, "drifts", "(LDustSills$Speech;I)I"⟩
def RX1 : String := "DustSills$Barber"
def TX1 : u_T := fun k => match k with
  | _ => ("", "", "", false)
def tyX1 : Nat → FieldType := fun k => match k with
  | _ => .int
abbrev wsX10 : List Cond := u_ws RX1 TX1 0
theorem nmX1 : ∀ a, a < 0 → ∀ b, b < 0 → a ≠ b → (TX1 a).2.1 ≠ (TX1 b).2.1 := by decide +kernel
theorem tyX1_ok : ∀ k, k < 0 → parseFieldDescriptor (TX1 k).2.2.1 = some (tyX1 k) := by decide +kernel
abbrev cX1_init : ByteArray := prog_3_method_1_code
def yX1_init : MethodName := ⟨RX1, "<init>", "()V"⟩
abbrev cX1_driftsBy : ByteArray := prog_3_method_2_code
def yX1_driftsBy : MethodName := ⟨RX1, "driftsBy", "(III)I"⟩
abbrev cX1_shinesBy : ByteArray := prog_3_method_3_code
def yX1_shinesBy : MethodName := ⟨RX1, "shinesBy", "(III)I"⟩
abbrev cX1_needsBy : ByteArray := prog_3_method_4_code
def yX1_needsBy : MethodName := ⟨RX1, "needsBy", "(I)I"⟩
abbrev cX1_shines : ByteArray := prog_3_method_5_code
def yX1_shines : MethodName := ⟨RX1, "shines", "(LDustSills$Speech;I)I"⟩
def RX2 : String := "DustSills$Clerk"
def TX2 : u_T := fun k => match k with
  | _ => ("", "", "", false)
def tyX2 : Nat → FieldType := fun k => match k with
  | _ => .int
abbrev wsX20 : List Cond := u_ws RX2 TX2 0
theorem nmX2 : ∀ a, a < 0 → ∀ b, b < 0 → a ≠ b → (TX2 a).2.1 ≠ (TX2 b).2.1 := by decide +kernel
theorem tyX2_ok : ∀ k, k < 0 → parseFieldDescriptor (TX2 k).2.2.1 = some (tyX2 k) := by decide +kernel
abbrev cX2_init : ByteArray := prog_4_method_1_code
def yX2_init : MethodName := ⟨RX2, "<init>", "()V"⟩
abbrev cX2_driftsBy : ByteArray := prog_4_method_2_code
def yX2_driftsBy : MethodName := ⟨RX2, "driftsBy", "(III)I"⟩
abbrev cX2_needsBy : ByteArray := prog_4_method_3_code
def yX2_needsBy : MethodName := ⟨RX2, "needsBy", "(I)I"⟩
abbrev cX2_shines : ByteArray := prog_4_method_4_code
def yX2_shines : MethodName := ⟨RX2, "shines", "(LDustSills$Speech;I)I"⟩
def RX3 : String := "DustSills$General"
def TX3 : u_T := fun k => match k with
  | _ => ("", "", "", false)
def tyX3 : Nat → FieldType := fun k => match k with
  | _ => .int
abbrev wsX30 : List Cond := u_ws RX3 TX3 0
theorem nmX3 : ∀ a, a < 0 → ∀ b, b < 0 → a ≠ b → (TX3 a).2.1 ≠ (TX3 b).2.1 := by decide +kernel
theorem tyX3_ok : ∀ k, k < 0 → parseFieldDescriptor (TX3 k).2.2.1 = some (tyX3 k) := by decide +kernel
abbrev cX3_init : ByteArray := prog_5_method_1_code
def yX3_init : MethodName := ⟨RX3, "<init>", "()V"⟩
abbrev cX3_driftsBy : ByteArray := prog_5_method_2_code
def yX3_driftsBy : MethodName := ⟨RX3, "driftsBy", "(III)I"⟩
abbrev cX3_shinesBy : ByteArray := prog_5_method_3_code
def yX3_shinesBy : MethodName := ⟨RX3, "shinesBy", "(III)I"⟩
abbrev cX3_needsBy : ByteArray := prog_5_method_4_code
def yX3_needsBy : MethodName := ⟨RX3, "needsBy", "(I)I"⟩
abbrev cX3_tells : ByteArray := prog_5_method_5_code
def yX3_tells : MethodName := ⟨RX3, "tells", "(LDustSills$Speech;I)I"⟩
def RX4 : String := "DustSills$Girl"
def TX4 : u_T := fun k => match k with
  | _ => ("", "", "", false)
def tyX4 : Nat → FieldType := fun k => match k with
  | _ => .int
abbrev wsX40 : List Cond := u_ws RX4 TX4 0
theorem nmX4 : ∀ a, a < 0 → ∀ b, b < 0 → a ≠ b → (TX4 a).2.1 ≠ (TX4 b).2.1 := by decide +kernel
theorem tyX4_ok : ∀ k, k < 0 → parseFieldDescriptor (TX4 k).2.2.1 = some (tyX4 k) := by decide +kernel
abbrev cX4_init : ByteArray := prog_6_method_1_code
def yX4_init : MethodName := ⟨RX4, "<init>", "()V"⟩
abbrev cX4_driftsBy : ByteArray := prog_6_method_2_code
def yX4_driftsBy : MethodName := ⟨RX4, "driftsBy", "(III)I"⟩
abbrev cX4_shinesBy : ByteArray := prog_6_method_3_code
def yX4_shinesBy : MethodName := ⟨RX4, "shinesBy", "(III)I"⟩
abbrev cX4_needsBy : ByteArray := prog_6_method_4_code
def yX4_needsBy : MethodName := ⟨RX4, "needsBy", "(I)I"⟩
abbrev cX4_drifts : ByteArray := prog_6_method_5_code
def yX4_drifts : MethodName := ⟨RX4, "drifts", "(LDustSills$Speech;I)I"⟩
abbrev cX4_tells : ByteArray := prog_6_method_6_code
def yX4_tells : MethodName := ⟨RX4, "tells", "(LDustSills$Speech;I)I"⟩
def RX5 : String := "DustSills$Heir"
def TX5 : u_T := fun k => match k with
  | _ => ("", "", "", false)
def tyX5 : Nat → FieldType := fun k => match k with
  | _ => .int
abbrev wsX50 : List Cond := u_ws RX5 TX5 0
theorem nmX5 : ∀ a, a < 0 → ∀ b, b < 0 → a ≠ b → (TX5 a).2.1 ≠ (TX5 b).2.1 := by decide +kernel
theorem tyX5_ok : ∀ k, k < 0 → parseFieldDescriptor (TX5 k).2.2.1 = some (tyX5 k) := by decide +kernel
abbrev cX5_init : ByteArray := prog_7_method_1_code
def yX5_init : MethodName := ⟨RX5, "<init>", "()V"⟩
abbrev cX5_driftsBy : ByteArray := prog_7_method_2_code
def yX5_driftsBy : MethodName := ⟨RX5, "driftsBy", "(III)I"⟩
abbrev cX5_shinesBy : ByteArray := prog_7_method_3_code
def yX5_shinesBy : MethodName := ⟨RX5, "shinesBy", "(III)I"⟩
abbrev cX5_needsBy : ByteArray := prog_7_method_4_code
def yX5_needsBy : MethodName := ⟨RX5, "needsBy", "(I)I"⟩
abbrev cX5_lies : ByteArray := prog_7_method_5_code
def yX5_lies : MethodName := ⟨RX5, "lies", "(LDustSills$Speech;I)I"⟩
abbrev cX5_shines : ByteArray := prog_7_method_6_code
def yX5_shines : MethodName := ⟨RX5, "shines", "(LDustSills$Speech;I)I"⟩
abbrev cX5_drifts : ByteArray := prog_7_method_7_code
def yX5_drifts : MethodName := ⟨RX5, "drifts", "(LDustSills$Speech;I)I"⟩
abbrev cX5_tells : ByteArray := prog_7_method_8_code
def yX5_tells : MethodName := ⟨RX5, "tells", "(LDustSills$Speech;I)I"⟩
def RX6 : String := "DustSills$Law"
def TX6 : u_T := fun k => match k with
  | 0 => ("DustSills$Law", "names", "Ljava/lang/String;", true)
  | 1 => ("DustSills$Law", "most", "I", true)
  | 2 => ("DustSills$Law", "code", "[I", true)
  | 3 => ("DustSills$Law", "size", "I", false)
  | 4 => ("DustSills$Law", "stack", "[I", true)
  | 5 => ("DustSills$Law", "draft", "[I", true)
  | 6 => ("DustSills$Law", "drafted", "I", false)
  | 7 => ("DustSills$Law", "place", "I", false)
  | _ => ("DustSills$Law", "faulty", "Z", false)
def tyX6 : Nat → FieldType := fun k => match k with
  | 0 => .object "java/lang/String"
  | 1 => .int
  | 2 => .array .int
  | 3 => .int
  | 4 => .array .int
  | 5 => .array .int
  | 6 => .int
  | 7 => .int
  | _ => .boolean
abbrev wsX60 : List Cond := u_ws RX6 TX6 9
theorem nmX6 : ∀ a, a < 9 → ∀ b, b < 9 → a ≠ b → (TX6 a).2.1 ≠ (TX6 b).2.1 := by decide +kernel
theorem tyX6_ok : ∀ k, k < 9 → parseFieldDescriptor (TX6 k).2.2.1 = some (tyX6 k) := by decide +kernel
abbrev cX6_init : ByteArray := prog_8_method_1_code
def yX6_init : MethodName := ⟨RX6, "<init>", "(Ljava/lang/String;I)V"⟩
abbrev cX6_copy : ByteArray := prog_8_method_2_code
def yX6_copy : MethodName := ⟨RX6, "copy", "(LDustSills$Law;)V"⟩
abbrev cX6_take : ByteArray := prog_8_method_3_code
def yX6_take : MethodName := ⟨RX6, "take", "([II)V"⟩
abbrev cX6_gives : ByteArray := prog_8_method_4_code
def yX6_gives : MethodName := ⟨RX6, "gives", "(III)I"⟩
abbrev cX6_workedOut : ByteArray := prog_8_method_5_code
def yX6_workedOut : MethodName := ⟨RX6, "workedOut", "(III)I"⟩
abbrev cX6_valueOf : ByteArray := prog_8_method_6_code
def yX6_valueOf : MethodName := ⟨RX6, "valueOf", "(IIII)I"⟩
abbrev cX6_joined : ByteArray := prog_8_method_7_code
def yX6_joined : MethodName := ⟨RX6, "joined", "(III)I"⟩
abbrev cX6_read : ByteArray := prog_8_method_8_code
def yX6_read : MethodName := ⟨RX6, "read", "([II)I"⟩
abbrev cX6_readLevel : ByteArray := prog_8_method_9_code
def yX6_readLevel : MethodName := ⟨RX6, "readLevel", "([IIII)V"⟩
abbrev cX6_readPart : ByteArray := prog_8_method_10_code
def yX6_readPart : MethodName := ⟨RX6, "readPart", "([III)V"⟩
abbrev cX6_readClosing : ByteArray := prog_8_method_11_code
def yX6_readClosing : MethodName := ⟨RX6, "readClosing", "([II)V"⟩
abbrev cX6_readNumber : ByteArray := prog_8_method_12_code
def yX6_readNumber : MethodName := ⟨RX6, "readNumber", "([II)V"⟩
abbrev cX6_write : ByteArray := prog_8_method_13_code
def yX6_write : MethodName := ⟨RX6, "write", "(I)V"⟩
abbrev cX6_signAt : ByteArray := prog_8_method_14_code
def yX6_signAt : MethodName := ⟨RX6, "signAt", "([III)I"⟩
abbrev cX6_isDigit : ByteArray := prog_8_method_15_code
def yX6_isDigit : MethodName := ⟨RX6, "isDigit", "(I)Z"⟩
abbrev cX6_levelOf : ByteArray := prog_8_method_16_code
def yX6_levelOf : MethodName := ⟨RX6, "levelOf", "(I)I"⟩
def RX7 : String := "DustSills$Lord"
def TX7 : u_T := fun k => match k with
  | _ => ("", "", "", false)
def tyX7 : Nat → FieldType := fun k => match k with
  | _ => .int
abbrev wsX70 : List Cond := u_ws RX7 TX7 0
theorem nmX7 : ∀ a, a < 0 → ∀ b, b < 0 → a ≠ b → (TX7 a).2.1 ≠ (TX7 b).2.1 := by decide +kernel
theorem tyX7_ok : ∀ k, k < 0 → parseFieldDescriptor (TX7 k).2.2.1 = some (tyX7 k) := by decide +kernel
abbrev cX7_init : ByteArray := prog_9_method_1_code
def yX7_init : MethodName := ⟨RX7, "<init>", "()V"⟩
abbrev cX7_driftsBy : ByteArray := prog_9_method_2_code
def yX7_driftsBy : MethodName := ⟨RX7, "driftsBy", "(III)I"⟩
abbrev cX7_shinesBy : ByteArray := prog_9_method_3_code
def yX7_shinesBy : MethodName := ⟨RX7, "shinesBy", "(III)I"⟩
abbrev cX7_needsBy : ByteArray := prog_9_method_4_code
def yX7_needsBy : MethodName := ⟨RX7, "needsBy", "(I)I"⟩
abbrev cX7_lies : ByteArray := prog_9_method_5_code
def yX7_lies : MethodName := ⟨RX7, "lies", "(LDustSills$Speech;I)I"⟩
def RX8 : String := "DustSills$Papers"
def TX8 : u_T := fun k => match k with
  | 0 => ("DustSills$Papers", "tape", "[I", true)
  | 1 => ("DustSills$Papers", "waits", "[I", true)
  | 2 => ("DustSills$Papers", "come", "LDustSills$Law;", true)
  | 3 => ("DustSills$Papers", "shine", "LDustSills$Law;", true)
  | 4 => ("DustSills$Papers", "fed", "I", false)
  | 5 => ("DustSills$Papers", "waiting", "I", false)
  | _ => ("DustSills$Papers", "z", "I", false)
def tyX8 : Nat → FieldType := fun k => match k with
  | 0 => .array .int
  | 1 => .array .int
  | 2 => .object "DustSills$Law"
  | 3 => .object "DustSills$Law"
  | 4 => .int
  | 5 => .int
  | _ => .int
abbrev wsX80 : List Cond := u_ws RX8 TX8 7
theorem nmX8 : ∀ a, a < 7 → ∀ b, b < 7 → a ≠ b → (TX8 a).2.1 ≠ (TX8 b).2.1 := by decide +kernel
theorem tyX8_ok : ∀ k, k < 7 → parseFieldDescriptor (TX8 k).2.2.1 = some (tyX8 k) := by decide +kernel
abbrev cX8_init : ByteArray := prog_10_method_1_code
def yX8_init : MethodName := ⟨RX8, "<init>", "()V"⟩
abbrev cX8_copy : ByteArray := prog_10_method_2_code
def yX8_copy : MethodName := ⟨RX8, "copy", "(LDustSills$Papers;)V"⟩
abbrev cX8_take : ByteArray := prog_10_method_3_code
def yX8_take : MethodName := ⟨RX8, "take", "(I)V"⟩
abbrev cX8_keepWaiting : ByteArray := prog_10_method_4_code
def yX8_keepWaiting : MethodName := ⟨RX8, "keepWaiting", "(I)V"⟩
abbrev cX8_draw : ByteArray := prog_10_method_5_code
def yX8_draw : MethodName := ⟨RX8, "draw", "()I"⟩
def RX9 : String := "DustSills$Speech"
def TX9 : u_T := fun k => match k with
  | 0 => ("DustSills$Speech", "bodies", "[I", true)
  | 1 => ("DustSills$Speech", "size", "I", false)
  | 2 => ("DustSills$Speech", "n", "I", false)
  | _ => ("DustSills$Speech", "m", "I", false)
def tyX9 : Nat → FieldType := fun k => match k with
  | 0 => .array .int
  | 1 => .int
  | 2 => .int
  | _ => .int
abbrev wsX90 : List Cond := u_ws RX9 TX9 4
theorem nmX9 : ∀ a, a < 4 → ∀ b, b < 4 → a ≠ b → (TX9 a).2.1 ≠ (TX9 b).2.1 := by decide +kernel
theorem tyX9_ok : ∀ k, k < 4 → parseFieldDescriptor (TX9 k).2.2.1 = some (tyX9 k) := by decide +kernel
abbrev cX9_init : ByteArray := prog_11_method_1_code
def yX9_init : MethodName := ⟨RX9, "<init>", "()V"⟩
abbrev cX9_open : ByteArray := prog_11_method_2_code
def yX9_open : MethodName := ⟨RX9, "open", "(II)V"⟩
abbrev cX9_begin : ByteArray := prog_11_method_3_code
def yX9_begin : MethodName := ⟨RX9, "begin", "(I)V"⟩
def RX10 : String := "DustSills$Town"
def TX10 : u_T := fun k => match k with
  | 0 => ("DustSills$Town", "kinds", "[LDustSills$Heir;", true)
  | 1 => ("DustSills$Town", "sun", "[I", true)
  | 2 => ("DustSills$Town", "to", "[I", true)
  | 3 => ("DustSills$Town", "kind", "[I", true)
  | 4 => ("DustSills$Town", "mark", "[I", true)
  | 5 => ("DustSills$Town", "lot", "[I", true)
  | 6 => ("DustSills$Town", "left", "[I", true)
  | 7 => ("DustSills$Town", "at", "[I", true)
  | 8 => ("DustSills$Town", "lit", "[I", true)
  | 9 => ("DustSills$Town", "heirs", "I", false)
  | 10 => ("DustSills$Town", "carts", "I", false)
  | 11 => ("DustSills$Town", "sweep", "I", false)
  | 12 => ("DustSills$Town", "glory", "I", false)
  | _ => ("DustSills$Town", "day", "I", false)
def tyX10 : Nat → FieldType := fun k => match k with
  | 0 => .array (.object "DustSills$Heir")
  | 1 => .array .int
  | 2 => .array .int
  | 3 => .array .int
  | 4 => .array .int
  | 5 => .array .int
  | 6 => .array .int
  | 7 => .array .int
  | 8 => .array .int
  | 9 => .int
  | 10 => .int
  | 11 => .int
  | 12 => .int
  | _ => .int
abbrev wsX100 : List Cond := u_ws RX10 TX10 14
theorem nmX10 : ∀ a, a < 14 → ∀ b, b < 14 → a ≠ b → (TX10 a).2.1 ≠ (TX10 b).2.1 := by decide +kernel
theorem tyX10_ok : ∀ k, k < 14 → parseFieldDescriptor (TX10 k).2.2.1 = some (tyX10 k) := by decide +kernel
abbrev cX10_init : ByteArray := prog_12_method_1_code
def yX10_init : MethodName := ⟨RX10, "<init>", "([LDustSills$Heir;)V"⟩
abbrev cX10_copy : ByteArray := prog_12_method_2_code
def yX10_copy : MethodName := ⟨RX10, "copy", "(LDustSills$Town;)V"⟩
abbrev cX10_welcome : ByteArray := prog_12_method_3_code
def yX10_welcome : MethodName := ⟨RX10, "welcome", "(III)I"⟩
abbrev cX10_setLeft : ByteArray := prog_12_method_4_code
def yX10_setLeft : MethodName := ⟨RX10, "setLeft", "(II)V"⟩
abbrev cX10_isDust : ByteArray := prog_12_method_5_code
def yX10_isDust : MethodName := ⟨RX10, "isDust", "(I)Z"⟩
abbrev cX10_kindOf : ByteArray := prog_12_method_6_code
def yX10_kindOf : MethodName := ⟨RX10, "kindOf", "(I)LDustSills$Heir;"⟩
abbrev cX10_sunOf : ByteArray := prog_12_method_7_code
def yX10_sunOf : MethodName := ⟨RX10, "sunOf", "(I)I"⟩
abbrev cX10_driftsOf : ByteArray := prog_12_method_8_code
def yX10_driftsOf : MethodName := ⟨RX10, "driftsOf", "(II)I"⟩
abbrev cX10_shinesOf : ByteArray := prog_12_method_9_code
def yX10_shinesOf : MethodName := ⟨RX10, "shinesOf", "(II)I"⟩
abbrev cX10_needsOf : ByteArray := prog_12_method_10_code
def yX10_needsOf : MethodName := ⟨RX10, "needsOf", "(I)I"⟩
abbrev cX10_isContent : ByteArray := prog_12_method_11_code
def yX10_isContent : MethodName := ⟨RX10, "isContent", "(I)Z"⟩
abbrev cX10_areContent : ByteArray := prog_12_method_12_code
def yX10_areContent : MethodName := ⟨RX10, "areContent", "(I)Z"⟩
abbrev cX10_dust : ByteArray := prog_12_method_13_code
def yX10_dust : MethodName := ⟨RX10, "dust", "()I"⟩
abbrev cX10_dustAt : ByteArray := prog_12_method_14_code
def yX10_dustAt : MethodName := ⟨RX10, "dustAt", "(I)I"⟩
abbrev cX10_lotsOf : ByteArray := prog_12_method_15_code
def yX10_lotsOf : MethodName := ⟨RX10, "lotsOf", "(I)I"⟩
abbrev cX10_goDays : ByteArray := prog_12_method_16_code
def yX10_goDays : MethodName := ⟨RX10, "goDays", "(ILDustSills$Papers;)V"⟩
abbrev cX10_goDay : ByteArray := prog_12_method_17_code
def yX10_goDay : MethodName := ⟨RX10, "goDay", "(LDustSills$Papers;)V"⟩
abbrev cX10_carry : ByteArray := prog_12_method_18_code
def yX10_carry : MethodName := ⟨RX10, "carry", "(I)V"⟩
abbrev cX10_drift : ByteArray := prog_12_method_19_code
def yX10_drift : MethodName := ⟨RX10, "drift", "(II)V"⟩
abbrev cX10_shine : ByteArray := prog_12_method_20_code
def yX10_shine : MethodName := ⟨RX10, "shine", "(LDustSills$Law;)V"⟩
abbrev cX10_sweepUp : ByteArray := prog_12_method_21_code
def yX10_sweepUp : MethodName := ⟨RX10, "sweepUp", "()V"⟩
def RX11 : String := "DustSills"
def TX11 : u_T := fun k => match k with
  | 0 => ("DustSills", "now", "LDustSills$Town;", true)
  | 1 => ("DustSills", "thought", "LDustSills$Town;", true)
  | 2 => ("DustSills", "keptTown", "LDustSills$Town;", true)
  | 3 => ("DustSills", "papers", "LDustSills$Papers;", true)
  | 4 => ("DustSills", "keptPapers", "LDustSills$Papers;", true)
  | 5 => ("DustSills", "speech", "LDustSills$Speech;", true)
  | 6 => ("DustSills", "sheetNumbers", "[[I", true)
  | 7 => ("DustSills", "sheetBits", "[I", true)
  | 8 => ("DustSills", "sheetSizes", "[I", true)
  | 9 => ("DustSills", "errors", "[I", true)
  | _ => ("DustSills", "images", "I", false)
def tyX11 : Nat → FieldType := fun k => match k with
  | 0 => .object "DustSills$Town"
  | 1 => .object "DustSills$Town"
  | 2 => .object "DustSills$Town"
  | 3 => .object "DustSills$Papers"
  | 4 => .object "DustSills$Papers"
  | 5 => .object "DustSills$Speech"
  | 6 => .array (.array .int)
  | 7 => .array .int
  | 8 => .array .int
  | 9 => .array .int
  | _ => .int
abbrev wsX110 : List Cond := u_ws RX11 TX11 11
theorem nmX11 : ∀ a, a < 11 → ∀ b, b < 11 → a ≠ b → (TX11 a).2.1 ≠ (TX11 b).2.1 := by decide +kernel
theorem tyX11_ok : ∀ k, k < 11 → parseFieldDescriptor (TX11 k).2.2.1 = some (tyX11 k) := by decide +kernel
abbrev cX11_init : ByteArray := prog_1_method_1_code
def yX11_init : MethodName := ⟨RX11, "<init>", "()V"⟩
abbrev cX11_sill : ByteArray := prog_1_method_2_code
def yX11_sill : MethodName := ⟨RX11, "sill", "(III)I"⟩
abbrev cX11_ofSill : ByteArray := prog_1_method_3_code
def yX11_ofSill : MethodName := ⟨RX11, "ofSill", "(II)I"⟩
abbrev cX11_town : ByteArray := prog_1_method_4_code
def yX11_town : MethodName := ⟨RX11, "town", "(II)I"⟩
abbrev cX11_heir : ByteArray := prog_1_method_5_code
def yX11_heir : MethodName := ⟨RX11, "heir", "(III)I"⟩
abbrev cX11_ofHeir : ByteArray := prog_1_method_6_code
def yX11_ofHeir : MethodName := ⟨RX11, "ofHeir", "(II)I"⟩
abbrev cX11_change : ByteArray := prog_1_method_7_code
def yX11_change : MethodName := ⟨RX11, "change", "(III)I"⟩
abbrev cX11_become : ByteArray := prog_1_method_8_code
def yX11_become : MethodName := ⟨RX11, "become", "(II)I"⟩
abbrev cX11_as : ByteArray := prog_1_method_9_code
def yX11_as : MethodName := ⟨RX11, "as", "(II)I"⟩
abbrev cX11_feed : ByteArray := prog_1_method_10_code
def yX11_feed : MethodName := ⟨RX11, "feed", "(JI)I"⟩
abbrev cX11_text : ByteArray := prog_1_method_11_code
def yX11_text : MethodName := ⟨RX11, "text", "(I)I"⟩
abbrev cX11_law : ByteArray := prog_1_method_12_code
def yX11_law : MethodName := ⟨RX11, "law", "(IIII)I"⟩
abbrev cX11_days : ByteArray := prog_1_method_13_code
def yX11_days : MethodName := ⟨RX11, "days", "(I)I"⟩
abbrev cX11_loose : ByteArray := prog_1_method_14_code
def yX11_loose : MethodName := ⟨RX11, "loose", "(I)I"⟩
abbrev cX11_then : ByteArray := prog_1_method_15_code
def yX11_then : MethodName := ⟨RX11, "then", "(II)I"⟩
abbrev cX11_first : ByteArray := prog_1_method_16_code
def yX11_first : MethodName := ⟨RX11, "first", "(II)I"⟩
abbrev cX11_meet : ByteArray := prog_1_method_17_code
def yX11_meet : MethodName := ⟨RX11, "meet", "(II)I"⟩
abbrev cX11_bright : ByteArray := prog_1_method_18_code
def yX11_bright : MethodName := ⟨RX11, "bright", "(II)I"⟩
abbrev cX11_place : ByteArray := prog_1_method_19_code
def yX11_place : MethodName := ⟨RX11, "place", "(III)I"⟩
abbrev cX11_cartsFor : ByteArray := prog_1_method_20_code
def yX11_cartsFor : MethodName := ⟨RX11, "cartsFor", "(II)I"⟩
abbrev cX11_stop : ByteArray := prog_1_method_21_code
def yX11_stop : MethodName := ⟨RX11, "stop", "(II)I"⟩
abbrev cX11_swap : ByteArray := prog_1_method_22_code
def yX11_swap : MethodName := ⟨RX11, "swap", "(I)I"⟩
abbrev cX11_sunFor : ByteArray := prog_1_method_23_code
def yX11_sunFor : MethodName := ⟨RX11, "sunFor", "(III)I"⟩
abbrev cX11_sweepFor : ByteArray := prog_1_method_24_code
def yX11_sweepFor : MethodName := ⟨RX11, "sweepFor", "(II)I"⟩
abbrev cX11_whence : ByteArray := prog_1_method_25_code
def yX11_whence : MethodName := ⟨RX11, "whence", "(III)I"⟩
abbrev cX11_bare : ByteArray := prog_1_method_26_code
def yX11_bare : MethodName := ⟨RX11, "bare", "(I)I"⟩
abbrev cX11_crowd : ByteArray := prog_1_method_27_code
def yX11_crowd : MethodName := ⟨RX11, "crowd", "(II)I"⟩
abbrev cX11_light : ByteArray := prog_1_method_28_code
def yX11_light : MethodName := ⟨RX11, "light", "(I)I"⟩
abbrev cX11_late : ByteArray := prog_1_method_29_code
def yX11_late : MethodName := ⟨RX11, "late", "(I)I"⟩
abbrev cX11_odds : ByteArray := prog_1_method_30_code
def yX11_odds : MethodName := ⟨RX11, "odds", "(III)I"⟩
abbrev cX11_seed : ByteArray := prog_1_method_31_code
def yX11_seed : MethodName := ⟨RX11, "seed", "(I)I"⟩
abbrev cX11_voice : ByteArray := prog_1_method_32_code
def yX11_voice : MethodName := ⟨RX11, "voice", "(III)I"⟩
abbrev cX11_trace : ByteArray := prog_1_method_33_code
def yX11_trace : MethodName := ⟨RX11, "trace", "(I)I"⟩
abbrev cX11_sheet : ByteArray := prog_1_method_34_code
def yX11_sheet : MethodName := ⟨RX11, "sheet", "(III)I"⟩
abbrev cX11_put : ByteArray := prog_1_method_35_code
def yX11_put : MethodName := ⟨RX11, "put", "(III)I"⟩
abbrev cX11_move : ByteArray := prog_1_method_36_code
def yX11_move : MethodName := ⟨RX11, "move", "(IIIII)I"⟩
abbrev cX11_suns : ByteArray := prog_1_method_37_code
def yX11_suns : MethodName := ⟨RX11, "suns", "(I)I"⟩
abbrev cX11_judge : ByteArray := prog_1_method_38_code
def yX11_judge : MethodName := ⟨RX11, "judge", "(I)I"⟩
abbrev cX11_image : ByteArray := prog_1_method_39_code
def yX11_image : MethodName := ⟨RX11, "image", "()I"⟩
abbrev cX11_restore : ByteArray := prog_1_method_40_code
def yX11_restore : MethodName := ⟨RX11, "restore", "()I"⟩
abbrev cX11_tell : ByteArray := prog_1_method_41_code
def yX11_tell : MethodName := ⟨RX11, "tell", "(I)I"⟩
abbrev cX11_check : ByteArray := prog_1_method_42_code
def yX11_check : MethodName := ⟨RX11, "check", "()I"⟩
abbrev cX11_count : ByteArray := prog_1_method_43_code
def yX11_count : MethodName := ⟨RX11, "count", "(I)I"⟩
abbrev cX11_told : ByteArray := prog_1_method_44_code
def yX11_told : MethodName := ⟨RX11, "told", "(I)I"⟩
abbrev cX11_error : ByteArray := prog_1_method_45_code
def yX11_error : MethodName := ⟨RX11, "error", "(I)I"⟩
abbrev cX11_think : ByteArray := prog_1_method_46_code
def yX11_think : MethodName := ⟨RX11, "think", "()V"⟩
abbrev cX11_liesAsTold : ByteArray := prog_1_method_47_code
def yX11_liesAsTold : MethodName := ⟨RX11, "liesAsTold", "(II)Z"⟩
abbrev cX11_isHeir : ByteArray := prog_1_method_48_code
def yX11_isHeir : MethodName := ⟨RX11, "isHeir", "(I)Z"⟩
abbrev cX11_isSetOfHeirs : ByteArray := prog_1_method_49_code
def yX11_isSetOfHeirs : MethodName := ⟨RX11, "isSetOfHeirs", "(I)Z"⟩
abbrev cX11_isMissing : ByteArray := prog_1_method_50_code
def yX11_isMissing : MethodName := ⟨RX11, "isMissing", "(I)Z"⟩
abbrev cX11_stand : ByteArray := prog_1_method_51_code
def yX11_stand : MethodName := ⟨RX11, "stand", "(III)Z"⟩
abbrev cX11_lowestBits : ByteArray := prog_1_method_52_code
def yX11_lowestBits : MethodName := ⟨RX11, "lowestBits", "(II)I"⟩
abbrev cX11_isOfHeir : ByteArray := prog_1_method_53_code
def yX11_isOfHeir : MethodName := ⟨RX11, "isOfHeir", "(II)Z"⟩
abbrev cX11_isSill : ByteArray := prog_1_method_54_code
def yX11_isSill : MethodName := ⟨RX11, "isSill", "(I)Z"⟩
abbrev cX11_isSheet : ByteArray := prog_1_method_55_code
def yX11_isSheet : MethodName := ⟨RX11, "isSheet", "(I)Z"⟩
abbrev cX11_isKindAndNumber : ByteArray := prog_1_method_56_code
def yX11_isKindAndNumber : MethodName := ⟨RX11, "isKindAndNumber", "(I)Z"⟩
abbrev cX11_within : ByteArray := prog_1_method_57_code
def yX11_within : MethodName := ⟨RX11, "within", "(III)Z"⟩
abbrev cX11_isOrIsUnder : ByteArray := prog_1_method_58_code
def yX11_isOrIsUnder : MethodName := ⟨RX11, "isOrIsUnder", "(II)Z"⟩
abbrev cX11_leastOf : ByteArray := prog_1_method_59_code
def yX11_leastOf : MethodName := ⟨RX11, "leastOf", "(I)I"⟩
abbrev cX11_greatestDivisor : ByteArray := prog_1_method_60_code
def yX11_greatestDivisor : MethodName := ⟨RX11, "greatestDivisor", "(II)I"⟩
abbrev cX11_sumOf : ByteArray := prog_1_method_61_code
def yX11_sumOf : MethodName := ⟨RX11, "sumOf", "([II)I"⟩
def RX12 : String := "DustSillsModel"
def TX12 : u_T := fun k => match k with
  | 0 => ("DustSillsModel", "d", "[I", true)
  | 1 => ("DustSillsModel", "kept", "[I", true)
  | 2 => ("DustSillsModel", "aside", "[I", true)
  | 3 => ("DustSillsModel", "images", "I", false)
  | 4 => ("DustSillsModel", "found", "[I", true)
  | 5 => ("DustSillsModel", "base", "I", false)
  | 6 => ("DustSillsModel", "at", "I", false)
  | 7 => ("DustSillsModel", "size", "I", false)
  | 8 => ("DustSillsModel", "fault", "I", false)
  | 9 => ("DustSillsModel", "opened", "I", false)
  | 10 => ("DustSillsModel", "isLight", "Z", false)
  | 11 => ("DustSillsModel", "names", "[I", true)
  | 12 => ("DustSillsModel", "code", "[I", true)
  | 13 => ("DustSillsModel", "coded", "I", false)
  | 14 => ("DustSillsModel", "pile", "[I", true)
  | 15 => ("DustSillsModel", "traced", "[I", true)
  | 16 => ("DustSillsModel", "traceMany", "I", false)
  | 17 => ("DustSillsModel", "who", "I", false)
  | 18 => ("DustSillsModel", "bitsOf", "[I", true)
  | 19 => ("DustSillsModel", "sizeOf", "[I", true)
  | 20 => ("DustSillsModel", "number", "[I", true)
  | _ => ("DustSillsModel", "lifted", "[I", true)
def tyX12 : Nat → FieldType := fun k => match k with
  | 0 => .array .int
  | 1 => .array .int
  | 2 => .array .int
  | 3 => .int
  | 4 => .array .int
  | 5 => .int
  | 6 => .int
  | 7 => .int
  | 8 => .int
  | 9 => .int
  | 10 => .boolean
  | 11 => .array .int
  | 12 => .array .int
  | 13 => .int
  | 14 => .array .int
  | 15 => .array .int
  | 16 => .int
  | 17 => .int
  | 18 => .array .int
  | 19 => .array .int
  | 20 => .array .int
  | _ => .array .int
abbrev wsX120 : List Cond := u_ws RX12 TX12 22
theorem nmX12 : ∀ a, a < 22 → ∀ b, b < 22 → a ≠ b → (TX12 a).2.1 ≠ (TX12 b).2.1 := by decide +kernel
theorem tyX12_ok : ∀ k, k < 22 → parseFieldDescriptor (TX12 k).2.2.1 = some (tyX12 k) := by decide +kernel
abbrev cX12_init : ByteArray := prog_14_method_1_code
def yX12_init : MethodName := ⟨RX12, "<init>", "()V"⟩
abbrev cX12_finds : ByteArray := prog_14_method_3_code
def yX12_finds : MethodName := ⟨RX12, "finds", "(I)I"⟩
abbrev cX12_in : ByteArray := prog_14_method_4_code
def yX12_in : MethodName := ⟨RX12, "in", "(JJJ)Z"⟩
abbrev cX12_held : ByteArray := prog_14_method_5_code
def yX12_held : MethodName := ⟨RX12, "held", "(III)I"⟩
abbrev cX12_isHeir : ByteArray := prog_14_method_6_code
def yX12_isHeir : MethodName := ⟨RX12, "isHeir", "(I)Z"⟩
abbrev cX12_isSill : ByteArray := prog_14_method_7_code
def yX12_isSill : MethodName := ⟨RX12, "isSill", "(I)Z"⟩
abbrev cX12_of : ByteArray := prog_14_method_8_code
def yX12_of : MethodName := ⟨RX12, "of", "(II)I"⟩
abbrev cX12_sets : ByteArray := prog_14_method_9_code
def yX12_sets : MethodName := ⟨RX12, "sets", "(III)V"⟩
abbrev cX12_above : ByteArray := prog_14_method_10_code
def yX12_above : MethodName := ⟨RX12, "above", "(I)I"⟩
abbrev cX12_keepAside : ByteArray := prog_14_method_11_code
def yX12_keepAside : MethodName := ⟨RX12, "keepAside", "()V"⟩
abbrev cX12_putBack : ByteArray := prog_14_method_12_code
def yX12_putBack : MethodName := ⟨RX12, "putBack", "()V"⟩
abbrev cX12_here : ByteArray := prog_14_method_13_code
def yX12_here : MethodName := ⟨RX12, "here", "()I"⟩
abbrev cX12_wrong : ByteArray := prog_14_method_14_code
def yX12_wrong : MethodName := ⟨RX12, "wrong", "()V"⟩
abbrev cX12_takes : ByteArray := prog_14_method_15_code
def yX12_takes : MethodName := ⟨RX12, "takes", "(I)Z"⟩
abbrev cX12_nameOf : ByteArray := prog_14_method_16_code
def yX12_nameOf : MethodName := ⟨RX12, "nameOf", "(I)I"⟩
abbrev cX12_lay : ByteArray := prog_14_method_17_code
def yX12_lay : MethodName := ⟨RX12, "lay", "(I)V"⟩
abbrev cX12_either : ByteArray := prog_14_method_18_code
def yX12_either : MethodName := ⟨RX12, "either", "()V"⟩
abbrev cX12_both : ByteArray := prog_14_method_19_code
def yX12_both : MethodName := ⟨RX12, "both", "()V"⟩
abbrev cX12_compared : ByteArray := prog_14_method_20_code
def yX12_compared : MethodName := ⟨RX12, "compared", "()V"⟩
abbrev cX12_sum : ByteArray := prog_14_method_21_code
def yX12_sum : MethodName := ⟨RX12, "sum", "()V"⟩
abbrev cX12_product : ByteArray := prog_14_method_22_code
def yX12_product : MethodName := ⟨RX12, "product", "()V"⟩
abbrev cX12_opens : ByteArray := prog_14_method_23_code
def yX12_opens : MethodName := ⟨RX12, "opens", "(I)V"⟩
abbrev cX12_unit : ByteArray := prog_14_method_24_code
def yX12_unit : MethodName := ⟨RX12, "unit", "()V"⟩
abbrev cX12_reads : ByteArray := prog_14_method_25_code
def yX12_reads : MethodName := ⟨RX12, "reads", "(III)V"⟩
abbrev cX12_done : ByteArray := prog_14_method_26_code
def yX12_done : MethodName := ⟨RX12, "done", "(III)I"⟩
abbrev cX12_worked : ByteArray := prog_14_method_27_code
def yX12_worked : MethodName := ⟨RX12, "worked", "(II)I"⟩
abbrev cX12_feed : ByteArray := prog_14_method_28_code
def yX12_feed : MethodName := ⟨RX12, "feed", "(JI)I"⟩
abbrev cX12_text : ByteArray := prog_14_method_29_code
def yX12_text : MethodName := ⟨RX12, "text", "(I)I"⟩
abbrev cX12_textGives : ByteArray := prog_14_method_30_code
def yX12_textGives : MethodName := ⟨RX12, "textGives", "(IIII)I"⟩
abbrev cX12_law : ByteArray := prog_14_method_31_code
def yX12_law : MethodName := ⟨RX12, "law", "(IIII)I"⟩
abbrev cX12_isDust : ByteArray := prog_14_method_32_code
def yX12_isDust : MethodName := ⟨RX12, "isDust", "(I)Z"⟩
abbrev cX12_drifts : ByteArray := prog_14_method_33_code
def yX12_drifts : MethodName := ⟨RX12, "drifts", "(II)I"⟩
abbrev cX12_shines : ByteArray := prog_14_method_34_code
def yX12_shines : MethodName := ⟨RX12, "shines", "(II)I"⟩
abbrev cX12_needs : ByteArray := prog_14_method_35_code
def yX12_needs : MethodName := ⟨RX12, "needs", "(I)I"⟩
abbrev cX12_sunOf : ByteArray := prog_14_method_36_code
def yX12_sunOf : MethodName := ⟨RX12, "sunOf", "(I)I"⟩
abbrev cX12_isContent : ByteArray := prog_14_method_37_code
def yX12_isContent : MethodName := ⟨RX12, "isContent", "(I)Z"⟩
abbrev cX12_dusts : ByteArray := prog_14_method_38_code
def yX12_dusts : MethodName := ⟨RX12, "dusts", "()I"⟩
abbrev cX12_dayGoes : ByteArray := prog_14_method_39_code
def yX12_dayGoes : MethodName := ⟨RX12, "dayGoes", "()V"⟩
abbrev cX12_daysGo : ByteArray := prog_14_method_40_code
def yX12_daysGo : MethodName := ⟨RX12, "daysGo", "(I)V"⟩
abbrev cX12_lying : ByteArray := prog_14_method_41_code
def yX12_lying : MethodName := ⟨RX12, "lying", "(I)I"⟩
abbrev cX12_bits : ByteArray := prog_14_method_42_code
def yX12_bits : MethodName := ⟨RX12, "bits", "(I)I"⟩
abbrev cX12_becomes : ByteArray := prog_14_method_43_code
def yX12_becomes : MethodName := ⟨RX12, "becomes", "(II)I"⟩
abbrev cX12_sill : ByteArray := prog_14_method_44_code
def yX12_sill : MethodName := ⟨RX12, "sill", "(III)I"⟩
abbrev cX12_ofSill : ByteArray := prog_14_method_45_code
def yX12_ofSill : MethodName := ⟨RX12, "ofSill", "(II)I"⟩
abbrev cX12_town : ByteArray := prog_14_method_46_code
def yX12_town : MethodName := ⟨RX12, "town", "(II)I"⟩
abbrev cX12_leaves : ByteArray := prog_14_method_47_code
def yX12_leaves : MethodName := ⟨RX12, "leaves", "(II)V"⟩
abbrev cX12_heir : ByteArray := prog_14_method_48_code
def yX12_heir : MethodName := ⟨RX12, "heir", "(III)I"⟩
abbrev cX12_ofHeir : ByteArray := prog_14_method_49_code
def yX12_ofHeir : MethodName := ⟨RX12, "ofHeir", "(II)I"⟩
abbrev cX12_change : ByteArray := prog_14_method_50_code
def yX12_change : MethodName := ⟨RX12, "change", "(III)I"⟩
abbrev cX12_become : ByteArray := prog_14_method_51_code
def yX12_become : MethodName := ⟨RX12, "become", "(II)I"⟩
abbrev cX12_as : ByteArray := prog_14_method_52_code
def yX12_as : MethodName := ⟨RX12, "as", "(II)I"⟩
abbrev cX12_days : ByteArray := prog_14_method_53_code
def yX12_days : MethodName := ⟨RX12, "days", "(I)I"⟩
abbrev cX12_drawn : ByteArray := prog_14_method_54_code
def yX12_drawn : MethodName := ⟨RX12, "drawn", "()I"⟩
abbrev cX12_loose : ByteArray := prog_14_method_55_code
def yX12_loose : MethodName := ⟨RX12, "loose", "(I)I"⟩
abbrev cX12_behind : ByteArray := prog_14_method_56_code
def yX12_behind : MethodName := ⟨RX12, "behind", "(II)I"⟩
abbrev cX12_where : ByteArray := prog_14_method_57_code
def yX12_where : MethodName := ⟨RX12, "where", "(II)I"⟩
abbrev cX12_then : ByteArray := prog_14_method_58_code
def yX12_then : MethodName := ⟨RX12, "then", "(II)I"⟩
abbrev cX12_leastOf : ByteArray := prog_14_method_59_code
def yX12_leastOf : MethodName := ⟨RX12, "leastOf", "(I)I"⟩
abbrev cX12_first : ByteArray := prog_14_method_60_code
def yX12_first : MethodName := ⟨RX12, "first", "(II)I"⟩
abbrev cX12_meet : ByteArray := prog_14_method_61_code
def yX12_meet : MethodName := ⟨RX12, "meet", "(II)I"⟩
abbrev cX12_bright : ByteArray := prog_14_method_62_code
def yX12_bright : MethodName := ⟨RX12, "bright", "(II)I"⟩
abbrev cX12_place : ByteArray := prog_14_method_63_code
def yX12_place : MethodName := ⟨RX12, "place", "(III)I"⟩
abbrev cX12_contents : ByteArray := prog_14_method_64_code
def yX12_contents : MethodName := ⟨RX12, "contents", "()I"⟩
abbrev cX12_cartsFor : ByteArray := prog_14_method_65_code
def yX12_cartsFor : MethodName := ⟨RX12, "cartsFor", "(II)I"⟩
abbrev cX12_stop : ByteArray := prog_14_method_66_code
def yX12_stop : MethodName := ⟨RX12, "stop", "(II)I"⟩
abbrev cX12_swap : ByteArray := prog_14_method_67_code
def yX12_swap : MethodName := ⟨RX12, "swap", "(I)I"⟩
abbrev cX12_sunFor : ByteArray := prog_14_method_68_code
def yX12_sunFor : MethodName := ⟨RX12, "sunFor", "(III)I"⟩
abbrev cX12_sweepFor : ByteArray := prog_14_method_69_code
def yX12_sweepFor : MethodName := ⟨RX12, "sweepFor", "(II)I"⟩
abbrev cX12_whence : ByteArray := prog_14_method_70_code
def yX12_whence : MethodName := ⟨RX12, "whence", "(III)I"⟩
abbrev cX12_bare : ByteArray := prog_14_method_71_code
def yX12_bare : MethodName := ⟨RX12, "bare", "(I)I"⟩
abbrev cX12_crowd : ByteArray := prog_14_method_72_code
def yX12_crowd : MethodName := ⟨RX12, "crowd", "(II)I"⟩
abbrev cX12_light : ByteArray := prog_14_method_73_code
def yX12_light : MethodName := ⟨RX12, "light", "(I)I"⟩
abbrev cX12_areDust : ByteArray := prog_14_method_74_code
def yX12_areDust : MethodName := ⟨RX12, "areDust", "(I)Z"⟩
abbrev cX12_late : ByteArray := prog_14_method_75_code
def yX12_late : MethodName := ⟨RX12, "late", "(I)I"⟩
abbrev cX12_common : ByteArray := prog_14_method_76_code
def yX12_common : MethodName := ⟨RX12, "common", "(II)I"⟩
abbrev cX12_odds : ByteArray := prog_14_method_77_code
def yX12_odds : MethodName := ⟨RX12, "odds", "(III)I"⟩
abbrev cX12_seed : ByteArray := prog_14_method_78_code
def yX12_seed : MethodName := ⟨RX12, "seed", "(I)I"⟩
abbrev cX12_ran : ByteArray := prog_14_method_79_code
def yX12_ran : MethodName := ⟨RX12, "ran", "(I)V"⟩
abbrev cX12_liesBy : ByteArray := prog_14_method_80_code
def yX12_liesBy : MethodName := ⟨RX12, "liesBy", "(II)I"⟩
abbrev cX12_shinesBy : ByteArray := prog_14_method_81_code
def yX12_shinesBy : MethodName := ⟨RX12, "shinesBy", "(II)I"⟩
abbrev cX12_driftsBy : ByteArray := prog_14_method_82_code
def yX12_driftsBy : MethodName := ⟨RX12, "driftsBy", "(II)I"⟩
abbrev cX12_tellsBy : ByteArray := prog_14_method_83_code
def yX12_tellsBy : MethodName := ⟨RX12, "tellsBy", "(II)I"⟩
abbrev cX12_voice : ByteArray := prog_14_method_84_code
def yX12_voice : MethodName := ⟨RX12, "voice", "(III)I"⟩
abbrev cX12_trace : ByteArray := prog_14_method_85_code
def yX12_trace : MethodName := ⟨RX12, "trace", "(I)I"⟩
abbrev cX12_isSheet : ByteArray := prog_14_method_86_code
def yX12_isSheet : MethodName := ⟨RX12, "isSheet", "(I)Z"⟩
abbrev cX12_sheet : ByteArray := prog_14_method_87_code
def yX12_sheet : MethodName := ⟨RX12, "sheet", "(III)I"⟩
abbrev cX12_put : ByteArray := prog_14_method_88_code
def yX12_put : MethodName := ⟨RX12, "put", "(III)I"⟩
abbrev cX12_move : ByteArray := prog_14_method_89_code
def yX12_move : MethodName := ⟨RX12, "move", "(IIIII)I"⟩
abbrev cX12_suns : ByteArray := prog_14_method_90_code
def yX12_suns : MethodName := ⟨RX12, "suns", "(I)I"⟩
abbrev cX12_judge : ByteArray := prog_14_method_91_code
def yX12_judge : MethodName := ⟨RX12, "judge", "(I)I"⟩
abbrev cX12_image : ByteArray := prog_14_method_92_code
def yX12_image : MethodName := ⟨RX12, "image", "()I"⟩
abbrev cX12_restore : ByteArray := prog_14_method_93_code
def yX12_restore : MethodName := ⟨RX12, "restore", "()I"⟩
abbrev cX12_tell : ByteArray := prog_14_method_94_code
def yX12_tell : MethodName := ⟨RX12, "tell", "(I)I"⟩
abbrev cX12_check : ByteArray := prog_14_method_95_code
def yX12_check : MethodName := ⟨RX12, "check", "()I"⟩
abbrev cX12_sumOf : ByteArray := prog_14_method_96_code
def yX12_sumOf : MethodName := ⟨RX12, "sumOf", "(III)I"⟩
abbrev cX12_count : ByteArray := prog_14_method_97_code
def yX12_count : MethodName := ⟨RX12, "count", "(I)I"⟩
abbrev cX12_told : ByteArray := prog_14_method_98_code
def yX12_told : MethodName := ⟨RX12, "told", "(I)I"⟩
def RJx145de : String := "java/io/Serializable"
def TJx145de : u_T := fun k => match k with
  | _ => ("", "", "", false)
def tyJx145de : Nat → FieldType := fun k => match k with
  | _ => .int
abbrev wsJx145de0 : List Cond := u_ws RJx145de TJx145de 0
theorem nmJx145de : ∀ a, a < 0 → ∀ b, b < 0 → a ≠ b → (TJx145de a).2.1 ≠ (TJx145de b).2.1 := by decide +kernel
theorem tyJx145de_ok : ∀ k, k < 0 → parseFieldDescriptor (TJx145de k).2.2.1 = some (tyJx145de k) := by decide +kernel
def RJx9f9b0 : String := "java/lang/CharSequence"
def TJx9f9b0 : u_T := fun k => match k with
  | _ => ("", "", "", false)
def tyJx9f9b0 : Nat → FieldType := fun k => match k with
  | _ => .int
abbrev wsJx9f9b00 : List Cond := u_ws RJx9f9b0 TJx9f9b0 0
theorem nmJx9f9b0 : ∀ a, a < 0 → ∀ b, b < 0 → a ≠ b → (TJx9f9b0 a).2.1 ≠ (TJx9f9b0 b).2.1 := by decide +kernel
theorem tyJx9f9b0_ok : ∀ k, k < 0 → parseFieldDescriptor (TJx9f9b0 k).2.2.1 = some (tyJx9f9b0 k) := by decide +kernel
def RJ11 : String := "java/lang/Character"
def TJ11 : u_T := fun k => match k with
  | _ => ("", "", "", false)
def tyJ11 : Nat → FieldType := fun k => match k with
  | _ => .int
abbrev wsJ110 : List Cond := u_ws RJ11 TJ11 0
theorem nmJ11 : ∀ a, a < 0 → ∀ b, b < 0 → a ≠ b → (TJ11 a).2.1 ≠ (TJ11 b).2.1 := by decide +kernel
theorem tyJ11_ok : ∀ k, k < 0 → parseFieldDescriptor (TJ11 k).2.2.1 = some (tyJ11 k) := by decide +kernel
abbrev cJ11_isValidCodePoint_9a6ad : ByteArray := prog_15_method_11_code
def yJ11_isValidCodePoint_9a6ad : MethodName := ⟨RJ11, "isValidCodePoint", "(I)Z"⟩
abbrev cJ11_highSurrogate_5068e : ByteArray := prog_15_method_28_code
def yJ11_highSurrogate_5068e : MethodName := ⟨RJ11, "highSurrogate", "(I)C"⟩
abbrev cJ11_lowSurrogate_5068e : ByteArray := prog_15_method_29_code
def yJ11_lowSurrogate_5068e : MethodName := ⟨RJ11, "lowSurrogate", "(I)C"⟩
def RJxb160c : String := "java/lang/Comparable"
def TJxb160c : u_T := fun k => match k with
  | _ => ("", "", "", false)
def tyJxb160c : Nat → FieldType := fun k => match k with
  | _ => .int
abbrev wsJxb160c0 : List Cond := u_ws RJxb160c TJxb160c 0
theorem nmJxb160c : ∀ a, a < 0 → ∀ b, b < 0 → a ≠ b → (TJxb160c a).2.1 ≠ (TJxb160c b).2.1 := by decide +kernel
theorem tyJxb160c_ok : ∀ k, k < 0 → parseFieldDescriptor (TJxb160c k).2.2.1 = some (tyJxb160c k) := by decide +kernel
def RJ6 : String := "java/lang/Integer"
def TJ6 : u_T := fun k => match k with
  | _ => ("", "", "", false)
def tyJ6 : Nat → FieldType := fun k => match k with
  | _ => .int
abbrev wsJ60 : List Cond := u_ws RJ6 TJ6 0
theorem nmJ6 : ∀ a, a < 0 → ∀ b, b < 0 → a ≠ b → (TJ6 a).2.1 ≠ (TJ6 b).2.1 := by decide +kernel
theorem tyJ6_ok : ∀ k, k < 0 → parseFieldDescriptor (TJ6 k).2.2.1 = some (tyJ6 k) := by decide +kernel
abbrev cJ6_bitCount_0f7a4 : ByteArray := prog_16_method_49_code
def yJ6_bitCount_0f7a4 : MethodName := ⟨RJ6, "bitCount", "(I)I"⟩
def RJ9 : String := "java/lang/Math"
def TJ9 : u_T := fun k => match k with
  | _ => ("", "", "", false)
def tyJ9 : Nat → FieldType := fun k => match k with
  | _ => .int
abbrev wsJ90 : List Cond := u_ws RJ9 TJ9 0
theorem nmJ9 : ∀ a, a < 0 → ∀ b, b < 0 → a ≠ b → (TJ9 a).2.1 ≠ (TJ9 b).2.1 := by decide +kernel
theorem tyJ9_ok : ∀ k, k < 0 → parseFieldDescriptor (TJ9 k).2.2.1 = some (tyJ9 k) := by decide +kernel
abbrev cJ9_max_7cf53 : ByteArray := prog_17_method_65_code
def yJ9_max_7cf53 : MethodName := ⟨RJ9, "max", "(II)I"⟩
abbrev cJ9_min_7cf53 : ByteArray := prog_17_method_69_code
def yJ9_min_7cf53 : MethodName := ⟨RJ9, "min", "(II)I"⟩
def RJ0 : String := "java/lang/String"
def TJ0 : u_T := fun k => match k with
  | _ => ("", "", "", false)
def tyJ0 : Nat → FieldType := fun k => match k with
  | _ => .int
abbrev wsJ00 : List Cond := u_ws RJ0 TJ0 0
theorem nmJ0 : ∀ a, a < 0 → ∀ b, b < 0 → a ≠ b → (TJ0 a).2.1 ≠ (TJ0 b).2.1 := by decide +kernel
theorem tyJ0_ok : ∀ k, k < 0 → parseFieldDescriptor (TJ0 k).2.2.1 = some (tyJ0 k) := by decide +kernel
abbrev cJ0_length_8abf5 : ByteArray := prog_18_method_54_code
def yJ0_length_8abf5 : MethodName := ⟨RJ0, "length", "()I"⟩
abbrev cJ0_indexOf_0f7a4 : ByteArray := prog_18_method_79_code
def yJ0_indexOf_0f7a4 : MethodName := ⟨RJ0, "indexOf", "(I)I"⟩
abbrev cJ0_indexOf_7cf53 : ByteArray := prog_18_method_80_code
def yJ0_indexOf_7cf53 : MethodName := ⟨RJ0, "indexOf", "(II)I"⟩
abbrev cJ0_coder_7d493 : ByteArray := prog_18_method_152_code
def yJ0_coder_7d493 : MethodName := ⟨RJ0, "coder", "()B"⟩
abbrev cJ0_isLatin1_aae02 : ByteArray := prog_18_method_154_code
def yJ0_isLatin1_aae02 : MethodName := ⟨RJ0, "isLatin1", "()Z"⟩
abbrev cJ0_checkBoundsBeginEnd_23922 : ByteArray := prog_18_method_158_code
def yJ0_checkBoundsBeginEnd_23922 : MethodName := ⟨RJ0, "checkBoundsBeginEnd", "(III)V"⟩
def RJ1 : String := "java/lang/StringLatin1"
def TJ1 : u_T := fun k => match k with
  | _ => ("", "", "", false)
def tyJ1 : Nat → FieldType := fun k => match k with
  | _ => .int
abbrev wsJ10 : List Cond := u_ws RJ1 TJ1 0
theorem nmJ1 : ∀ a, a < 0 → ∀ b, b < 0 → a ≠ b → (TJ1 a).2.1 ≠ (TJ1 b).2.1 := by decide +kernel
theorem tyJ1_ok : ∀ k, k < 0 → parseFieldDescriptor (TJ1 k).2.2.1 = some (tyJ1 k) := by decide +kernel
abbrev cJ1_canEncode_9a6ad : ByteArray := prog_19_method_4_code
def yJ1_canEncode_9a6ad : MethodName := ⟨RJ1, "canEncode", "(I)Z"⟩
abbrev cJ1_indexOf_4cfef : ByteArray := prog_19_method_22_code
def yJ1_indexOf_4cfef : MethodName := ⟨RJ1, "indexOf", "([BIII)I"⟩
abbrev cJ1_indexOfChar_4cfef : ByteArray := prog_19_method_23_code
def yJ1_indexOfChar_4cfef : MethodName := ⟨RJ1, "indexOfChar", "([BIII)I"⟩
def RJ2 : String := "java/lang/StringUTF16"
def TJ2 : u_T := fun k => match k with
  | _ => ("", "", "", false)
def tyJ2 : Nat → FieldType := fun k => match k with
  | _ => .int
abbrev wsJ20 : List Cond := u_ws RJ2 TJ2 0
theorem nmJ2 : ∀ a, a < 0 → ∀ b, b < 0 → a ≠ b → (TJ2 a).2.1 ≠ (TJ2 b).2.1 := by decide +kernel
theorem tyJ2_ok : ∀ k, k < 0 → parseFieldDescriptor (TJ2 k).2.2.1 = some (tyJ2 k) := by decide +kernel
abbrev cJ2_getChar_3b067 : ByteArray := prog_20_method_5_code
def yJ2_getChar_3b067 : MethodName := ⟨RJ2, "getChar", "([BI)C"⟩
abbrev cJ2_length_9d52b : ByteArray := prog_20_method_6_code
def yJ2_length_9d52b : MethodName := ⟨RJ2, "length", "([B)I"⟩
abbrev cJ2_indexOf_4cfef : ByteArray := prog_20_method_40_code
def yJ2_indexOf_4cfef : MethodName := ⟨RJ2, "indexOf", "([BIII)I"⟩
abbrev cJ2_indexOfChar_4cfef : ByteArray := prog_20_method_47_code
def yJ2_indexOfChar_4cfef : MethodName := ⟨RJ2, "indexOfChar", "([BIII)I"⟩
abbrev cJ2_indexOfCharUnsafe_4cfef : ByteArray := prog_20_method_48_code
def yJ2_indexOfCharUnsafe_4cfef : MethodName := ⟨RJ2, "indexOfCharUnsafe", "([BIII)I"⟩
abbrev cJ2_indexOfSupplementary_4cfef : ByteArray := prog_20_method_49_code
def yJ2_indexOfSupplementary_4cfef : MethodName := ⟨RJ2, "indexOfSupplementary", "([BIII)I"⟩
abbrev cJ2_checkBoundsBeginEnd_d044e : ByteArray := prog_20_method_93_code
def yJ2_checkBoundsBeginEnd_d044e : MethodName := ⟨RJ2, "checkBoundsBeginEnd", "(II[B)V"⟩
def RJ10 : String := "java/lang/System"
def TJ10 : u_T := fun k => match k with
  | _ => ("", "", "", false)
def tyJ10 : Nat → FieldType := fun k => match k with
  | _ => .int
abbrev wsJ100 : List Cond := u_ws RJ10 TJ10 0
theorem nmJ10 : ∀ a, a < 0 → ∀ b, b < 0 → a ≠ b → (TJ10 a).2.1 ≠ (TJ10 b).2.1 := by decide +kernel
theorem tyJ10_ok : ∀ k, k < 0 → parseFieldDescriptor (TJ10 k).2.2.1 = some (tyJ10 k) := by decide +kernel
def RJxfd54e : String := "java/lang/constant/Constable"
def TJxfd54e : u_T := fun k => match k with
  | _ => ("", "", "", false)
def tyJxfd54e : Nat → FieldType := fun k => match k with
  | _ => .int
abbrev wsJxfd54e0 : List Cond := u_ws RJxfd54e TJxfd54e 0
theorem nmJxfd54e : ∀ a, a < 0 → ∀ b, b < 0 → a ≠ b → (TJxfd54e a).2.1 ≠ (TJxfd54e b).2.1 := by decide +kernel
theorem tyJxfd54e_ok : ∀ k, k < 0 → parseFieldDescriptor (TJxfd54e k).2.2.1 = some (tyJxfd54e k) := by decide +kernel
def RJx3cf43 : String := "java/lang/constant/ConstantDesc"
def TJx3cf43 : u_T := fun k => match k with
  | _ => ("", "", "", false)
def tyJx3cf43 : Nat → FieldType := fun k => match k with
  | _ => .int
abbrev wsJx3cf430 : List Cond := u_ws RJx3cf43 TJx3cf43 0
theorem nmJx3cf43 : ∀ a, a < 0 → ∀ b, b < 0 → a ≠ b → (TJx3cf43 a).2.1 ≠ (TJx3cf43 b).2.1 := by decide +kernel
theorem tyJx3cf43_ok : ∀ k, k < 0 → parseFieldDescriptor (TJx3cf43 k).2.2.1 = some (tyJx3cf43 k) := by decide +kernel
def RJ7 : String := "java/util/Arrays"
def TJ7 : u_T := fun k => match k with
  | _ => ("", "", "", false)
def tyJ7 : Nat → FieldType := fun k => match k with
  | _ => .int
abbrev wsJ70 : List Cond := u_ws RJ7 TJ7 0
theorem nmJ7 : ∀ a, a < 0 → ∀ b, b < 0 → a ≠ b → (TJ7 a).2.1 ≠ (TJ7 b).2.1 := by decide +kernel
theorem tyJ7_ok : ∀ k, k < 0 → parseFieldDescriptor (TJ7 k).2.2.1 = some (tyJ7 k) := by decide +kernel
abbrev cJ7_fill_53178 : ByteArray := prog_22_method_103_code
def yJ7_fill_53178 : MethodName := ⟨RJ7, "fill", "([II)V"⟩
def RJ3 : String := "jdk/internal/util/Preconditions"
def TJ3 : u_T := fun k => match k with
  | _ => ("", "", "", false)
def tyJ3 : Nat → FieldType := fun k => match k with
  | _ => .int
abbrev wsJ30 : List Cond := u_ws RJ3 TJ3 0
theorem nmJ3 : ∀ a, a < 0 → ∀ b, b < 0 → a ≠ b → (TJ3 a).2.1 ≠ (TJ3 b).2.1 := by decide +kernel
theorem tyJ3_ok : ∀ k, k < 0 → parseFieldDescriptor (TJ3 k).2.2.1 = some (tyJ3 k) := by decide +kernel
abbrev cJ3_checkFromToIndex_8c36e : ByteArray := prog_23_method_12_code
def yJ3_checkFromToIndex_8c36e : MethodName := ⟨RJ3, "checkFromToIndex", "(IIILjava/util/function/BiFunction;)I"⟩
def RL : String := "DustSillsLaw"
abbrev cL_law : ByteArray := code
def yL_law : MethodName := ⟨RL, "law", "([I)Z"⟩
end
section
theorem dX0_init_0 : decode cX0_init 0 = .ok (.aload_n 0, 1) := by decide +kernel
theorem dX0_init_1 : decode cX0_init 1 = .ok (.invokespecial 3, 3) := by decide +kernel
theorem dX0_init_4 : decode cX0_init 4 = .ok (.return_, 1) := by decide +kernel
theorem dX0_driftsBy_0 : decode cX0_driftsBy 0 = .ok (.iload_n 3, 1) := by decide +kernel
theorem dX0_driftsBy_1 : decode cX0_driftsBy 1 = .ok (.bipush 7, 2) := by decide +kernel
theorem dX0_driftsBy_3 : decode cX0_driftsBy 3 = .ok (.irem, 1) := by decide +kernel
theorem dX0_driftsBy_4 : decode cX0_driftsBy 4 = .ok (.ifCond .ne 7, 3) := by decide +kernel
theorem dX0_driftsBy_7 : decode cX0_driftsBy 7 = .ok (.iconst 0, 1) := by decide +kernel
theorem dX0_driftsBy_8 : decode cX0_driftsBy 8 = .ok (.goto 4, 3) := by decide +kernel
theorem dX0_driftsBy_11 : decode cX0_driftsBy 11 = .ok (.iload_n 1, 1) := by decide +kernel
theorem dX0_driftsBy_12 : decode cX0_driftsBy 12 = .ok (.ireturn, 1) := by decide +kernel
theorem dX0_shinesBy_0 : decode cX0_shinesBy 0 = .ok (.bipush 9, 2) := by decide +kernel
theorem dX0_shinesBy_2 : decode cX0_shinesBy 2 = .ok (.iload_n 1, 1) := by decide +kernel
theorem dX0_shinesBy_3 : decode cX0_shinesBy 3 = .ok (.isub, 1) := by decide +kernel
theorem dX0_shinesBy_4 : decode cX0_shinesBy 4 = .ok (.ireturn, 1) := by decide +kernel
theorem dX0_needsBy_0 : decode cX0_needsBy 0 = .ok (.iconst 0, 1) := by decide +kernel
theorem dX0_needsBy_1 : decode cX0_needsBy 1 = .ok (.ireturn, 1) := by decide +kernel
theorem dX0_drifts_0 : decode cX0_drifts 0 = .ok (.aload_n 1, 1) := by decide +kernel
theorem dX0_drifts_1 : decode cX0_drifts 1 = .ok (.bipush 40, 2) := by decide +kernel
theorem dX0_drifts_3 : decode cX0_drifts 3 = .ok (.invokevirtual 9, 3) := by decide +kernel
theorem dX0_drifts_6 : decode cX0_drifts 6 = .ok (.aload_n 0, 1) := by decide +kernel
theorem dX0_drifts_7 : decode cX0_drifts 7 = .ok (.aload_n 1, 1) := by decide +kernel
theorem dX0_drifts_8 : decode cX0_drifts 8 = .ok (.iload_n 2, 1) := by decide +kernel
theorem dX0_drifts_9 : decode cX0_drifts 9 = .ok (.invokespecial 15, 3) := by decide +kernel
theorem dX0_drifts_12 : decode cX0_drifts 12 = .ok (.ineg, 1) := by decide +kernel
theorem dX0_drifts_13 : decode cX0_drifts 13 = .ok (.ireturn, 1) := by decide +kernel
theorem dX1_init_0 : decode cX1_init 0 = .ok (.aload_n 0, 1) := by decide +kernel
theorem dX1_init_1 : decode cX1_init 1 = .ok (.invokespecial 1, 3) := by decide +kernel
theorem dX1_init_4 : decode cX1_init 4 = .ok (.return_, 1) := by decide +kernel
theorem dX1_driftsBy_0 : decode cX1_driftsBy 0 = .ok (.iload_n 1, 1) := by decide +kernel
theorem dX1_driftsBy_1 : decode cX1_driftsBy 1 = .ok (.iconst 1, 1) := by decide +kernel
theorem dX1_driftsBy_2 : decode cX1_driftsBy 2 = .ok (.iadd, 1) := by decide +kernel
theorem dX1_driftsBy_3 : decode cX1_driftsBy 3 = .ok (.ireturn, 1) := by decide +kernel
theorem dX1_shinesBy_0 : decode cX1_shinesBy 0 = .ok (.iload_n 1, 1) := by decide +kernel
theorem dX1_shinesBy_1 : decode cX1_shinesBy 1 = .ok (.iload_n 2, 1) := by decide +kernel
theorem dX1_shinesBy_2 : decode cX1_shinesBy 2 = .ok (.iconst 2, 1) := by decide +kernel
theorem dX1_shinesBy_3 : decode cX1_shinesBy 3 = .ok (.irem, 1) := by decide +kernel
theorem dX1_shinesBy_4 : decode cX1_shinesBy 4 = .ok (.iadd, 1) := by decide +kernel
theorem dX1_shinesBy_5 : decode cX1_shinesBy 5 = .ok (.ireturn, 1) := by decide +kernel
theorem dX1_needsBy_0 : decode cX1_needsBy 0 = .ok (.iconst 3, 1) := by decide +kernel
theorem dX1_needsBy_1 : decode cX1_needsBy 1 = .ok (.ireturn, 1) := by decide +kernel
theorem dX1_shines_0 : decode cX1_shines 0 = .ok (.aload_n 1, 1) := by decide +kernel
theorem dX1_shines_1 : decode cX1_shines 1 = .ok (.bipush 30, 2) := by decide +kernel
theorem dX1_shines_3 : decode cX1_shines 3 = .ok (.invokevirtual 7, 3) := by decide +kernel
theorem dX1_shines_6 : decode cX1_shines 6 = .ok (.aload_n 0, 1) := by decide +kernel
theorem dX1_shines_7 : decode cX1_shines 7 = .ok (.aload_n 1, 1) := by decide +kernel
theorem dX1_shines_8 : decode cX1_shines 8 = .ok (.iload_n 2, 1) := by decide +kernel
theorem dX1_shines_9 : decode cX1_shines 9 = .ok (.invokespecial 13, 3) := by decide +kernel
theorem dX1_shines_12 : decode cX1_shines 12 = .ok (.aload_n 0, 1) := by decide +kernel
theorem dX1_shines_13 : decode cX1_shines 13 = .ok (.aload_n 1, 1) := by decide +kernel
theorem dX1_shines_14 : decode cX1_shines 14 = .ok (.iconst 1, 1) := by decide +kernel
theorem dX1_shines_15 : decode cX1_shines 15 = .ok (.invokevirtual 17, 3) := by decide +kernel
theorem dX1_shines_18 : decode cX1_shines 18 = .ok (.isub, 1) := by decide +kernel
theorem dX1_shines_19 : decode cX1_shines 19 = .ok (.ireturn, 1) := by decide +kernel
theorem dX2_init_0 : decode cX2_init 0 = .ok (.aload_n 0, 1) := by decide +kernel
theorem dX2_init_1 : decode cX2_init 1 = .ok (.invokespecial 1, 3) := by decide +kernel
theorem dX2_init_4 : decode cX2_init 4 = .ok (.return_, 1) := by decide +kernel
theorem dX2_driftsBy_0 : decode cX2_driftsBy 0 = .ok (.aload_n 0, 1) := by decide +kernel
theorem dX2_driftsBy_1 : decode cX2_driftsBy 1 = .ok (.iload_n 1, 1) := by decide +kernel
theorem dX2_driftsBy_2 : decode cX2_driftsBy 2 = .ok (.iload_n 2, 1) := by decide +kernel
theorem dX2_driftsBy_3 : decode cX2_driftsBy 3 = .ok (.iload_n 3, 1) := by decide +kernel
theorem dX2_driftsBy_4 : decode cX2_driftsBy 4 = .ok (.invokespecial 7, 3) := by decide +kernel
theorem dX2_driftsBy_7 : decode cX2_driftsBy 7 = .ok (.iload_n 3, 1) := by decide +kernel
theorem dX2_driftsBy_8 : decode cX2_driftsBy 8 = .ok (.iconst 5, 1) := by decide +kernel
theorem dX2_driftsBy_9 : decode cX2_driftsBy 9 = .ok (.irem, 1) := by decide +kernel
theorem dX2_driftsBy_10 : decode cX2_driftsBy 10 = .ok (.ifCond .ne 7, 3) := by decide +kernel
theorem dX2_driftsBy_13 : decode cX2_driftsBy 13 = .ok (.iload_n 2, 1) := by decide +kernel
theorem dX2_driftsBy_14 : decode cX2_driftsBy 14 = .ok (.goto 4, 3) := by decide +kernel
theorem dX2_driftsBy_17 : decode cX2_driftsBy 17 = .ok (.iconst 0, 1) := by decide +kernel
theorem dX2_driftsBy_18 : decode cX2_driftsBy 18 = .ok (.iadd, 1) := by decide +kernel
theorem dX2_driftsBy_19 : decode cX2_driftsBy 19 = .ok (.ireturn, 1) := by decide +kernel
theorem dX2_needsBy_0 : decode cX2_needsBy 0 = .ok (.iload_n 1, 1) := by decide +kernel
theorem dX2_needsBy_1 : decode cX2_needsBy 1 = .ok (.ireturn, 1) := by decide +kernel
theorem dX2_shines_0 : decode cX2_shines 0 = .ok (.aload_n 1, 1) := by decide +kernel
theorem dX2_shines_1 : decode cX2_shines 1 = .ok (.bipush 60, 2) := by decide +kernel
theorem dX2_shines_3 : decode cX2_shines 3 = .ok (.invokevirtual 11, 3) := by decide +kernel
theorem dX2_shines_6 : decode cX2_shines 6 = .ok (.aload_n 0, 1) := by decide +kernel
theorem dX2_shines_7 : decode cX2_shines 7 = .ok (.aload_n 1, 1) := by decide +kernel
theorem dX2_shines_8 : decode cX2_shines 8 = .ok (.iload_n 2, 1) := by decide +kernel
theorem dX2_shines_9 : decode cX2_shines 9 = .ok (.iconst 1, 1) := by decide +kernel
theorem dX2_shines_10 : decode cX2_shines 10 = .ok (.iadd, 1) := by decide +kernel
theorem dX2_shines_11 : decode cX2_shines 11 = .ok (.invokespecial 17, 3) := by decide +kernel
theorem dX2_shines_14 : decode cX2_shines 14 = .ok (.ireturn, 1) := by decide +kernel
theorem dX3_init_0 : decode cX3_init 0 = .ok (.aload_n 0, 1) := by decide +kernel
theorem dX3_init_1 : decode cX3_init 1 = .ok (.invokespecial 1, 3) := by decide +kernel
theorem dX3_init_4 : decode cX3_init 4 = .ok (.return_, 1) := by decide +kernel
theorem dX3_driftsBy_0 : decode cX3_driftsBy 0 = .ok (.iconst 0, 1) := by decide +kernel
theorem dX3_driftsBy_1 : decode cX3_driftsBy 1 = .ok (.ireturn, 1) := by decide +kernel
theorem dX3_shinesBy_0 : decode cX3_shinesBy 0 = .ok (.iconst 0, 1) := by decide +kernel
theorem dX3_shinesBy_1 : decode cX3_shinesBy 1 = .ok (.aload_n 0, 1) := by decide +kernel
theorem dX3_shinesBy_2 : decode cX3_shinesBy 2 = .ok (.iload_n 1, 1) := by decide +kernel
theorem dX3_shinesBy_3 : decode cX3_shinesBy 3 = .ok (.iload_n 2, 1) := by decide +kernel
theorem dX3_shinesBy_4 : decode cX3_shinesBy 4 = .ok (.iload_n 3, 1) := by decide +kernel
theorem dX3_shinesBy_5 : decode cX3_shinesBy 5 = .ok (.invokespecial 7, 3) := by decide +kernel
theorem dX3_shinesBy_8 : decode cX3_shinesBy 8 = .ok (.iconst 3, 1) := by decide +kernel
theorem dX3_shinesBy_9 : decode cX3_shinesBy 9 = .ok (.isub, 1) := by decide +kernel
theorem dX3_shinesBy_10 : decode cX3_shinesBy 10 = .ok (.invokestatic 11, 3) := by decide +kernel
theorem dX3_shinesBy_13 : decode cX3_shinesBy 13 = .ok (.ireturn, 1) := by decide +kernel
theorem dX3_needsBy_0 : decode cX3_needsBy 0 = .ok (.bipush 9, 2) := by decide +kernel
theorem dX3_needsBy_2 : decode cX3_needsBy 2 = .ok (.ireturn, 1) := by decide +kernel
theorem dX3_tells_0 : decode cX3_tells 0 = .ok (.aload_n 1, 1) := by decide +kernel
theorem dX3_tells_1 : decode cX3_tells 1 = .ok (.bipush 50, 2) := by decide +kernel
theorem dX3_tells_3 : decode cX3_tells 3 = .ok (.invokevirtual 17, 3) := by decide +kernel
theorem dX3_tells_6 : decode cX3_tells 6 = .ok (.aload_n 0, 1) := by decide +kernel
theorem dX3_tells_7 : decode cX3_tells 7 = .ok (.aload_n 1, 1) := by decide +kernel
theorem dX3_tells_8 : decode cX3_tells 8 = .ok (.iload_n 2, 1) := by decide +kernel
theorem dX3_tells_9 : decode cX3_tells 9 = .ok (.invokespecial 23, 3) := by decide +kernel
theorem dX3_tells_12 : decode cX3_tells 12 = .ok (.aload_n 0, 1) := by decide +kernel
theorem dX3_tells_13 : decode cX3_tells 13 = .ok (.aload_n 1, 1) := by decide +kernel
theorem dX3_tells_14 : decode cX3_tells 14 = .ok (.iconst 2, 1) := by decide +kernel
theorem dX3_tells_15 : decode cX3_tells 15 = .ok (.invokevirtual 27, 3) := by decide +kernel
theorem dX3_tells_18 : decode cX3_tells 18 = .ok (.isub, 1) := by decide +kernel
theorem dX3_tells_19 : decode cX3_tells 19 = .ok (.ireturn, 1) := by decide +kernel
theorem dX4_init_0 : decode cX4_init 0 = .ok (.aload_n 0, 1) := by decide +kernel
theorem dX4_init_1 : decode cX4_init 1 = .ok (.invokespecial 1, 3) := by decide +kernel
theorem dX4_init_4 : decode cX4_init 4 = .ok (.return_, 1) := by decide +kernel
theorem dX4_driftsBy_0 : decode cX4_driftsBy 0 = .ok (.iconst 1, 1) := by decide +kernel
theorem dX4_driftsBy_1 : decode cX4_driftsBy 1 = .ok (.aload_n 0, 1) := by decide +kernel
theorem dX4_driftsBy_2 : decode cX4_driftsBy 2 = .ok (.iload_n 1, 1) := by decide +kernel
theorem dX4_driftsBy_3 : decode cX4_driftsBy 3 = .ok (.iload_n 2, 1) := by decide +kernel
theorem dX4_driftsBy_4 : decode cX4_driftsBy 4 = .ok (.iload_n 3, 1) := by decide +kernel
theorem dX4_driftsBy_5 : decode cX4_driftsBy 5 = .ok (.invokespecial 7, 3) := by decide +kernel
theorem dX4_driftsBy_8 : decode cX4_driftsBy 8 = .ok (.invokestatic 11, 3) := by decide +kernel
theorem dX4_driftsBy_11 : decode cX4_driftsBy 11 = .ok (.ireturn, 1) := by decide +kernel
theorem dX4_shinesBy_0 : decode cX4_shinesBy 0 = .ok (.aload_n 0, 1) := by decide +kernel
theorem dX4_shinesBy_1 : decode cX4_shinesBy 1 = .ok (.iload_n 1, 1) := by decide +kernel
theorem dX4_shinesBy_2 : decode cX4_shinesBy 2 = .ok (.iload_n 2, 1) := by decide +kernel
theorem dX4_shinesBy_3 : decode cX4_shinesBy 3 = .ok (.iload_n 3, 1) := by decide +kernel
theorem dX4_shinesBy_4 : decode cX4_shinesBy 4 = .ok (.invokespecial 17, 3) := by decide +kernel
theorem dX4_shinesBy_7 : decode cX4_shinesBy 7 = .ok (.iload_n 3, 1) := by decide +kernel
theorem dX4_shinesBy_8 : decode cX4_shinesBy 8 = .ok (.iconst 2, 1) := by decide +kernel
theorem dX4_shinesBy_9 : decode cX4_shinesBy 9 = .ok (.irem, 1) := by decide +kernel
theorem dX4_shinesBy_10 : decode cX4_shinesBy 10 = .ok (.ifCond .ne 7, 3) := by decide +kernel
theorem dX4_shinesBy_13 : decode cX4_shinesBy 13 = .ok (.iconst 0, 1) := by decide +kernel
theorem dX4_shinesBy_14 : decode cX4_shinesBy 14 = .ok (.goto 4, 3) := by decide +kernel
theorem dX4_shinesBy_17 : decode cX4_shinesBy 17 = .ok (.iload_n 2, 1) := by decide +kernel
theorem dX4_shinesBy_18 : decode cX4_shinesBy 18 = .ok (.iadd, 1) := by decide +kernel
theorem dX4_shinesBy_19 : decode cX4_shinesBy 19 = .ok (.ireturn, 1) := by decide +kernel
theorem dX4_needsBy_0 : decode cX4_needsBy 0 = .ok (.aload_n 0, 1) := by decide +kernel
theorem dX4_needsBy_1 : decode cX4_needsBy 1 = .ok (.iload_n 1, 1) := by decide +kernel
theorem dX4_needsBy_2 : decode cX4_needsBy 2 = .ok (.invokespecial 20, 3) := by decide +kernel
theorem dX4_needsBy_5 : decode cX4_needsBy 5 = .ok (.iconst 2, 1) := by decide +kernel
theorem dX4_needsBy_6 : decode cX4_needsBy 6 = .ok (.iadd, 1) := by decide +kernel
theorem dX4_needsBy_7 : decode cX4_needsBy 7 = .ok (.ireturn, 1) := by decide +kernel
theorem dX4_drifts_0 : decode cX4_drifts 0 = .ok (.aload_n 1, 1) := by decide +kernel
theorem dX4_drifts_1 : decode cX4_drifts 1 = .ok (.bipush 70, 2) := by decide +kernel
theorem dX4_drifts_3 : decode cX4_drifts 3 = .ok (.invokevirtual 24, 3) := by decide +kernel
theorem dX4_drifts_6 : decode cX4_drifts 6 = .ok (.aload_n 0, 1) := by decide +kernel
theorem dX4_drifts_7 : decode cX4_drifts 7 = .ok (.aload_n 1, 1) := by decide +kernel
theorem dX4_drifts_8 : decode cX4_drifts 8 = .ok (.iload_n 2, 1) := by decide +kernel
theorem dX4_drifts_9 : decode cX4_drifts 9 = .ok (.invokespecial 30, 3) := by decide +kernel
theorem dX4_drifts_12 : decode cX4_drifts 12 = .ok (.aload_n 1, 1) := by decide +kernel
theorem dX4_drifts_13 : decode cX4_drifts 13 = .ok (.getfield 34, 3) := by decide +kernel
theorem dX4_drifts_16 : decode cX4_drifts 16 = .ok (.ixor, 1) := by decide +kernel
theorem dX4_drifts_17 : decode cX4_drifts 17 = .ok (.ireturn, 1) := by decide +kernel
theorem dX4_tells_0 : decode cX4_tells 0 = .ok (.aload_n 1, 1) := by decide +kernel
theorem dX4_tells_1 : decode cX4_tells 1 = .ok (.bipush 71, 2) := by decide +kernel
theorem dX4_tells_3 : decode cX4_tells 3 = .ok (.invokevirtual 24, 3) := by decide +kernel
theorem dX4_tells_6 : decode cX4_tells 6 = .ok (.aload_n 0, 1) := by decide +kernel
theorem dX4_tells_7 : decode cX4_tells 7 = .ok (.aload_n 1, 1) := by decide +kernel
theorem dX4_tells_8 : decode cX4_tells 8 = .ok (.iload_n 2, 1) := by decide +kernel
theorem dX4_tells_9 : decode cX4_tells 9 = .ok (.invokevirtual 38, 3) := by decide +kernel
theorem dX4_tells_12 : decode cX4_tells 12 = .ok (.aload_n 0, 1) := by decide +kernel
theorem dX4_tells_13 : decode cX4_tells 13 = .ok (.aload_n 1, 1) := by decide +kernel
theorem dX4_tells_14 : decode cX4_tells 14 = .ok (.iload_n 2, 1) := by decide +kernel
theorem dX4_tells_15 : decode cX4_tells 15 = .ok (.invokespecial 43, 3) := by decide +kernel
theorem dX4_tells_18 : decode cX4_tells 18 = .ok (.isub, 1) := by decide +kernel
theorem dX4_tells_19 : decode cX4_tells 19 = .ok (.ireturn, 1) := by decide +kernel
theorem dX5_init_0 : decode cX5_init 0 = .ok (.aload_n 0, 1) := by decide +kernel
theorem dX5_init_1 : decode cX5_init 1 = .ok (.invokespecial 1, 3) := by decide +kernel
theorem dX5_init_4 : decode cX5_init 4 = .ok (.return_, 1) := by decide +kernel
theorem dX5_driftsBy_0 : decode cX5_driftsBy 0 = .ok (.iload_n 1, 1) := by decide +kernel
theorem dX5_driftsBy_1 : decode cX5_driftsBy 1 = .ok (.ireturn, 1) := by decide +kernel
theorem dX5_shinesBy_0 : decode cX5_shinesBy 0 = .ok (.iload_n 1, 1) := by decide +kernel
theorem dX5_shinesBy_1 : decode cX5_shinesBy 1 = .ok (.ireturn, 1) := by decide +kernel
theorem dX5_needsBy_0 : decode cX5_needsBy 0 = .ok (.iconst 5, 1) := by decide +kernel
theorem dX5_needsBy_1 : decode cX5_needsBy 1 = .ok (.ireturn, 1) := by decide +kernel
theorem dX5_lies_0 : decode cX5_lies 0 = .ok (.aload_n 1, 1) := by decide +kernel
theorem dX5_lies_1 : decode cX5_lies 1 = .ok (.bipush 10, 2) := by decide +kernel
theorem dX5_lies_3 : decode cX5_lies 3 = .ok (.invokevirtual 7, 3) := by decide +kernel
theorem dX5_lies_6 : decode cX5_lies 6 = .ok (.iload_n 2, 1) := by decide +kernel
theorem dX5_lies_7 : decode cX5_lies 7 = .ok (.aload_n 1, 1) := by decide +kernel
theorem dX5_lies_8 : decode cX5_lies 8 = .ok (.getfield 13, 3) := by decide +kernel
theorem dX5_lies_11 : decode cX5_lies 11 = .ok (.iadd, 1) := by decide +kernel
theorem dX5_lies_12 : decode cX5_lies 12 = .ok (.ireturn, 1) := by decide +kernel
theorem dX5_shines_0 : decode cX5_shines 0 = .ok (.aload_n 1, 1) := by decide +kernel
theorem dX5_shines_1 : decode cX5_shines 1 = .ok (.bipush 11, 2) := by decide +kernel
theorem dX5_shines_3 : decode cX5_shines 3 = .ok (.invokevirtual 7, 3) := by decide +kernel
theorem dX5_shines_6 : decode cX5_shines 6 = .ok (.aload_n 0, 1) := by decide +kernel
theorem dX5_shines_7 : decode cX5_shines 7 = .ok (.aload_n 1, 1) := by decide +kernel
theorem dX5_shines_8 : decode cX5_shines 8 = .ok (.iload_n 2, 1) := by decide +kernel
theorem dX5_shines_9 : decode cX5_shines 9 = .ok (.invokevirtual 17, 3) := by decide +kernel
theorem dX5_shines_12 : decode cX5_shines 12 = .ok (.iconst 2, 1) := by decide +kernel
theorem dX5_shines_13 : decode cX5_shines 13 = .ok (.imul, 1) := by decide +kernel
theorem dX5_shines_14 : decode cX5_shines 14 = .ok (.ireturn, 1) := by decide +kernel
theorem dX5_drifts_0 : decode cX5_drifts 0 = .ok (.aload_n 1, 1) := by decide +kernel
theorem dX5_drifts_1 : decode cX5_drifts 1 = .ok (.bipush 12, 2) := by decide +kernel
theorem dX5_drifts_3 : decode cX5_drifts 3 = .ok (.invokevirtual 7, 3) := by decide +kernel
theorem dX5_drifts_6 : decode cX5_drifts 6 = .ok (.iload_n 2, 1) := by decide +kernel
theorem dX5_drifts_7 : decode cX5_drifts 7 = .ok (.aload_n 1, 1) := by decide +kernel
theorem dX5_drifts_8 : decode cX5_drifts 8 = .ok (.getfield 23, 3) := by decide +kernel
theorem dX5_drifts_11 : decode cX5_drifts 11 = .ok (.isub, 1) := by decide +kernel
theorem dX5_drifts_12 : decode cX5_drifts 12 = .ok (.ireturn, 1) := by decide +kernel
theorem dX5_tells_0 : decode cX5_tells 0 = .ok (.aload_n 1, 1) := by decide +kernel
theorem dX5_tells_1 : decode cX5_tells 1 = .ok (.bipush 13, 2) := by decide +kernel
theorem dX5_tells_3 : decode cX5_tells 3 = .ok (.invokevirtual 7, 3) := by decide +kernel
theorem dX5_tells_6 : decode cX5_tells 6 = .ok (.aload_n 0, 1) := by decide +kernel
theorem dX5_tells_7 : decode cX5_tells 7 = .ok (.aload_n 1, 1) := by decide +kernel
theorem dX5_tells_8 : decode cX5_tells 8 = .ok (.iload_n 2, 1) := by decide +kernel
theorem dX5_tells_9 : decode cX5_tells 9 = .ok (.invokevirtual 26, 3) := by decide +kernel
theorem dX5_tells_12 : decode cX5_tells 12 = .ok (.aload_n 0, 1) := by decide +kernel
theorem dX5_tells_13 : decode cX5_tells 13 = .ok (.aload_n 1, 1) := by decide +kernel
theorem dX5_tells_14 : decode cX5_tells 14 = .ok (.iload_n 2, 1) := by decide +kernel
theorem dX5_tells_15 : decode cX5_tells 15 = .ok (.invokevirtual 29, 3) := by decide +kernel
theorem dX5_tells_18 : decode cX5_tells 18 = .ok (.ixor, 1) := by decide +kernel
theorem dX5_tells_19 : decode cX5_tells 19 = .ok (.ireturn, 1) := by decide +kernel
theorem dX6_init_0 : decode cX6_init 0 = .ok (.aload_n 0, 1) := by decide +kernel
theorem dX6_init_1 : decode cX6_init 1 = .ok (.invokespecial 3, 3) := by decide +kernel
theorem dX6_init_4 : decode cX6_init 4 = .ok (.aload_n 0, 1) := by decide +kernel
theorem dX6_init_5 : decode cX6_init 5 = .ok (.bipush 50, 2) := by decide +kernel
theorem dX6_init_7 : decode cX6_init 7 = .ok (.newarray .int, 2) := by decide +kernel
theorem dX6_init_9 : decode cX6_init 9 = .ok (.putfield 9, 3) := by decide +kernel
theorem dX6_init_12 : decode cX6_init 12 = .ok (.aload_n 0, 1) := by decide +kernel
theorem dX6_init_13 : decode cX6_init 13 = .ok (.bipush 50, 2) := by decide +kernel
theorem dX6_init_15 : decode cX6_init 15 = .ok (.newarray .int, 2) := by decide +kernel
theorem dX6_init_17 : decode cX6_init 17 = .ok (.putfield 15, 3) := by decide +kernel
theorem dX6_init_20 : decode cX6_init 20 = .ok (.aload_n 0, 1) := by decide +kernel
theorem dX6_init_21 : decode cX6_init 21 = .ok (.bipush 50, 2) := by decide +kernel
theorem dX6_init_23 : decode cX6_init 23 = .ok (.newarray .int, 2) := by decide +kernel
theorem dX6_init_25 : decode cX6_init 25 = .ok (.putfield 18, 3) := by decide +kernel
theorem dX6_init_28 : decode cX6_init 28 = .ok (.aload_n 0, 1) := by decide +kernel
theorem dX6_init_29 : decode cX6_init 29 = .ok (.aload_n 1, 1) := by decide +kernel
theorem dX6_init_30 : decode cX6_init 30 = .ok (.putfield 21, 3) := by decide +kernel
theorem dX6_init_33 : decode cX6_init 33 = .ok (.aload_n 0, 1) := by decide +kernel
theorem dX6_init_34 : decode cX6_init 34 = .ok (.iload_n 2, 1) := by decide +kernel
theorem dX6_init_35 : decode cX6_init 35 = .ok (.putfield 25, 3) := by decide +kernel
theorem dX6_init_38 : decode cX6_init 38 = .ok (.return_, 1) := by decide +kernel
theorem dX6_copy_0 : decode cX6_copy 0 = .ok (.aload_n 0, 1) := by decide +kernel
theorem dX6_copy_1 : decode cX6_copy 1 = .ok (.aload_n 1, 1) := by decide +kernel
theorem dX6_copy_2 : decode cX6_copy 2 = .ok (.getfield 9, 3) := by decide +kernel
theorem dX6_copy_5 : decode cX6_copy 5 = .ok (.aload_n 1, 1) := by decide +kernel
theorem dX6_copy_6 : decode cX6_copy 6 = .ok (.getfield 29, 3) := by decide +kernel
theorem dX6_copy_9 : decode cX6_copy 9 = .ok (.invokevirtual 32, 3) := by decide +kernel
theorem dX6_copy_12 : decode cX6_copy 12 = .ok (.return_, 1) := by decide +kernel
theorem dX6_take_0 : decode cX6_take 0 = .ok (.aload_n 0, 1) := by decide +kernel
theorem dX6_take_1 : decode cX6_take 1 = .ok (.iconst 0, 1) := by decide +kernel
theorem dX6_take_2 : decode cX6_take 2 = .ok (.iload_n 2, 1) := by decide +kernel
theorem dX6_take_3 : decode cX6_take 3 = .ok (.bipush 50, 2) := by decide +kernel
theorem dX6_take_5 : decode cX6_take 5 = .ok (.invokestatic 36, 3) := by decide +kernel
theorem dX6_take_8 : decode cX6_take 8 = .ok (.invokestatic 42, 3) := by decide +kernel
theorem dX6_take_11 : decode cX6_take 11 = .ok (.putfield 29, 3) := by decide +kernel
theorem dX6_take_14 : decode cX6_take 14 = .ok (.aload_n 1, 1) := by decide +kernel
theorem dX6_take_15 : decode cX6_take 15 = .ok (.iconst 0, 1) := by decide +kernel
theorem dX6_take_16 : decode cX6_take 16 = .ok (.aload_n 0, 1) := by decide +kernel
theorem dX6_take_17 : decode cX6_take 17 = .ok (.getfield 9, 3) := by decide +kernel
theorem dX6_take_20 : decode cX6_take 20 = .ok (.iconst 0, 1) := by decide +kernel
theorem dX6_take_21 : decode cX6_take 21 = .ok (.aload_n 0, 1) := by decide +kernel
theorem dX6_take_22 : decode cX6_take 22 = .ok (.getfield 29, 3) := by decide +kernel
theorem dX6_take_25 : decode cX6_take 25 = .ok (.invokestatic 45, 3) := by decide +kernel
theorem dX6_take_28 : decode cX6_take 28 = .ok (.return_, 1) := by decide +kernel
theorem dX6_gives_0 : decode cX6_gives 0 = .ok (.aload_n 0, 1) := by decide +kernel
theorem dX6_gives_1 : decode cX6_gives 1 = .ok (.getfield 29, 3) := by decide +kernel
theorem dX6_gives_4 : decode cX6_gives 4 = .ok (.ifCond .ne 7, 3) := by decide +kernel
theorem dX6_gives_7 : decode cX6_gives 7 = .ok (.iload_n 1, 1) := by decide +kernel
theorem dX6_gives_8 : decode cX6_gives 8 = .ok (.goto 10, 3) := by decide +kernel
theorem dX6_gives_11 : decode cX6_gives 11 = .ok (.aload_n 0, 1) := by decide +kernel
theorem dX6_gives_12 : decode cX6_gives 12 = .ok (.iload_n 1, 1) := by decide +kernel
theorem dX6_gives_13 : decode cX6_gives 13 = .ok (.iload_n 2, 1) := by decide +kernel
theorem dX6_gives_14 : decode cX6_gives 14 = .ok (.iload_n 3, 1) := by decide +kernel
theorem dX6_gives_15 : decode cX6_gives 15 = .ok (.invokevirtual 51, 3) := by decide +kernel
theorem dX6_gives_18 : decode cX6_gives 18 = .ok (.istore 4, 2) := by decide +kernel
theorem dX6_gives_20 : decode cX6_gives 20 = .ok (.iconst 0, 1) := by decide +kernel
theorem dX6_gives_21 : decode cX6_gives 21 = .ok (.aload_n 0, 1) := by decide +kernel
theorem dX6_gives_22 : decode cX6_gives 22 = .ok (.getfield 25, 3) := by decide +kernel
theorem dX6_gives_25 : decode cX6_gives 25 = .ok (.iload 4, 2) := by decide +kernel
theorem dX6_gives_27 : decode cX6_gives 27 = .ok (.invokestatic 36, 3) := by decide +kernel
theorem dX6_gives_30 : decode cX6_gives 30 = .ok (.invokestatic 42, 3) := by decide +kernel
theorem dX6_gives_33 : decode cX6_gives 33 = .ok (.ireturn, 1) := by decide +kernel
theorem dX6_workedOut_0 : decode cX6_workedOut 0 = .ok (.iconst 0, 1) := by decide +kernel
theorem dX6_workedOut_1 : decode cX6_workedOut 1 = .ok (.istore 4, 2) := by decide +kernel
theorem dX6_workedOut_3 : decode cX6_workedOut 3 = .ok (.iconst 0, 1) := by decide +kernel
theorem dX6_workedOut_4 : decode cX6_workedOut 4 = .ok (.istore 5, 2) := by decide +kernel
theorem dX6_workedOut_6 : decode cX6_workedOut 6 = .ok (.iload 5, 2) := by decide +kernel
theorem dX6_workedOut_8 : decode cX6_workedOut 8 = .ok (.aload_n 0, 1) := by decide +kernel
theorem dX6_workedOut_9 : decode cX6_workedOut 9 = .ok (.getfield 29, 3) := by decide +kernel
theorem dX6_workedOut_12 : decode cX6_workedOut 12 = .ok (.if_icmp .ge 140, 3) := by decide +kernel
theorem dX6_workedOut_15 : decode cX6_workedOut 15 = .ok (.aload_n 0, 1) := by decide +kernel
theorem dX6_workedOut_16 : decode cX6_workedOut 16 = .ok (.getfield 9, 3) := by decide +kernel
theorem dX6_workedOut_19 : decode cX6_workedOut 19 = .ok (.iload 5, 2) := by decide +kernel
theorem dX6_workedOut_21 : decode cX6_workedOut 21 = .ok (.iaload, 1) := by decide +kernel
theorem dX6_workedOut_22 : decode cX6_workedOut 22 = .ok (.istore 6, 2) := by decide +kernel
theorem dX6_workedOut_24 : decode cX6_workedOut 24 = .ok (.iload 6, 2) := by decide +kernel
theorem dX6_workedOut_26 : decode cX6_workedOut 26 = .ok (.sipush 256, 3) := by decide +kernel
theorem dX6_workedOut_29 : decode cX6_workedOut 29 = .ok (.if_icmp .ge 9, 3) := by decide +kernel
theorem dX6_workedOut_32 : decode cX6_workedOut 32 = .ok (.iload 6, 2) := by decide +kernel
theorem dX6_workedOut_34 : decode cX6_workedOut 34 = .ok (.iconst 2, 1) := by decide +kernel
theorem dX6_workedOut_35 : decode cX6_workedOut 35 = .ok (.if_icmp .gt 31, 3) := by decide +kernel
theorem dX6_workedOut_38 : decode cX6_workedOut 38 = .ok (.iload 4, 2) := by decide +kernel
theorem dX6_workedOut_40 : decode cX6_workedOut 40 = .ok (.bipush 50, 2) := by decide +kernel
theorem dX6_workedOut_42 : decode cX6_workedOut 42 = .ok (.if_icmp .ge 104, 3) := by decide +kernel
theorem dX6_workedOut_45 : decode cX6_workedOut 45 = .ok (.aload_n 0, 1) := by decide +kernel
theorem dX6_workedOut_46 : decode cX6_workedOut 46 = .ok (.getfield 15, 3) := by decide +kernel
theorem dX6_workedOut_49 : decode cX6_workedOut 49 = .ok (.iload 4, 2) := by decide +kernel
theorem dX6_workedOut_51 : decode cX6_workedOut 51 = .ok (.iload 6, 2) := by decide +kernel
theorem dX6_workedOut_53 : decode cX6_workedOut 53 = .ok (.iload_n 1, 1) := by decide +kernel
theorem dX6_workedOut_54 : decode cX6_workedOut 54 = .ok (.iload_n 2, 1) := by decide +kernel
theorem dX6_workedOut_55 : decode cX6_workedOut 55 = .ok (.iload_n 3, 1) := by decide +kernel
theorem dX6_workedOut_56 : decode cX6_workedOut 56 = .ok (.invokestatic 55, 3) := by decide +kernel
theorem dX6_workedOut_59 : decode cX6_workedOut 59 = .ok (.iastore, 1) := by decide +kernel
theorem dX6_workedOut_60 : decode cX6_workedOut 60 = .ok (.iinc 4 1, 3) := by decide +kernel
theorem dX6_workedOut_63 : decode cX6_workedOut 63 = .ok (.goto 83, 3) := by decide +kernel
theorem dX6_workedOut_66 : decode cX6_workedOut 66 = .ok (.iload 6, 2) := by decide +kernel
theorem dX6_workedOut_68 : decode cX6_workedOut 68 = .ok (.bipush 33, 2) := by decide +kernel
theorem dX6_workedOut_70 : decode cX6_workedOut 70 = .ok (.if_icmp .ne 37, 3) := by decide +kernel
theorem dX6_workedOut_73 : decode cX6_workedOut 73 = .ok (.iload 4, 2) := by decide +kernel
theorem dX6_workedOut_75 : decode cX6_workedOut 75 = .ok (.ifCond .le 71, 3) := by decide +kernel
theorem dX6_workedOut_78 : decode cX6_workedOut 78 = .ok (.aload_n 0, 1) := by decide +kernel
theorem dX6_workedOut_79 : decode cX6_workedOut 79 = .ok (.getfield 15, 3) := by decide +kernel
theorem dX6_workedOut_82 : decode cX6_workedOut 82 = .ok (.iload 4, 2) := by decide +kernel
theorem dX6_workedOut_84 : decode cX6_workedOut 84 = .ok (.iconst 1, 1) := by decide +kernel
theorem dX6_workedOut_85 : decode cX6_workedOut 85 = .ok (.isub, 1) := by decide +kernel
theorem dX6_workedOut_86 : decode cX6_workedOut 86 = .ok (.aload_n 0, 1) := by decide +kernel
theorem dX6_workedOut_87 : decode cX6_workedOut 87 = .ok (.getfield 15, 3) := by decide +kernel
theorem dX6_workedOut_90 : decode cX6_workedOut 90 = .ok (.iload 4, 2) := by decide +kernel
theorem dX6_workedOut_92 : decode cX6_workedOut 92 = .ok (.iconst 1, 1) := by decide +kernel
theorem dX6_workedOut_93 : decode cX6_workedOut 93 = .ok (.isub, 1) := by decide +kernel
theorem dX6_workedOut_94 : decode cX6_workedOut 94 = .ok (.iaload, 1) := by decide +kernel
theorem dX6_workedOut_95 : decode cX6_workedOut 95 = .ok (.ifCond .ne 7, 3) := by decide +kernel
theorem dX6_workedOut_98 : decode cX6_workedOut 98 = .ok (.iconst 1, 1) := by decide +kernel
theorem dX6_workedOut_99 : decode cX6_workedOut 99 = .ok (.goto 4, 3) := by decide +kernel
theorem dX6_workedOut_102 : decode cX6_workedOut 102 = .ok (.iconst 0, 1) := by decide +kernel
theorem dX6_workedOut_103 : decode cX6_workedOut 103 = .ok (.iastore, 1) := by decide +kernel
theorem dX6_workedOut_104 : decode cX6_workedOut 104 = .ok (.goto 42, 3) := by decide +kernel
theorem dX6_workedOut_107 : decode cX6_workedOut 107 = .ok (.iload 4, 2) := by decide +kernel
theorem dX6_workedOut_109 : decode cX6_workedOut 109 = .ok (.iconst 1, 1) := by decide +kernel
theorem dX6_workedOut_110 : decode cX6_workedOut 110 = .ok (.if_icmp .le 36, 3) := by decide +kernel
theorem dX6_workedOut_113 : decode cX6_workedOut 113 = .ok (.iinc 4 (-1), 3) := by decide +kernel
theorem dX6_workedOut_116 : decode cX6_workedOut 116 = .ok (.aload_n 0, 1) := by decide +kernel
theorem dX6_workedOut_117 : decode cX6_workedOut 117 = .ok (.getfield 15, 3) := by decide +kernel
theorem dX6_workedOut_120 : decode cX6_workedOut 120 = .ok (.iload 4, 2) := by decide +kernel
theorem dX6_workedOut_122 : decode cX6_workedOut 122 = .ok (.iconst 1, 1) := by decide +kernel
theorem dX6_workedOut_123 : decode cX6_workedOut 123 = .ok (.isub, 1) := by decide +kernel
theorem dX6_workedOut_124 : decode cX6_workedOut 124 = .ok (.iload 6, 2) := by decide +kernel
theorem dX6_workedOut_126 : decode cX6_workedOut 126 = .ok (.aload_n 0, 1) := by decide +kernel
theorem dX6_workedOut_127 : decode cX6_workedOut 127 = .ok (.getfield 15, 3) := by decide +kernel
theorem dX6_workedOut_130 : decode cX6_workedOut 130 = .ok (.iload 4, 2) := by decide +kernel
theorem dX6_workedOut_132 : decode cX6_workedOut 132 = .ok (.iconst 1, 1) := by decide +kernel
theorem dX6_workedOut_133 : decode cX6_workedOut 133 = .ok (.isub, 1) := by decide +kernel
theorem dX6_workedOut_134 : decode cX6_workedOut 134 = .ok (.iaload, 1) := by decide +kernel
theorem dX6_workedOut_135 : decode cX6_workedOut 135 = .ok (.aload_n 0, 1) := by decide +kernel
theorem dX6_workedOut_136 : decode cX6_workedOut 136 = .ok (.getfield 15, 3) := by decide +kernel
theorem dX6_workedOut_139 : decode cX6_workedOut 139 = .ok (.iload 4, 2) := by decide +kernel
theorem dX6_workedOut_141 : decode cX6_workedOut 141 = .ok (.iaload, 1) := by decide +kernel
theorem dX6_workedOut_142 : decode cX6_workedOut 142 = .ok (.invokestatic 59, 3) := by decide +kernel
theorem dX6_workedOut_145 : decode cX6_workedOut 145 = .ok (.iastore, 1) := by decide +kernel
theorem dX6_workedOut_146 : decode cX6_workedOut 146 = .ok (.iinc 5 1, 3) := by decide +kernel
theorem dX6_workedOut_149 : decode cX6_workedOut 149 = .ok (.goto (-143), 3) := by decide +kernel
theorem dX6_workedOut_152 : decode cX6_workedOut 152 = .ok (.aload_n 0, 1) := by decide +kernel
theorem dX6_workedOut_153 : decode cX6_workedOut 153 = .ok (.getfield 15, 3) := by decide +kernel
theorem dX6_workedOut_156 : decode cX6_workedOut 156 = .ok (.iconst 0, 1) := by decide +kernel
theorem dX6_workedOut_157 : decode cX6_workedOut 157 = .ok (.iaload, 1) := by decide +kernel
theorem dX6_workedOut_158 : decode cX6_workedOut 158 = .ok (.ireturn, 1) := by decide +kernel
theorem dX6_valueOf_0 : decode cX6_valueOf 0 = .ok (.iload_n 0, 1) := by decide +kernel
theorem dX6_valueOf_1 : decode cX6_valueOf 1 = .ok (.sipush 256, 3) := by decide +kernel
theorem dX6_valueOf_4 : decode cX6_valueOf 4 = .ok (.if_icmp .lt 9, 3) := by decide +kernel
theorem dX6_valueOf_7 : decode cX6_valueOf 7 = .ok (.iload_n 0, 1) := by decide +kernel
theorem dX6_valueOf_8 : decode cX6_valueOf 8 = .ok (.sipush 256, 3) := by decide +kernel
theorem dX6_valueOf_11 : decode cX6_valueOf 11 = .ok (.isub, 1) := by decide +kernel
theorem dX6_valueOf_12 : decode cX6_valueOf 12 = .ok (.ireturn, 1) := by decide +kernel
theorem dX6_valueOf_13 : decode cX6_valueOf 13 = .ok (.iload_n 0, 1) := by decide +kernel
theorem dX6_valueOf_14 : decode cX6_valueOf 14 = .ok (.ifCond .ne 7, 3) := by decide +kernel
theorem dX6_valueOf_17 : decode cX6_valueOf 17 = .ok (.iload_n 1, 1) := by decide +kernel
theorem dX6_valueOf_18 : decode cX6_valueOf 18 = .ok (.goto 13, 3) := by decide +kernel
theorem dX6_valueOf_21 : decode cX6_valueOf 21 = .ok (.iload_n 0, 1) := by decide +kernel
theorem dX6_valueOf_22 : decode cX6_valueOf 22 = .ok (.iconst 1, 1) := by decide +kernel
theorem dX6_valueOf_23 : decode cX6_valueOf 23 = .ok (.if_icmp .ne 7, 3) := by decide +kernel
theorem dX6_valueOf_26 : decode cX6_valueOf 26 = .ok (.iload_n 2, 1) := by decide +kernel
theorem dX6_valueOf_27 : decode cX6_valueOf 27 = .ok (.goto 4, 3) := by decide +kernel
theorem dX6_valueOf_30 : decode cX6_valueOf 30 = .ok (.iload_n 3, 1) := by decide +kernel
theorem dX6_valueOf_31 : decode cX6_valueOf 31 = .ok (.ireturn, 1) := by decide +kernel
theorem dX6_joined_0 : decode cX6_joined 0 = .ok (.iload_n 0, 1) := by decide +kernel
theorem dX6_joined_1 : decode cX6_joined 1 = .ok (.lookupswitch 168 #[(38, 97), (42, 152), (43, 144), (45, 148), (47, 156), (60, 111), (61, 122), (62, 133), (124, 83)], 83) := by decide +kernel
theorem dX6_joined_84 : decode cX6_joined 84 = .ok (.iload_n 1, 1) := by decide +kernel
theorem dX6_joined_85 : decode cX6_joined 85 = .ok (.ifCond .ne 7, 3) := by decide +kernel
theorem dX6_joined_88 : decode cX6_joined 88 = .ok (.iload_n 2, 1) := by decide +kernel
theorem dX6_joined_89 : decode cX6_joined 89 = .ok (.ifCond .eq 7, 3) := by decide +kernel
theorem dX6_joined_92 : decode cX6_joined 92 = .ok (.iconst 1, 1) := by decide +kernel
theorem dX6_joined_93 : decode cX6_joined 93 = .ok (.goto 4, 3) := by decide +kernel
theorem dX6_joined_96 : decode cX6_joined 96 = .ok (.iconst 0, 1) := by decide +kernel
theorem dX6_joined_97 : decode cX6_joined 97 = .ok (.ireturn, 1) := by decide +kernel
theorem dX6_joined_98 : decode cX6_joined 98 = .ok (.iload_n 1, 1) := by decide +kernel
theorem dX6_joined_99 : decode cX6_joined 99 = .ok (.ifCond .eq 11, 3) := by decide +kernel
theorem dX6_joined_102 : decode cX6_joined 102 = .ok (.iload_n 2, 1) := by decide +kernel
theorem dX6_joined_103 : decode cX6_joined 103 = .ok (.ifCond .eq 7, 3) := by decide +kernel
theorem dX6_joined_106 : decode cX6_joined 106 = .ok (.iconst 1, 1) := by decide +kernel
theorem dX6_joined_107 : decode cX6_joined 107 = .ok (.goto 4, 3) := by decide +kernel
theorem dX6_joined_110 : decode cX6_joined 110 = .ok (.iconst 0, 1) := by decide +kernel
theorem dX6_joined_111 : decode cX6_joined 111 = .ok (.ireturn, 1) := by decide +kernel
theorem dX6_joined_112 : decode cX6_joined 112 = .ok (.iload_n 1, 1) := by decide +kernel
theorem dX6_joined_113 : decode cX6_joined 113 = .ok (.iload_n 2, 1) := by decide +kernel
theorem dX6_joined_114 : decode cX6_joined 114 = .ok (.if_icmp .ge 7, 3) := by decide +kernel
theorem dX6_joined_117 : decode cX6_joined 117 = .ok (.iconst 1, 1) := by decide +kernel
theorem dX6_joined_118 : decode cX6_joined 118 = .ok (.goto 4, 3) := by decide +kernel
theorem dX6_joined_121 : decode cX6_joined 121 = .ok (.iconst 0, 1) := by decide +kernel
theorem dX6_joined_122 : decode cX6_joined 122 = .ok (.ireturn, 1) := by decide +kernel
theorem dX6_joined_123 : decode cX6_joined 123 = .ok (.iload_n 1, 1) := by decide +kernel
theorem dX6_joined_124 : decode cX6_joined 124 = .ok (.iload_n 2, 1) := by decide +kernel
theorem dX6_joined_125 : decode cX6_joined 125 = .ok (.if_icmp .ne 7, 3) := by decide +kernel
theorem dX6_joined_128 : decode cX6_joined 128 = .ok (.iconst 1, 1) := by decide +kernel
theorem dX6_joined_129 : decode cX6_joined 129 = .ok (.goto 4, 3) := by decide +kernel
theorem dX6_joined_132 : decode cX6_joined 132 = .ok (.iconst 0, 1) := by decide +kernel
theorem dX6_joined_133 : decode cX6_joined 133 = .ok (.ireturn, 1) := by decide +kernel
theorem dX6_joined_134 : decode cX6_joined 134 = .ok (.iload_n 1, 1) := by decide +kernel
theorem dX6_joined_135 : decode cX6_joined 135 = .ok (.iload_n 2, 1) := by decide +kernel
theorem dX6_joined_136 : decode cX6_joined 136 = .ok (.if_icmp .le 7, 3) := by decide +kernel
theorem dX6_joined_139 : decode cX6_joined 139 = .ok (.iconst 1, 1) := by decide +kernel
theorem dX6_joined_140 : decode cX6_joined 140 = .ok (.goto 4, 3) := by decide +kernel
theorem dX6_joined_143 : decode cX6_joined 143 = .ok (.iconst 0, 1) := by decide +kernel
theorem dX6_joined_144 : decode cX6_joined 144 = .ok (.ireturn, 1) := by decide +kernel
theorem dX6_joined_145 : decode cX6_joined 145 = .ok (.iload_n 1, 1) := by decide +kernel
theorem dX6_joined_146 : decode cX6_joined 146 = .ok (.iload_n 2, 1) := by decide +kernel
theorem dX6_joined_147 : decode cX6_joined 147 = .ok (.iadd, 1) := by decide +kernel
theorem dX6_joined_148 : decode cX6_joined 148 = .ok (.ireturn, 1) := by decide +kernel
theorem dX6_joined_149 : decode cX6_joined 149 = .ok (.iload_n 1, 1) := by decide +kernel
theorem dX6_joined_150 : decode cX6_joined 150 = .ok (.iload_n 2, 1) := by decide +kernel
theorem dX6_joined_151 : decode cX6_joined 151 = .ok (.isub, 1) := by decide +kernel
theorem dX6_joined_152 : decode cX6_joined 152 = .ok (.ireturn, 1) := by decide +kernel
theorem dX6_joined_153 : decode cX6_joined 153 = .ok (.iload_n 1, 1) := by decide +kernel
theorem dX6_joined_154 : decode cX6_joined 154 = .ok (.iload_n 2, 1) := by decide +kernel
theorem dX6_joined_155 : decode cX6_joined 155 = .ok (.imul, 1) := by decide +kernel
theorem dX6_joined_156 : decode cX6_joined 156 = .ok (.ireturn, 1) := by decide +kernel
theorem dX6_joined_157 : decode cX6_joined 157 = .ok (.iload_n 2, 1) := by decide +kernel
theorem dX6_joined_158 : decode cX6_joined 158 = .ok (.ifCond .ne 7, 3) := by decide +kernel
theorem dX6_joined_161 : decode cX6_joined 161 = .ok (.iconst 0, 1) := by decide +kernel
theorem dX6_joined_162 : decode cX6_joined 162 = .ok (.goto 6, 3) := by decide +kernel
theorem dX6_joined_165 : decode cX6_joined 165 = .ok (.iload_n 1, 1) := by decide +kernel
theorem dX6_joined_166 : decode cX6_joined 166 = .ok (.iload_n 2, 1) := by decide +kernel
theorem dX6_joined_167 : decode cX6_joined 167 = .ok (.idiv, 1) := by decide +kernel
theorem dX6_joined_168 : decode cX6_joined 168 = .ok (.ireturn, 1) := by decide +kernel
theorem dX6_joined_169 : decode cX6_joined 169 = .ok (.iload_n 2, 1) := by decide +kernel
theorem dX6_joined_170 : decode cX6_joined 170 = .ok (.ifCond .ne 7, 3) := by decide +kernel
theorem dX6_joined_173 : decode cX6_joined 173 = .ok (.iconst 0, 1) := by decide +kernel
theorem dX6_joined_174 : decode cX6_joined 174 = .ok (.goto 6, 3) := by decide +kernel
theorem dX6_joined_177 : decode cX6_joined 177 = .ok (.iload_n 1, 1) := by decide +kernel
theorem dX6_joined_178 : decode cX6_joined 178 = .ok (.iload_n 2, 1) := by decide +kernel
theorem dX6_joined_179 : decode cX6_joined 179 = .ok (.irem, 1) := by decide +kernel
theorem dX6_joined_180 : decode cX6_joined 180 = .ok (.ireturn, 1) := by decide +kernel
theorem dX6_read_0 : decode cX6_read 0 = .ok (.aload_n 0, 1) := by decide +kernel
theorem dX6_read_1 : decode cX6_read 1 = .ok (.iconst 0, 1) := by decide +kernel
theorem dX6_read_2 : decode cX6_read 2 = .ok (.putfield 62, 3) := by decide +kernel
theorem dX6_read_5 : decode cX6_read 5 = .ok (.aload_n 0, 1) := by decide +kernel
theorem dX6_read_6 : decode cX6_read 6 = .ok (.iconst 0, 1) := by decide +kernel
theorem dX6_read_7 : decode cX6_read 7 = .ok (.putfield 65, 3) := by decide +kernel
theorem dX6_read_10 : decode cX6_read 10 = .ok (.aload_n 0, 1) := by decide +kernel
theorem dX6_read_11 : decode cX6_read 11 = .ok (.iconst 0, 1) := by decide +kernel
theorem dX6_read_12 : decode cX6_read 12 = .ok (.putfield 68, 3) := by decide +kernel
theorem dX6_read_15 : decode cX6_read 15 = .ok (.iload_n 2, 1) := by decide +kernel
theorem dX6_read_16 : decode cX6_read 16 = .ok (.aload_n 1, 1) := by decide +kernel
theorem dX6_read_17 : decode cX6_read 17 = .ok (.arraylength, 1) := by decide +kernel
theorem dX6_read_18 : decode cX6_read 18 = .ok (.invokestatic 36, 3) := by decide +kernel
theorem dX6_read_21 : decode cX6_read 21 = .ok (.istore_n 3, 1) := by decide +kernel
theorem dX6_read_22 : decode cX6_read 22 = .ok (.aload_n 0, 1) := by decide +kernel
theorem dX6_read_23 : decode cX6_read 23 = .ok (.aload_n 1, 1) := by decide +kernel
theorem dX6_read_24 : decode cX6_read 24 = .ok (.iload_n 3, 1) := by decide +kernel
theorem dX6_read_25 : decode cX6_read 25 = .ok (.iconst 0, 1) := by decide +kernel
theorem dX6_read_26 : decode cX6_read 26 = .ok (.iconst 0, 1) := by decide +kernel
theorem dX6_read_27 : decode cX6_read 27 = .ok (.invokevirtual 72, 3) := by decide +kernel
theorem dX6_read_30 : decode cX6_read 30 = .ok (.aload_n 0, 1) := by decide +kernel
theorem dX6_read_31 : decode cX6_read 31 = .ok (.getfield 68, 3) := by decide +kernel
theorem dX6_read_34 : decode cX6_read 34 = .ok (.ifCond .ne 11, 3) := by decide +kernel
theorem dX6_read_37 : decode cX6_read 37 = .ok (.aload_n 0, 1) := by decide +kernel
theorem dX6_read_38 : decode cX6_read 38 = .ok (.getfield 62, 3) := by decide +kernel
theorem dX6_read_41 : decode cX6_read 41 = .ok (.iload_n 3, 1) := by decide +kernel
theorem dX6_read_42 : decode cX6_read 42 = .ok (.if_icmp .ge 8, 3) := by decide +kernel
theorem dX6_read_45 : decode cX6_read 45 = .ok (.aload_n 0, 1) := by decide +kernel
theorem dX6_read_46 : decode cX6_read 46 = .ok (.getfield 62, 3) := by decide +kernel
theorem dX6_read_49 : decode cX6_read 49 = .ok (.ireturn, 1) := by decide +kernel
theorem dX6_read_50 : decode cX6_read 50 = .ok (.aload_n 0, 1) := by decide +kernel
theorem dX6_read_51 : decode cX6_read 51 = .ok (.aload_n 0, 1) := by decide +kernel
theorem dX6_read_52 : decode cX6_read 52 = .ok (.getfield 18, 3) := by decide +kernel
theorem dX6_read_55 : decode cX6_read 55 = .ok (.aload_n 0, 1) := by decide +kernel
theorem dX6_read_56 : decode cX6_read 56 = .ok (.getfield 65, 3) := by decide +kernel
theorem dX6_read_59 : decode cX6_read 59 = .ok (.invokevirtual 32, 3) := by decide +kernel
theorem dX6_read_62 : decode cX6_read 62 = .ok (.iconst (-1), 1) := by decide +kernel
theorem dX6_read_63 : decode cX6_read 63 = .ok (.ireturn, 1) := by decide +kernel
theorem dX6_readLevel_0 : decode cX6_readLevel 0 = .ok (.iload_n 3, 1) := by decide +kernel
theorem dX6_readLevel_1 : decode cX6_readLevel 1 = .ok (.iconst 5, 1) := by decide +kernel
theorem dX6_readLevel_2 : decode cX6_readLevel 2 = .ok (.if_icmp .lt 12, 3) := by decide +kernel
theorem dX6_readLevel_5 : decode cX6_readLevel 5 = .ok (.aload_n 0, 1) := by decide +kernel
theorem dX6_readLevel_6 : decode cX6_readLevel 6 = .ok (.aload_n 1, 1) := by decide +kernel
theorem dX6_readLevel_7 : decode cX6_readLevel 7 = .ok (.iload_n 2, 1) := by decide +kernel
theorem dX6_readLevel_8 : decode cX6_readLevel 8 = .ok (.iload 4, 2) := by decide +kernel
theorem dX6_readLevel_10 : decode cX6_readLevel 10 = .ok (.invokevirtual 76, 3) := by decide +kernel
theorem dX6_readLevel_13 : decode cX6_readLevel 13 = .ok (.return_, 1) := by decide +kernel
theorem dX6_readLevel_14 : decode cX6_readLevel 14 = .ok (.aload_n 0, 1) := by decide +kernel
theorem dX6_readLevel_15 : decode cX6_readLevel 15 = .ok (.aload_n 1, 1) := by decide +kernel
theorem dX6_readLevel_16 : decode cX6_readLevel 16 = .ok (.iload_n 2, 1) := by decide +kernel
theorem dX6_readLevel_17 : decode cX6_readLevel 17 = .ok (.iload_n 3, 1) := by decide +kernel
theorem dX6_readLevel_18 : decode cX6_readLevel 18 = .ok (.iconst 1, 1) := by decide +kernel
theorem dX6_readLevel_19 : decode cX6_readLevel 19 = .ok (.iadd, 1) := by decide +kernel
theorem dX6_readLevel_20 : decode cX6_readLevel 20 = .ok (.iload 4, 2) := by decide +kernel
theorem dX6_readLevel_22 : decode cX6_readLevel 22 = .ok (.invokevirtual 72, 3) := by decide +kernel
theorem dX6_readLevel_25 : decode cX6_readLevel 25 = .ok (.iload_n 3, 1) := by decide +kernel
theorem dX6_readLevel_26 : decode cX6_readLevel 26 = .ok (.iconst 2, 1) := by decide +kernel
theorem dX6_readLevel_27 : decode cX6_readLevel 27 = .ok (.if_icmp .ne 7, 3) := by decide +kernel
theorem dX6_readLevel_30 : decode cX6_readLevel 30 = .ok (.iconst 1, 1) := by decide +kernel
theorem dX6_readLevel_31 : decode cX6_readLevel 31 = .ok (.goto 5, 3) := by decide +kernel
theorem dX6_readLevel_34 : decode cX6_readLevel 34 = .ok (.bipush 50, 2) := by decide +kernel
theorem dX6_readLevel_36 : decode cX6_readLevel 36 = .ok (.istore 5, 2) := by decide +kernel
theorem dX6_readLevel_38 : decode cX6_readLevel 38 = .ok (.iconst 0, 1) := by decide +kernel
theorem dX6_readLevel_39 : decode cX6_readLevel 39 = .ok (.istore 6, 2) := by decide +kernel
theorem dX6_readLevel_41 : decode cX6_readLevel 41 = .ok (.iload 6, 2) := by decide +kernel
theorem dX6_readLevel_43 : decode cX6_readLevel 43 = .ok (.iload 5, 2) := by decide +kernel
theorem dX6_readLevel_45 : decode cX6_readLevel 45 = .ok (.if_icmp .ge 64, 3) := by decide +kernel
theorem dX6_readLevel_48 : decode cX6_readLevel 48 = .ok (.aload_n 0, 1) := by decide +kernel
theorem dX6_readLevel_49 : decode cX6_readLevel 49 = .ok (.getfield 68, 3) := by decide +kernel
theorem dX6_readLevel_52 : decode cX6_readLevel 52 = .ok (.ifCond .ne 57, 3) := by decide +kernel
theorem dX6_readLevel_55 : decode cX6_readLevel 55 = .ok (.aload_n 1, 1) := by decide +kernel
theorem dX6_readLevel_56 : decode cX6_readLevel 56 = .ok (.iload_n 2, 1) := by decide +kernel
theorem dX6_readLevel_57 : decode cX6_readLevel 57 = .ok (.aload_n 0, 1) := by decide +kernel
theorem dX6_readLevel_58 : decode cX6_readLevel 58 = .ok (.getfield 62, 3) := by decide +kernel
theorem dX6_readLevel_61 : decode cX6_readLevel 61 = .ok (.invokestatic 80, 3) := by decide +kernel
theorem dX6_readLevel_64 : decode cX6_readLevel 64 = .ok (.istore 7, 2) := by decide +kernel
theorem dX6_readLevel_66 : decode cX6_readLevel 66 = .ok (.iload 7, 2) := by decide +kernel
theorem dX6_readLevel_68 : decode cX6_readLevel 68 = .ok (.invokestatic 84, 3) := by decide +kernel
theorem dX6_readLevel_71 : decode cX6_readLevel 71 = .ok (.iload_n 3, 1) := by decide +kernel
theorem dX6_readLevel_72 : decode cX6_readLevel 72 = .ok (.if_icmp .eq 4, 3) := by decide +kernel
theorem dX6_readLevel_75 : decode cX6_readLevel 75 = .ok (.return_, 1) := by decide +kernel
theorem dX6_readLevel_76 : decode cX6_readLevel 76 = .ok (.aload_n 0, 1) := by decide +kernel
theorem dX6_readLevel_77 : decode cX6_readLevel 77 = .ok (.dup, 1) := by decide +kernel
theorem dX6_readLevel_78 : decode cX6_readLevel 78 = .ok (.getfield 62, 3) := by decide +kernel
theorem dX6_readLevel_81 : decode cX6_readLevel 81 = .ok (.iconst 1, 1) := by decide +kernel
theorem dX6_readLevel_82 : decode cX6_readLevel 82 = .ok (.iadd, 1) := by decide +kernel
theorem dX6_readLevel_83 : decode cX6_readLevel 83 = .ok (.putfield 62, 3) := by decide +kernel
theorem dX6_readLevel_86 : decode cX6_readLevel 86 = .ok (.aload_n 0, 1) := by decide +kernel
theorem dX6_readLevel_87 : decode cX6_readLevel 87 = .ok (.aload_n 1, 1) := by decide +kernel
theorem dX6_readLevel_88 : decode cX6_readLevel 88 = .ok (.iload_n 2, 1) := by decide +kernel
theorem dX6_readLevel_89 : decode cX6_readLevel 89 = .ok (.iload_n 3, 1) := by decide +kernel
theorem dX6_readLevel_90 : decode cX6_readLevel 90 = .ok (.iconst 1, 1) := by decide +kernel
theorem dX6_readLevel_91 : decode cX6_readLevel 91 = .ok (.iadd, 1) := by decide +kernel
theorem dX6_readLevel_92 : decode cX6_readLevel 92 = .ok (.iload 4, 2) := by decide +kernel
theorem dX6_readLevel_94 : decode cX6_readLevel 94 = .ok (.invokevirtual 72, 3) := by decide +kernel
theorem dX6_readLevel_97 : decode cX6_readLevel 97 = .ok (.aload_n 0, 1) := by decide +kernel
theorem dX6_readLevel_98 : decode cX6_readLevel 98 = .ok (.iload 7, 2) := by decide +kernel
theorem dX6_readLevel_100 : decode cX6_readLevel 100 = .ok (.invokevirtual 88, 3) := by decide +kernel
theorem dX6_readLevel_103 : decode cX6_readLevel 103 = .ok (.iinc 6 1, 3) := by decide +kernel
theorem dX6_readLevel_106 : decode cX6_readLevel 106 = .ok (.goto (-65), 3) := by decide +kernel
theorem dX6_readLevel_109 : decode cX6_readLevel 109 = .ok (.return_, 1) := by decide +kernel
theorem dX6_readPart_0 : decode cX6_readPart 0 = .ok (.aload_n 1, 1) := by decide +kernel
theorem dX6_readPart_1 : decode cX6_readPart 1 = .ok (.iload_n 2, 1) := by decide +kernel
theorem dX6_readPart_2 : decode cX6_readPart 2 = .ok (.aload_n 0, 1) := by decide +kernel
theorem dX6_readPart_3 : decode cX6_readPart 3 = .ok (.getfield 62, 3) := by decide +kernel
theorem dX6_readPart_6 : decode cX6_readPart 6 = .ok (.invokestatic 80, 3) := by decide +kernel
theorem dX6_readPart_9 : decode cX6_readPart 9 = .ok (.istore 4, 2) := by decide +kernel
theorem dX6_readPart_11 : decode cX6_readPart 11 = .ok (.iload 4, 2) := by decide +kernel
theorem dX6_readPart_13 : decode cX6_readPart 13 = .ok (.ifCond .ge 7, 3) := by decide +kernel
theorem dX6_readPart_16 : decode cX6_readPart 16 = .ok (.iconst (-1), 1) := by decide +kernel
theorem dX6_readPart_17 : decode cX6_readPart 17 = .ok (.goto 13, 3) := by decide +kernel
theorem dX6_readPart_20 : decode cX6_readPart 20 = .ok (.aload_n 0, 1) := by decide +kernel
theorem dX6_readPart_21 : decode cX6_readPart 21 = .ok (.getfield 21, 3) := by decide +kernel
theorem dX6_readPart_24 : decode cX6_readPart 24 = .ok (.iload 4, 2) := by decide +kernel
theorem dX6_readPart_26 : decode cX6_readPart 26 = .ok (.i2c, 1) := by decide +kernel
theorem dX6_readPart_27 : decode cX6_readPart 27 = .ok (.invokevirtual 92, 3) := by decide +kernel
theorem dX6_readPart_30 : decode cX6_readPart 30 = .ok (.istore 5, 2) := by decide +kernel
theorem dX6_readPart_32 : decode cX6_readPart 32 = .ok (.iload 4, 2) := by decide +kernel
theorem dX6_readPart_34 : decode cX6_readPart 34 = .ok (.invokestatic 97, 3) := by decide +kernel
theorem dX6_readPart_37 : decode cX6_readPart 37 = .ok (.ifCond .eq 12, 3) := by decide +kernel
theorem dX6_readPart_40 : decode cX6_readPart 40 = .ok (.aload_n 0, 1) := by decide +kernel
theorem dX6_readPart_41 : decode cX6_readPart 41 = .ok (.aload_n 1, 1) := by decide +kernel
theorem dX6_readPart_42 : decode cX6_readPart 42 = .ok (.iload_n 2, 1) := by decide +kernel
theorem dX6_readPart_43 : decode cX6_readPart 43 = .ok (.invokevirtual 101, 3) := by decide +kernel
theorem dX6_readPart_46 : decode cX6_readPart 46 = .ok (.goto 113, 3) := by decide +kernel
theorem dX6_readPart_49 : decode cX6_readPart 49 = .ok (.iload 5, 2) := by decide +kernel
theorem dX6_readPart_51 : decode cX6_readPart 51 = .ok (.ifCond .lt 22, 3) := by decide +kernel
theorem dX6_readPart_54 : decode cX6_readPart 54 = .ok (.aload_n 0, 1) := by decide +kernel
theorem dX6_readPart_55 : decode cX6_readPart 55 = .ok (.dup, 1) := by decide +kernel
theorem dX6_readPart_56 : decode cX6_readPart 56 = .ok (.getfield 62, 3) := by decide +kernel
theorem dX6_readPart_59 : decode cX6_readPart 59 = .ok (.iconst 1, 1) := by decide +kernel
theorem dX6_readPart_60 : decode cX6_readPart 60 = .ok (.iadd, 1) := by decide +kernel
theorem dX6_readPart_61 : decode cX6_readPart 61 = .ok (.putfield 62, 3) := by decide +kernel
theorem dX6_readPart_64 : decode cX6_readPart 64 = .ok (.aload_n 0, 1) := by decide +kernel
theorem dX6_readPart_65 : decode cX6_readPart 65 = .ok (.iload 5, 2) := by decide +kernel
theorem dX6_readPart_67 : decode cX6_readPart 67 = .ok (.invokevirtual 88, 3) := by decide +kernel
theorem dX6_readPart_70 : decode cX6_readPart 70 = .ok (.goto 89, 3) := by decide +kernel
theorem dX6_readPart_73 : decode cX6_readPart 73 = .ok (.iload 4, 2) := by decide +kernel
theorem dX6_readPart_75 : decode cX6_readPart 75 = .ok (.bipush 33, 2) := by decide +kernel
theorem dX6_readPart_77 : decode cX6_readPart 77 = .ok (.if_icmp .ne 36, 3) := by decide +kernel
theorem dX6_readPart_80 : decode cX6_readPart 80 = .ok (.iload_n 3, 1) := by decide +kernel
theorem dX6_readPart_81 : decode cX6_readPart 81 = .ok (.iconst 5, 1) := by decide +kernel
theorem dX6_readPart_82 : decode cX6_readPart 82 = .ok (.if_icmp .ge 31, 3) := by decide +kernel
theorem dX6_readPart_85 : decode cX6_readPart 85 = .ok (.aload_n 0, 1) := by decide +kernel
theorem dX6_readPart_86 : decode cX6_readPart 86 = .ok (.dup, 1) := by decide +kernel
theorem dX6_readPart_87 : decode cX6_readPart 87 = .ok (.getfield 62, 3) := by decide +kernel
theorem dX6_readPart_90 : decode cX6_readPart 90 = .ok (.iconst 1, 1) := by decide +kernel
theorem dX6_readPart_91 : decode cX6_readPart 91 = .ok (.iadd, 1) := by decide +kernel
theorem dX6_readPart_92 : decode cX6_readPart 92 = .ok (.putfield 62, 3) := by decide +kernel
theorem dX6_readPart_95 : decode cX6_readPart 95 = .ok (.aload_n 0, 1) := by decide +kernel
theorem dX6_readPart_96 : decode cX6_readPart 96 = .ok (.aload_n 1, 1) := by decide +kernel
theorem dX6_readPart_97 : decode cX6_readPart 97 = .ok (.iload_n 2, 1) := by decide +kernel
theorem dX6_readPart_98 : decode cX6_readPart 98 = .ok (.iload_n 3, 1) := by decide +kernel
theorem dX6_readPart_99 : decode cX6_readPart 99 = .ok (.iconst 1, 1) := by decide +kernel
theorem dX6_readPart_100 : decode cX6_readPart 100 = .ok (.iadd, 1) := by decide +kernel
theorem dX6_readPart_101 : decode cX6_readPart 101 = .ok (.invokevirtual 76, 3) := by decide +kernel
theorem dX6_readPart_104 : decode cX6_readPart 104 = .ok (.aload_n 0, 1) := by decide +kernel
theorem dX6_readPart_105 : decode cX6_readPart 105 = .ok (.iload 4, 2) := by decide +kernel
theorem dX6_readPart_107 : decode cX6_readPart 107 = .ok (.invokevirtual 88, 3) := by decide +kernel
theorem dX6_readPart_110 : decode cX6_readPart 110 = .ok (.goto 49, 3) := by decide +kernel
theorem dX6_readPart_113 : decode cX6_readPart 113 = .ok (.iload 4, 2) := by decide +kernel
theorem dX6_readPart_115 : decode cX6_readPart 115 = .ok (.bipush 40, 2) := by decide +kernel
theorem dX6_readPart_117 : decode cX6_readPart 117 = .ok (.if_icmp .ne 37, 3) := by decide +kernel
theorem dX6_readPart_120 : decode cX6_readPart 120 = .ok (.iload_n 3, 1) := by decide +kernel
theorem dX6_readPart_121 : decode cX6_readPart 121 = .ok (.iconst 5, 1) := by decide +kernel
theorem dX6_readPart_122 : decode cX6_readPart 122 = .ok (.if_icmp .ge 32, 3) := by decide +kernel
theorem dX6_readPart_125 : decode cX6_readPart 125 = .ok (.aload_n 0, 1) := by decide +kernel
theorem dX6_readPart_126 : decode cX6_readPart 126 = .ok (.dup, 1) := by decide +kernel
theorem dX6_readPart_127 : decode cX6_readPart 127 = .ok (.getfield 62, 3) := by decide +kernel
theorem dX6_readPart_130 : decode cX6_readPart 130 = .ok (.iconst 1, 1) := by decide +kernel
theorem dX6_readPart_131 : decode cX6_readPart 131 = .ok (.iadd, 1) := by decide +kernel
theorem dX6_readPart_132 : decode cX6_readPart 132 = .ok (.putfield 62, 3) := by decide +kernel
theorem dX6_readPart_135 : decode cX6_readPart 135 = .ok (.aload_n 0, 1) := by decide +kernel
theorem dX6_readPart_136 : decode cX6_readPart 136 = .ok (.aload_n 1, 1) := by decide +kernel
theorem dX6_readPart_137 : decode cX6_readPart 137 = .ok (.iload_n 2, 1) := by decide +kernel
theorem dX6_readPart_138 : decode cX6_readPart 138 = .ok (.iconst 0, 1) := by decide +kernel
theorem dX6_readPart_139 : decode cX6_readPart 139 = .ok (.iload_n 3, 1) := by decide +kernel
theorem dX6_readPart_140 : decode cX6_readPart 140 = .ok (.iconst 1, 1) := by decide +kernel
theorem dX6_readPart_141 : decode cX6_readPart 141 = .ok (.iadd, 1) := by decide +kernel
theorem dX6_readPart_142 : decode cX6_readPart 142 = .ok (.invokevirtual 72, 3) := by decide +kernel
theorem dX6_readPart_145 : decode cX6_readPart 145 = .ok (.aload_n 0, 1) := by decide +kernel
theorem dX6_readPart_146 : decode cX6_readPart 146 = .ok (.aload_n 1, 1) := by decide +kernel
theorem dX6_readPart_147 : decode cX6_readPart 147 = .ok (.iload_n 2, 1) := by decide +kernel
theorem dX6_readPart_148 : decode cX6_readPart 148 = .ok (.invokevirtual 104, 3) := by decide +kernel
theorem dX6_readPart_151 : decode cX6_readPart 151 = .ok (.goto 8, 3) := by decide +kernel
theorem dX6_readPart_154 : decode cX6_readPart 154 = .ok (.aload_n 0, 1) := by decide +kernel
theorem dX6_readPart_155 : decode cX6_readPart 155 = .ok (.iconst 1, 1) := by decide +kernel
theorem dX6_readPart_156 : decode cX6_readPart 156 = .ok (.putfield 68, 3) := by decide +kernel
theorem dX6_readPart_159 : decode cX6_readPart 159 = .ok (.return_, 1) := by decide +kernel
theorem dX6_readClosing_0 : decode cX6_readClosing 0 = .ok (.aload_n 0, 1) := by decide +kernel
theorem dX6_readClosing_1 : decode cX6_readClosing 1 = .ok (.getfield 68, 3) := by decide +kernel
theorem dX6_readClosing_4 : decode cX6_readClosing 4 = .ok (.ifCond .ne 30, 3) := by decide +kernel
theorem dX6_readClosing_7 : decode cX6_readClosing 7 = .ok (.aload_n 1, 1) := by decide +kernel
theorem dX6_readClosing_8 : decode cX6_readClosing 8 = .ok (.iload_n 2, 1) := by decide +kernel
theorem dX6_readClosing_9 : decode cX6_readClosing 9 = .ok (.aload_n 0, 1) := by decide +kernel
theorem dX6_readClosing_10 : decode cX6_readClosing 10 = .ok (.getfield 62, 3) := by decide +kernel
theorem dX6_readClosing_13 : decode cX6_readClosing 13 = .ok (.invokestatic 80, 3) := by decide +kernel
theorem dX6_readClosing_16 : decode cX6_readClosing 16 = .ok (.bipush 41, 2) := by decide +kernel
theorem dX6_readClosing_18 : decode cX6_readClosing 18 = .ok (.if_icmp .ne 16, 3) := by decide +kernel
theorem dX6_readClosing_21 : decode cX6_readClosing 21 = .ok (.aload_n 0, 1) := by decide +kernel
theorem dX6_readClosing_22 : decode cX6_readClosing 22 = .ok (.dup, 1) := by decide +kernel
theorem dX6_readClosing_23 : decode cX6_readClosing 23 = .ok (.getfield 62, 3) := by decide +kernel
theorem dX6_readClosing_26 : decode cX6_readClosing 26 = .ok (.iconst 1, 1) := by decide +kernel
theorem dX6_readClosing_27 : decode cX6_readClosing 27 = .ok (.iadd, 1) := by decide +kernel
theorem dX6_readClosing_28 : decode cX6_readClosing 28 = .ok (.putfield 62, 3) := by decide +kernel
theorem dX6_readClosing_31 : decode cX6_readClosing 31 = .ok (.goto 8, 3) := by decide +kernel
theorem dX6_readClosing_34 : decode cX6_readClosing 34 = .ok (.aload_n 0, 1) := by decide +kernel
theorem dX6_readClosing_35 : decode cX6_readClosing 35 = .ok (.iconst 1, 1) := by decide +kernel
theorem dX6_readClosing_36 : decode cX6_readClosing 36 = .ok (.putfield 68, 3) := by decide +kernel
theorem dX6_readClosing_39 : decode cX6_readClosing 39 = .ok (.return_, 1) := by decide +kernel
theorem dX6_readNumber_0 : decode cX6_readNumber 0 = .ok (.iconst 0, 1) := by decide +kernel
theorem dX6_readNumber_1 : decode cX6_readNumber 1 = .ok (.istore_n 3, 1) := by decide +kernel
theorem dX6_readNumber_2 : decode cX6_readNumber 2 = .ok (.iconst 0, 1) := by decide +kernel
theorem dX6_readNumber_3 : decode cX6_readNumber 3 = .ok (.istore 4, 2) := by decide +kernel
theorem dX6_readNumber_5 : decode cX6_readNumber 5 = .ok (.iload 4, 2) := by decide +kernel
theorem dX6_readNumber_7 : decode cX6_readNumber 7 = .ok (.iconst 4, 1) := by decide +kernel
theorem dX6_readNumber_8 : decode cX6_readNumber 8 = .ok (.if_icmp .ge 52, 3) := by decide +kernel
theorem dX6_readNumber_11 : decode cX6_readNumber 11 = .ok (.aload_n 1, 1) := by decide +kernel
theorem dX6_readNumber_12 : decode cX6_readNumber 12 = .ok (.iload_n 2, 1) := by decide +kernel
theorem dX6_readNumber_13 : decode cX6_readNumber 13 = .ok (.aload_n 0, 1) := by decide +kernel
theorem dX6_readNumber_14 : decode cX6_readNumber 14 = .ok (.getfield 62, 3) := by decide +kernel
theorem dX6_readNumber_17 : decode cX6_readNumber 17 = .ok (.invokestatic 80, 3) := by decide +kernel
theorem dX6_readNumber_20 : decode cX6_readNumber 20 = .ok (.invokestatic 97, 3) := by decide +kernel
theorem dX6_readNumber_23 : decode cX6_readNumber 23 = .ok (.ifCond .eq 37, 3) := by decide +kernel
theorem dX6_readNumber_26 : decode cX6_readNumber 26 = .ok (.bipush 10, 2) := by decide +kernel
theorem dX6_readNumber_28 : decode cX6_readNumber 28 = .ok (.iload_n 3, 1) := by decide +kernel
theorem dX6_readNumber_29 : decode cX6_readNumber 29 = .ok (.imul, 1) := by decide +kernel
theorem dX6_readNumber_30 : decode cX6_readNumber 30 = .ok (.aload_n 1, 1) := by decide +kernel
theorem dX6_readNumber_31 : decode cX6_readNumber 31 = .ok (.iload_n 2, 1) := by decide +kernel
theorem dX6_readNumber_32 : decode cX6_readNumber 32 = .ok (.aload_n 0, 1) := by decide +kernel
theorem dX6_readNumber_33 : decode cX6_readNumber 33 = .ok (.getfield 62, 3) := by decide +kernel
theorem dX6_readNumber_36 : decode cX6_readNumber 36 = .ok (.invokestatic 80, 3) := by decide +kernel
theorem dX6_readNumber_39 : decode cX6_readNumber 39 = .ok (.iadd, 1) := by decide +kernel
theorem dX6_readNumber_40 : decode cX6_readNumber 40 = .ok (.bipush 48, 2) := by decide +kernel
theorem dX6_readNumber_42 : decode cX6_readNumber 42 = .ok (.isub, 1) := by decide +kernel
theorem dX6_readNumber_43 : decode cX6_readNumber 43 = .ok (.istore_n 3, 1) := by decide +kernel
theorem dX6_readNumber_44 : decode cX6_readNumber 44 = .ok (.aload_n 0, 1) := by decide +kernel
theorem dX6_readNumber_45 : decode cX6_readNumber 45 = .ok (.dup, 1) := by decide +kernel
theorem dX6_readNumber_46 : decode cX6_readNumber 46 = .ok (.getfield 62, 3) := by decide +kernel
theorem dX6_readNumber_49 : decode cX6_readNumber 49 = .ok (.iconst 1, 1) := by decide +kernel
theorem dX6_readNumber_50 : decode cX6_readNumber 50 = .ok (.iadd, 1) := by decide +kernel
theorem dX6_readNumber_51 : decode cX6_readNumber 51 = .ok (.putfield 62, 3) := by decide +kernel
theorem dX6_readNumber_54 : decode cX6_readNumber 54 = .ok (.iinc 4 1, 3) := by decide +kernel
theorem dX6_readNumber_57 : decode cX6_readNumber 57 = .ok (.goto (-52), 3) := by decide +kernel
theorem dX6_readNumber_60 : decode cX6_readNumber 60 = .ok (.aload_n 0, 1) := by decide +kernel
theorem dX6_readNumber_61 : decode cX6_readNumber 61 = .ok (.sipush 256, 3) := by decide +kernel
theorem dX6_readNumber_64 : decode cX6_readNumber 64 = .ok (.iload_n 3, 1) := by decide +kernel
theorem dX6_readNumber_65 : decode cX6_readNumber 65 = .ok (.iadd, 1) := by decide +kernel
theorem dX6_readNumber_66 : decode cX6_readNumber 66 = .ok (.invokevirtual 88, 3) := by decide +kernel
theorem dX6_readNumber_69 : decode cX6_readNumber 69 = .ok (.return_, 1) := by decide +kernel
theorem dX6_write_0 : decode cX6_write 0 = .ok (.aload_n 0, 1) := by decide +kernel
theorem dX6_write_1 : decode cX6_write 1 = .ok (.getfield 65, 3) := by decide +kernel
theorem dX6_write_4 : decode cX6_write 4 = .ok (.bipush 50, 2) := by decide +kernel
theorem dX6_write_6 : decode cX6_write 6 = .ok (.if_icmp .ge 23, 3) := by decide +kernel
theorem dX6_write_9 : decode cX6_write 9 = .ok (.aload_n 0, 1) := by decide +kernel
theorem dX6_write_10 : decode cX6_write 10 = .ok (.getfield 18, 3) := by decide +kernel
theorem dX6_write_13 : decode cX6_write 13 = .ok (.aload_n 0, 1) := by decide +kernel
theorem dX6_write_14 : decode cX6_write 14 = .ok (.getfield 65, 3) := by decide +kernel
theorem dX6_write_17 : decode cX6_write 17 = .ok (.iload_n 1, 1) := by decide +kernel
theorem dX6_write_18 : decode cX6_write 18 = .ok (.iastore, 1) := by decide +kernel
theorem dX6_write_19 : decode cX6_write 19 = .ok (.aload_n 0, 1) := by decide +kernel
theorem dX6_write_20 : decode cX6_write 20 = .ok (.dup, 1) := by decide +kernel
theorem dX6_write_21 : decode cX6_write 21 = .ok (.getfield 65, 3) := by decide +kernel
theorem dX6_write_24 : decode cX6_write 24 = .ok (.iconst 1, 1) := by decide +kernel
theorem dX6_write_25 : decode cX6_write 25 = .ok (.iadd, 1) := by decide +kernel
theorem dX6_write_26 : decode cX6_write 26 = .ok (.putfield 65, 3) := by decide +kernel
theorem dX6_write_29 : decode cX6_write 29 = .ok (.return_, 1) := by decide +kernel
theorem dX6_signAt_0 : decode cX6_signAt 0 = .ok (.iload_n 2, 1) := by decide +kernel
theorem dX6_signAt_1 : decode cX6_signAt 1 = .ok (.ifCond .lt 14, 3) := by decide +kernel
theorem dX6_signAt_4 : decode cX6_signAt 4 = .ok (.iload_n 2, 1) := by decide +kernel
theorem dX6_signAt_5 : decode cX6_signAt 5 = .ok (.iload_n 1, 1) := by decide +kernel
theorem dX6_signAt_6 : decode cX6_signAt 6 = .ok (.if_icmp .ge 9, 3) := by decide +kernel
theorem dX6_signAt_9 : decode cX6_signAt 9 = .ok (.aload_n 0, 1) := by decide +kernel
theorem dX6_signAt_10 : decode cX6_signAt 10 = .ok (.iload_n 2, 1) := by decide +kernel
theorem dX6_signAt_11 : decode cX6_signAt 11 = .ok (.iaload, 1) := by decide +kernel
theorem dX6_signAt_12 : decode cX6_signAt 12 = .ok (.goto 4, 3) := by decide +kernel
theorem dX6_signAt_15 : decode cX6_signAt 15 = .ok (.iconst (-1), 1) := by decide +kernel
theorem dX6_signAt_16 : decode cX6_signAt 16 = .ok (.ireturn, 1) := by decide +kernel
theorem dX6_isDigit_0 : decode cX6_isDigit 0 = .ok (.iload_n 0, 1) := by decide +kernel
theorem dX6_isDigit_1 : decode cX6_isDigit 1 = .ok (.bipush 48, 2) := by decide +kernel
theorem dX6_isDigit_3 : decode cX6_isDigit 3 = .ok (.if_icmp .lt 13, 3) := by decide +kernel
theorem dX6_isDigit_6 : decode cX6_isDigit 6 = .ok (.iload_n 0, 1) := by decide +kernel
theorem dX6_isDigit_7 : decode cX6_isDigit 7 = .ok (.bipush 57, 2) := by decide +kernel
theorem dX6_isDigit_9 : decode cX6_isDigit 9 = .ok (.if_icmp .gt 7, 3) := by decide +kernel
theorem dX6_isDigit_12 : decode cX6_isDigit 12 = .ok (.iconst 1, 1) := by decide +kernel
theorem dX6_isDigit_13 : decode cX6_isDigit 13 = .ok (.goto 4, 3) := by decide +kernel
theorem dX6_isDigit_16 : decode cX6_isDigit 16 = .ok (.iconst 0, 1) := by decide +kernel
theorem dX6_isDigit_17 : decode cX6_isDigit 17 = .ok (.ireturn, 1) := by decide +kernel
theorem dX6_levelOf_0 : decode cX6_levelOf 0 = .ok (.iload_n 0, 1) := by decide +kernel
theorem dX6_levelOf_1 : decode cX6_levelOf 1 = .ok (.lookupswitch 101 #[(37, 99), (38, 93), (42, 99), (43, 97), (45, 97), (47, 99), (60, 95), (61, 95), (62, 95), (124, 91)], 91) := by decide +kernel
theorem dX6_levelOf_92 : decode cX6_levelOf 92 = .ok (.iconst 0, 1) := by decide +kernel
theorem dX6_levelOf_93 : decode cX6_levelOf 93 = .ok (.ireturn, 1) := by decide +kernel
theorem dX6_levelOf_94 : decode cX6_levelOf 94 = .ok (.iconst 1, 1) := by decide +kernel
theorem dX6_levelOf_95 : decode cX6_levelOf 95 = .ok (.ireturn, 1) := by decide +kernel
theorem dX6_levelOf_96 : decode cX6_levelOf 96 = .ok (.iconst 2, 1) := by decide +kernel
theorem dX6_levelOf_97 : decode cX6_levelOf 97 = .ok (.ireturn, 1) := by decide +kernel
theorem dX6_levelOf_98 : decode cX6_levelOf 98 = .ok (.iconst 3, 1) := by decide +kernel
theorem dX6_levelOf_99 : decode cX6_levelOf 99 = .ok (.ireturn, 1) := by decide +kernel
theorem dX6_levelOf_100 : decode cX6_levelOf 100 = .ok (.iconst 4, 1) := by decide +kernel
theorem dX6_levelOf_101 : decode cX6_levelOf 101 = .ok (.ireturn, 1) := by decide +kernel
theorem dX6_levelOf_102 : decode cX6_levelOf 102 = .ok (.iconst (-1), 1) := by decide +kernel
theorem dX6_levelOf_103 : decode cX6_levelOf 103 = .ok (.ireturn, 1) := by decide +kernel
theorem dX7_init_0 : decode cX7_init 0 = .ok (.aload_n 0, 1) := by decide +kernel
theorem dX7_init_1 : decode cX7_init 1 = .ok (.invokespecial 1, 3) := by decide +kernel
theorem dX7_init_4 : decode cX7_init 4 = .ok (.return_, 1) := by decide +kernel
theorem dX7_driftsBy_0 : decode cX7_driftsBy 0 = .ok (.iload_n 1, 1) := by decide +kernel
theorem dX7_driftsBy_1 : decode cX7_driftsBy 1 = .ok (.iconst 2, 1) := by decide +kernel
theorem dX7_driftsBy_2 : decode cX7_driftsBy 2 = .ok (.idiv, 1) := by decide +kernel
theorem dX7_driftsBy_3 : decode cX7_driftsBy 3 = .ok (.ireturn, 1) := by decide +kernel
theorem dX7_shinesBy_0 : decode cX7_shinesBy 0 = .ok (.iload_n 1, 1) := by decide +kernel
theorem dX7_shinesBy_1 : decode cX7_shinesBy 1 = .ok (.iconst 2, 1) := by decide +kernel
theorem dX7_shinesBy_2 : decode cX7_shinesBy 2 = .ok (.imul, 1) := by decide +kernel
theorem dX7_shinesBy_3 : decode cX7_shinesBy 3 = .ok (.ireturn, 1) := by decide +kernel
theorem dX7_needsBy_0 : decode cX7_needsBy 0 = .ok (.bipush 8, 2) := by decide +kernel
theorem dX7_needsBy_2 : decode cX7_needsBy 2 = .ok (.ireturn, 1) := by decide +kernel
theorem dX7_lies_0 : decode cX7_lies 0 = .ok (.aload_n 1, 1) := by decide +kernel
theorem dX7_lies_1 : decode cX7_lies 1 = .ok (.bipush 20, 2) := by decide +kernel
theorem dX7_lies_3 : decode cX7_lies 3 = .ok (.invokevirtual 7, 3) := by decide +kernel
theorem dX7_lies_6 : decode cX7_lies 6 = .ok (.aload_n 0, 1) := by decide +kernel
theorem dX7_lies_7 : decode cX7_lies 7 = .ok (.aload_n 1, 1) := by decide +kernel
theorem dX7_lies_8 : decode cX7_lies 8 = .ok (.iload_n 2, 1) := by decide +kernel
theorem dX7_lies_9 : decode cX7_lies 9 = .ok (.invokespecial 13, 3) := by decide +kernel
theorem dX7_lies_12 : decode cX7_lies 12 = .ok (.iconst 3, 1) := by decide +kernel
theorem dX7_lies_13 : decode cX7_lies 13 = .ok (.imul, 1) := by decide +kernel
theorem dX7_lies_14 : decode cX7_lies 14 = .ok (.ireturn, 1) := by decide +kernel
theorem dX8_init_0 : decode cX8_init 0 = .ok (.aload_n 0, 1) := by decide +kernel
theorem dX8_init_1 : decode cX8_init 1 = .ok (.invokespecial 3, 3) := by decide +kernel
theorem dX8_init_4 : decode cX8_init 4 = .ok (.aload_n 0, 1) := by decide +kernel
theorem dX8_init_5 : decode cX8_init 5 = .ok (.bipush 50, 2) := by decide +kernel
theorem dX8_init_7 : decode cX8_init 7 = .ok (.newarray .int, 2) := by decide +kernel
theorem dX8_init_9 : decode cX8_init 9 = .ok (.putfield 9, 3) := by decide +kernel
theorem dX8_init_12 : decode cX8_init 12 = .ok (.aload_n 0, 1) := by decide +kernel
theorem dX8_init_13 : decode cX8_init 13 = .ok (.bipush 20, 2) := by decide +kernel
theorem dX8_init_15 : decode cX8_init 15 = .ok (.newarray .int, 2) := by decide +kernel
theorem dX8_init_17 : decode cX8_init 17 = .ok (.putfield 15, 3) := by decide +kernel
theorem dX8_init_20 : decode cX8_init 20 = .ok (.aload_n 0, 1) := by decide +kernel
theorem dX8_init_21 : decode cX8_init 21 = .ok (.new 18, 3) := by decide +kernel
theorem dX8_init_24 : decode cX8_init 24 = .ok (.dup, 1) := by decide +kernel
theorem dX8_init_25 : decode cX8_init 25 = .ok (.ldc 20, 2) := by decide +kernel
theorem dX8_init_27 : decode cX8_init 27 = .ok (.bipush 9, 2) := by decide +kernel
theorem dX8_init_29 : decode cX8_init 29 = .ok (.invokespecial 22, 3) := by decide +kernel
theorem dX8_init_32 : decode cX8_init 32 = .ok (.putfield 25, 3) := by decide +kernel
theorem dX8_init_35 : decode cX8_init 35 = .ok (.aload_n 0, 1) := by decide +kernel
theorem dX8_init_36 : decode cX8_init 36 = .ok (.new 18, 3) := by decide +kernel
theorem dX8_init_39 : decode cX8_init 39 = .ok (.dup, 1) := by decide +kernel
theorem dX8_init_40 : decode cX8_init 40 = .ok (.ldc 29, 2) := by decide +kernel
theorem dX8_init_42 : decode cX8_init 42 = .ok (.bipush 99, 2) := by decide +kernel
theorem dX8_init_44 : decode cX8_init 44 = .ok (.invokespecial 22, 3) := by decide +kernel
theorem dX8_init_47 : decode cX8_init 47 = .ok (.putfield 31, 3) := by decide +kernel
theorem dX8_init_50 : decode cX8_init 50 = .ok (.aload_n 0, 1) := by decide +kernel
theorem dX8_init_51 : decode cX8_init 51 = .ok (.iconst 1, 1) := by decide +kernel
theorem dX8_init_52 : decode cX8_init 52 = .ok (.putfield 34, 3) := by decide +kernel
theorem dX8_init_55 : decode cX8_init 55 = .ok (.return_, 1) := by decide +kernel
theorem dX8_copy_0 : decode cX8_copy 0 = .ok (.aload_n 1, 1) := by decide +kernel
theorem dX8_copy_1 : decode cX8_copy 1 = .ok (.getfield 9, 3) := by decide +kernel
theorem dX8_copy_4 : decode cX8_copy 4 = .ok (.iconst 0, 1) := by decide +kernel
theorem dX8_copy_5 : decode cX8_copy 5 = .ok (.aload_n 0, 1) := by decide +kernel
theorem dX8_copy_6 : decode cX8_copy 6 = .ok (.getfield 9, 3) := by decide +kernel
theorem dX8_copy_9 : decode cX8_copy 9 = .ok (.iconst 0, 1) := by decide +kernel
theorem dX8_copy_10 : decode cX8_copy 10 = .ok (.bipush 50, 2) := by decide +kernel
theorem dX8_copy_12 : decode cX8_copy 12 = .ok (.invokestatic 38, 3) := by decide +kernel
theorem dX8_copy_15 : decode cX8_copy 15 = .ok (.aload_n 1, 1) := by decide +kernel
theorem dX8_copy_16 : decode cX8_copy 16 = .ok (.getfield 15, 3) := by decide +kernel
theorem dX8_copy_19 : decode cX8_copy 19 = .ok (.iconst 0, 1) := by decide +kernel
theorem dX8_copy_20 : decode cX8_copy 20 = .ok (.aload_n 0, 1) := by decide +kernel
theorem dX8_copy_21 : decode cX8_copy 21 = .ok (.getfield 15, 3) := by decide +kernel
theorem dX8_copy_24 : decode cX8_copy 24 = .ok (.iconst 0, 1) := by decide +kernel
theorem dX8_copy_25 : decode cX8_copy 25 = .ok (.bipush 20, 2) := by decide +kernel
theorem dX8_copy_27 : decode cX8_copy 27 = .ok (.invokestatic 38, 3) := by decide +kernel
theorem dX8_copy_30 : decode cX8_copy 30 = .ok (.aload_n 0, 1) := by decide +kernel
theorem dX8_copy_31 : decode cX8_copy 31 = .ok (.getfield 25, 3) := by decide +kernel
theorem dX8_copy_34 : decode cX8_copy 34 = .ok (.aload_n 1, 1) := by decide +kernel
theorem dX8_copy_35 : decode cX8_copy 35 = .ok (.getfield 25, 3) := by decide +kernel
theorem dX8_copy_38 : decode cX8_copy 38 = .ok (.invokevirtual 44, 3) := by decide +kernel
theorem dX8_copy_41 : decode cX8_copy 41 = .ok (.aload_n 0, 1) := by decide +kernel
theorem dX8_copy_42 : decode cX8_copy 42 = .ok (.getfield 31, 3) := by decide +kernel
theorem dX8_copy_45 : decode cX8_copy 45 = .ok (.aload_n 1, 1) := by decide +kernel
theorem dX8_copy_46 : decode cX8_copy 46 = .ok (.getfield 31, 3) := by decide +kernel
theorem dX8_copy_49 : decode cX8_copy 49 = .ok (.invokevirtual 44, 3) := by decide +kernel
theorem dX8_copy_52 : decode cX8_copy 52 = .ok (.aload_n 0, 1) := by decide +kernel
theorem dX8_copy_53 : decode cX8_copy 53 = .ok (.aload_n 1, 1) := by decide +kernel
theorem dX8_copy_54 : decode cX8_copy 54 = .ok (.getfield 48, 3) := by decide +kernel
theorem dX8_copy_57 : decode cX8_copy 57 = .ok (.putfield 48, 3) := by decide +kernel
theorem dX8_copy_60 : decode cX8_copy 60 = .ok (.aload_n 0, 1) := by decide +kernel
theorem dX8_copy_61 : decode cX8_copy 61 = .ok (.aload_n 1, 1) := by decide +kernel
theorem dX8_copy_62 : decode cX8_copy 62 = .ok (.getfield 51, 3) := by decide +kernel
theorem dX8_copy_65 : decode cX8_copy 65 = .ok (.putfield 51, 3) := by decide +kernel
theorem dX8_copy_68 : decode cX8_copy 68 = .ok (.aload_n 0, 1) := by decide +kernel
theorem dX8_copy_69 : decode cX8_copy 69 = .ok (.aload_n 1, 1) := by decide +kernel
theorem dX8_copy_70 : decode cX8_copy 70 = .ok (.getfield 34, 3) := by decide +kernel
theorem dX8_copy_73 : decode cX8_copy 73 = .ok (.putfield 34, 3) := by decide +kernel
theorem dX8_copy_76 : decode cX8_copy 76 = .ok (.return_, 1) := by decide +kernel
theorem dX8_take_0 : decode cX8_take 0 = .ok (.aload_n 0, 1) := by decide +kernel
theorem dX8_take_1 : decode cX8_take 1 = .ok (.getfield 48, 3) := by decide +kernel
theorem dX8_take_4 : decode cX8_take 4 = .ok (.ifCond .lt 32, 3) := by decide +kernel
theorem dX8_take_7 : decode cX8_take 7 = .ok (.aload_n 0, 1) := by decide +kernel
theorem dX8_take_8 : decode cX8_take 8 = .ok (.getfield 48, 3) := by decide +kernel
theorem dX8_take_11 : decode cX8_take 11 = .ok (.bipush 50, 2) := by decide +kernel
theorem dX8_take_13 : decode cX8_take 13 = .ok (.if_icmp .ge 23, 3) := by decide +kernel
theorem dX8_take_16 : decode cX8_take 16 = .ok (.aload_n 0, 1) := by decide +kernel
theorem dX8_take_17 : decode cX8_take 17 = .ok (.getfield 9, 3) := by decide +kernel
theorem dX8_take_20 : decode cX8_take 20 = .ok (.aload_n 0, 1) := by decide +kernel
theorem dX8_take_21 : decode cX8_take 21 = .ok (.getfield 48, 3) := by decide +kernel
theorem dX8_take_24 : decode cX8_take 24 = .ok (.iload_n 1, 1) := by decide +kernel
theorem dX8_take_25 : decode cX8_take 25 = .ok (.iastore, 1) := by decide +kernel
theorem dX8_take_26 : decode cX8_take 26 = .ok (.aload_n 0, 1) := by decide +kernel
theorem dX8_take_27 : decode cX8_take 27 = .ok (.dup, 1) := by decide +kernel
theorem dX8_take_28 : decode cX8_take 28 = .ok (.getfield 48, 3) := by decide +kernel
theorem dX8_take_31 : decode cX8_take 31 = .ok (.iconst 1, 1) := by decide +kernel
theorem dX8_take_32 : decode cX8_take 32 = .ok (.iadd, 1) := by decide +kernel
theorem dX8_take_33 : decode cX8_take 33 = .ok (.putfield 48, 3) := by decide +kernel
theorem dX8_take_36 : decode cX8_take 36 = .ok (.return_, 1) := by decide +kernel
theorem dX8_keepWaiting_0 : decode cX8_keepWaiting 0 = .ok (.aload_n 0, 1) := by decide +kernel
theorem dX8_keepWaiting_1 : decode cX8_keepWaiting 1 = .ok (.getfield 51, 3) := by decide +kernel
theorem dX8_keepWaiting_4 : decode cX8_keepWaiting 4 = .ok (.ifCond .lt 32, 3) := by decide +kernel
theorem dX8_keepWaiting_7 : decode cX8_keepWaiting 7 = .ok (.aload_n 0, 1) := by decide +kernel
theorem dX8_keepWaiting_8 : decode cX8_keepWaiting 8 = .ok (.getfield 51, 3) := by decide +kernel
theorem dX8_keepWaiting_11 : decode cX8_keepWaiting 11 = .ok (.bipush 20, 2) := by decide +kernel
theorem dX8_keepWaiting_13 : decode cX8_keepWaiting 13 = .ok (.if_icmp .ge 23, 3) := by decide +kernel
theorem dX8_keepWaiting_16 : decode cX8_keepWaiting 16 = .ok (.aload_n 0, 1) := by decide +kernel
theorem dX8_keepWaiting_17 : decode cX8_keepWaiting 17 = .ok (.getfield 15, 3) := by decide +kernel
theorem dX8_keepWaiting_20 : decode cX8_keepWaiting 20 = .ok (.aload_n 0, 1) := by decide +kernel
theorem dX8_keepWaiting_21 : decode cX8_keepWaiting 21 = .ok (.getfield 51, 3) := by decide +kernel
theorem dX8_keepWaiting_24 : decode cX8_keepWaiting 24 = .ok (.iload_n 1, 1) := by decide +kernel
theorem dX8_keepWaiting_25 : decode cX8_keepWaiting 25 = .ok (.iastore, 1) := by decide +kernel
theorem dX8_keepWaiting_26 : decode cX8_keepWaiting 26 = .ok (.aload_n 0, 1) := by decide +kernel
theorem dX8_keepWaiting_27 : decode cX8_keepWaiting 27 = .ok (.dup, 1) := by decide +kernel
theorem dX8_keepWaiting_28 : decode cX8_keepWaiting 28 = .ok (.getfield 51, 3) := by decide +kernel
theorem dX8_keepWaiting_31 : decode cX8_keepWaiting 31 = .ok (.iconst 1, 1) := by decide +kernel
theorem dX8_keepWaiting_32 : decode cX8_keepWaiting 32 = .ok (.iadd, 1) := by decide +kernel
theorem dX8_keepWaiting_33 : decode cX8_keepWaiting 33 = .ok (.putfield 51, 3) := by decide +kernel
theorem dX8_keepWaiting_36 : decode cX8_keepWaiting 36 = .ok (.return_, 1) := by decide +kernel
theorem dX8_draw_0 : decode cX8_draw 0 = .ok (.aload_n 0, 1) := by decide +kernel
theorem dX8_draw_1 : decode cX8_draw 1 = .ok (.aload_n 0, 1) := by decide +kernel
theorem dX8_draw_2 : decode cX8_draw 2 = .ok (.getfield 34, 3) := by decide +kernel
theorem dX8_draw_5 : decode cX8_draw 5 = .ok (.ldc 54, 2) := by decide +kernel
theorem dX8_draw_7 : decode cX8_draw 7 = .ok (.imul, 1) := by decide +kernel
theorem dX8_draw_8 : decode cX8_draw 8 = .ok (.sipush 12345, 3) := by decide +kernel
theorem dX8_draw_11 : decode cX8_draw 11 = .ok (.iadd, 1) := by decide +kernel
theorem dX8_draw_12 : decode cX8_draw 12 = .ok (.putfield 34, 3) := by decide +kernel
theorem dX8_draw_15 : decode cX8_draw 15 = .ok (.aload_n 0, 1) := by decide +kernel
theorem dX8_draw_16 : decode cX8_draw 16 = .ok (.getfield 34, 3) := by decide +kernel
theorem dX8_draw_19 : decode cX8_draw 19 = .ok (.bipush 8, 2) := by decide +kernel
theorem dX8_draw_21 : decode cX8_draw 21 = .ok (.iushr, 1) := by decide +kernel
theorem dX8_draw_22 : decode cX8_draw 22 = .ok (.ireturn, 1) := by decide +kernel
theorem dX9_init_0 : decode cX9_init 0 = .ok (.aload_n 0, 1) := by decide +kernel
theorem dX9_init_1 : decode cX9_init 1 = .ok (.invokespecial 3, 3) := by decide +kernel
theorem dX9_init_4 : decode cX9_init 4 = .ok (.aload_n 0, 1) := by decide +kernel
theorem dX9_init_5 : decode cX9_init 5 = .ok (.bipush 40, 2) := by decide +kernel
theorem dX9_init_7 : decode cX9_init 7 = .ok (.newarray .int, 2) := by decide +kernel
theorem dX9_init_9 : decode cX9_init 9 = .ok (.putfield 9, 3) := by decide +kernel
theorem dX9_init_12 : decode cX9_init 12 = .ok (.return_, 1) := by decide +kernel
theorem dX9_open_0 : decode cX9_open 0 = .ok (.aload_n 0, 1) := by decide +kernel
theorem dX9_open_1 : decode cX9_open 1 = .ok (.iload_n 1, 1) := by decide +kernel
theorem dX9_open_2 : decode cX9_open 2 = .ok (.putfield 15, 3) := by decide +kernel
theorem dX9_open_5 : decode cX9_open 5 = .ok (.aload_n 0, 1) := by decide +kernel
theorem dX9_open_6 : decode cX9_open 6 = .ok (.iload_n 2, 1) := by decide +kernel
theorem dX9_open_7 : decode cX9_open 7 = .ok (.putfield 19, 3) := by decide +kernel
theorem dX9_open_10 : decode cX9_open 10 = .ok (.aload_n 0, 1) := by decide +kernel
theorem dX9_open_11 : decode cX9_open 11 = .ok (.iconst 0, 1) := by decide +kernel
theorem dX9_open_12 : decode cX9_open 12 = .ok (.putfield 22, 3) := by decide +kernel
theorem dX9_open_15 : decode cX9_open 15 = .ok (.return_, 1) := by decide +kernel
theorem dX9_begin_0 : decode cX9_begin 0 = .ok (.aload_n 0, 1) := by decide +kernel
theorem dX9_begin_1 : decode cX9_begin 1 = .ok (.getfield 22, 3) := by decide +kernel
theorem dX9_begin_4 : decode cX9_begin 4 = .ok (.ifCond .lt 32, 3) := by decide +kernel
theorem dX9_begin_7 : decode cX9_begin 7 = .ok (.aload_n 0, 1) := by decide +kernel
theorem dX9_begin_8 : decode cX9_begin 8 = .ok (.getfield 22, 3) := by decide +kernel
theorem dX9_begin_11 : decode cX9_begin 11 = .ok (.bipush 40, 2) := by decide +kernel
theorem dX9_begin_13 : decode cX9_begin 13 = .ok (.if_icmp .ge 23, 3) := by decide +kernel
theorem dX9_begin_16 : decode cX9_begin 16 = .ok (.aload_n 0, 1) := by decide +kernel
theorem dX9_begin_17 : decode cX9_begin 17 = .ok (.getfield 9, 3) := by decide +kernel
theorem dX9_begin_20 : decode cX9_begin 20 = .ok (.aload_n 0, 1) := by decide +kernel
theorem dX9_begin_21 : decode cX9_begin 21 = .ok (.getfield 22, 3) := by decide +kernel
theorem dX9_begin_24 : decode cX9_begin 24 = .ok (.iload_n 1, 1) := by decide +kernel
theorem dX9_begin_25 : decode cX9_begin 25 = .ok (.iastore, 1) := by decide +kernel
theorem dX9_begin_26 : decode cX9_begin 26 = .ok (.aload_n 0, 1) := by decide +kernel
theorem dX9_begin_27 : decode cX9_begin 27 = .ok (.dup, 1) := by decide +kernel
theorem dX9_begin_28 : decode cX9_begin 28 = .ok (.getfield 22, 3) := by decide +kernel
theorem dX9_begin_31 : decode cX9_begin 31 = .ok (.iconst 1, 1) := by decide +kernel
theorem dX9_begin_32 : decode cX9_begin 32 = .ok (.iadd, 1) := by decide +kernel
theorem dX9_begin_33 : decode cX9_begin 33 = .ok (.putfield 22, 3) := by decide +kernel
theorem dX9_begin_36 : decode cX9_begin 36 = .ok (.return_, 1) := by decide +kernel
theorem dJ11_isValidCodePoint_9a6ad_0 : decode cJ11_isValidCodePoint_9a6ad 0 = .ok (.iload_n 0, 1) := by decide +kernel
theorem dJ11_isValidCodePoint_9a6ad_1 : decode cJ11_isValidCodePoint_9a6ad 1 = .ok (.bipush 16, 2) := by decide +kernel
theorem dJ11_isValidCodePoint_9a6ad_3 : decode cJ11_isValidCodePoint_9a6ad 3 = .ok (.iushr, 1) := by decide +kernel
theorem dJ11_isValidCodePoint_9a6ad_4 : decode cJ11_isValidCodePoint_9a6ad 4 = .ok (.istore_n 1, 1) := by decide +kernel
theorem dJ11_isValidCodePoint_9a6ad_5 : decode cJ11_isValidCodePoint_9a6ad 5 = .ok (.iload_n 1, 1) := by decide +kernel
theorem dJ11_isValidCodePoint_9a6ad_6 : decode cJ11_isValidCodePoint_9a6ad 6 = .ok (.bipush 17, 2) := by decide +kernel
theorem dJ11_isValidCodePoint_9a6ad_8 : decode cJ11_isValidCodePoint_9a6ad 8 = .ok (.if_icmp .ge 7, 3) := by decide +kernel
theorem dJ11_isValidCodePoint_9a6ad_11 : decode cJ11_isValidCodePoint_9a6ad 11 = .ok (.iconst 1, 1) := by decide +kernel
theorem dJ11_isValidCodePoint_9a6ad_12 : decode cJ11_isValidCodePoint_9a6ad 12 = .ok (.goto 4, 3) := by decide +kernel
theorem dJ11_isValidCodePoint_9a6ad_15 : decode cJ11_isValidCodePoint_9a6ad 15 = .ok (.iconst 0, 1) := by decide +kernel
theorem dJ11_isValidCodePoint_9a6ad_16 : decode cJ11_isValidCodePoint_9a6ad 16 = .ok (.ireturn, 1) := by decide +kernel
theorem dJ11_highSurrogate_5068e_0 : decode cJ11_highSurrogate_5068e 0 = .ok (.iload_n 0, 1) := by decide +kernel
theorem dJ11_highSurrogate_5068e_1 : decode cJ11_highSurrogate_5068e 1 = .ok (.bipush 10, 2) := by decide +kernel
theorem dJ11_highSurrogate_5068e_3 : decode cJ11_highSurrogate_5068e 3 = .ok (.iushr, 1) := by decide +kernel
theorem dJ11_highSurrogate_5068e_4 : decode cJ11_highSurrogate_5068e 4 = .ok (.ldc 110, 2) := by decide +kernel
theorem dJ11_highSurrogate_5068e_6 : decode cJ11_highSurrogate_5068e 6 = .ok (.iadd, 1) := by decide +kernel
theorem dJ11_highSurrogate_5068e_7 : decode cJ11_highSurrogate_5068e 7 = .ok (.i2c, 1) := by decide +kernel
theorem dJ11_highSurrogate_5068e_8 : decode cJ11_highSurrogate_5068e 8 = .ok (.ireturn, 1) := by decide +kernel
theorem dJ11_lowSurrogate_5068e_0 : decode cJ11_lowSurrogate_5068e 0 = .ok (.iload_n 0, 1) := by decide +kernel
theorem dJ11_lowSurrogate_5068e_1 : decode cJ11_lowSurrogate_5068e 1 = .ok (.sipush 1023, 3) := by decide +kernel
theorem dJ11_lowSurrogate_5068e_4 : decode cJ11_lowSurrogate_5068e 4 = .ok (.iand, 1) := by decide +kernel
theorem dJ11_lowSurrogate_5068e_5 : decode cJ11_lowSurrogate_5068e 5 = .ok (.ldc 76, 2) := by decide +kernel
theorem dJ11_lowSurrogate_5068e_7 : decode cJ11_lowSurrogate_5068e 7 = .ok (.iadd, 1) := by decide +kernel
theorem dJ11_lowSurrogate_5068e_8 : decode cJ11_lowSurrogate_5068e 8 = .ok (.i2c, 1) := by decide +kernel
theorem dJ11_lowSurrogate_5068e_9 : decode cJ11_lowSurrogate_5068e 9 = .ok (.ireturn, 1) := by decide +kernel
theorem dJ6_bitCount_0f7a4_0 : decode cJ6_bitCount_0f7a4 0 = .ok (.iload_n 0, 1) := by decide +kernel
theorem dJ6_bitCount_0f7a4_1 : decode cJ6_bitCount_0f7a4 1 = .ok (.iload_n 0, 1) := by decide +kernel
theorem dJ6_bitCount_0f7a4_2 : decode cJ6_bitCount_0f7a4 2 = .ok (.iconst 1, 1) := by decide +kernel
theorem dJ6_bitCount_0f7a4_3 : decode cJ6_bitCount_0f7a4 3 = .ok (.iushr, 1) := by decide +kernel
theorem dJ6_bitCount_0f7a4_4 : decode cJ6_bitCount_0f7a4 4 = .ok (.ldc_w 265, 3) := by decide +kernel
theorem dJ6_bitCount_0f7a4_7 : decode cJ6_bitCount_0f7a4 7 = .ok (.iand, 1) := by decide +kernel
theorem dJ6_bitCount_0f7a4_8 : decode cJ6_bitCount_0f7a4 8 = .ok (.isub, 1) := by decide +kernel
theorem dJ6_bitCount_0f7a4_9 : decode cJ6_bitCount_0f7a4 9 = .ok (.istore_n 0, 1) := by decide +kernel
theorem dJ6_bitCount_0f7a4_10 : decode cJ6_bitCount_0f7a4 10 = .ok (.iload_n 0, 1) := by decide +kernel
theorem dJ6_bitCount_0f7a4_11 : decode cJ6_bitCount_0f7a4 11 = .ok (.ldc_w 266, 3) := by decide +kernel
theorem dJ6_bitCount_0f7a4_14 : decode cJ6_bitCount_0f7a4 14 = .ok (.iand, 1) := by decide +kernel
theorem dJ6_bitCount_0f7a4_15 : decode cJ6_bitCount_0f7a4 15 = .ok (.iload_n 0, 1) := by decide +kernel
theorem dJ6_bitCount_0f7a4_16 : decode cJ6_bitCount_0f7a4 16 = .ok (.iconst 2, 1) := by decide +kernel
theorem dJ6_bitCount_0f7a4_17 : decode cJ6_bitCount_0f7a4 17 = .ok (.iushr, 1) := by decide +kernel
theorem dJ6_bitCount_0f7a4_18 : decode cJ6_bitCount_0f7a4 18 = .ok (.ldc_w 266, 3) := by decide +kernel
theorem dJ6_bitCount_0f7a4_21 : decode cJ6_bitCount_0f7a4 21 = .ok (.iand, 1) := by decide +kernel
theorem dJ6_bitCount_0f7a4_22 : decode cJ6_bitCount_0f7a4 22 = .ok (.iadd, 1) := by decide +kernel
theorem dJ6_bitCount_0f7a4_23 : decode cJ6_bitCount_0f7a4 23 = .ok (.istore_n 0, 1) := by decide +kernel
theorem dJ6_bitCount_0f7a4_24 : decode cJ6_bitCount_0f7a4 24 = .ok (.iload_n 0, 1) := by decide +kernel
theorem dJ6_bitCount_0f7a4_25 : decode cJ6_bitCount_0f7a4 25 = .ok (.iload_n 0, 1) := by decide +kernel
theorem dJ6_bitCount_0f7a4_26 : decode cJ6_bitCount_0f7a4 26 = .ok (.iconst 4, 1) := by decide +kernel
theorem dJ6_bitCount_0f7a4_27 : decode cJ6_bitCount_0f7a4 27 = .ok (.iushr, 1) := by decide +kernel
theorem dJ6_bitCount_0f7a4_28 : decode cJ6_bitCount_0f7a4 28 = .ok (.iadd, 1) := by decide +kernel
theorem dJ6_bitCount_0f7a4_29 : decode cJ6_bitCount_0f7a4 29 = .ok (.ldc_w 267, 3) := by decide +kernel
theorem dJ6_bitCount_0f7a4_32 : decode cJ6_bitCount_0f7a4 32 = .ok (.iand, 1) := by decide +kernel
theorem dJ6_bitCount_0f7a4_33 : decode cJ6_bitCount_0f7a4 33 = .ok (.istore_n 0, 1) := by decide +kernel
theorem dJ6_bitCount_0f7a4_34 : decode cJ6_bitCount_0f7a4 34 = .ok (.iload_n 0, 1) := by decide +kernel
theorem dJ6_bitCount_0f7a4_35 : decode cJ6_bitCount_0f7a4 35 = .ok (.iload_n 0, 1) := by decide +kernel
theorem dJ6_bitCount_0f7a4_36 : decode cJ6_bitCount_0f7a4 36 = .ok (.bipush 8, 2) := by decide +kernel
theorem dJ6_bitCount_0f7a4_38 : decode cJ6_bitCount_0f7a4 38 = .ok (.iushr, 1) := by decide +kernel
theorem dJ6_bitCount_0f7a4_39 : decode cJ6_bitCount_0f7a4 39 = .ok (.iadd, 1) := by decide +kernel
theorem dJ6_bitCount_0f7a4_40 : decode cJ6_bitCount_0f7a4 40 = .ok (.istore_n 0, 1) := by decide +kernel
theorem dJ6_bitCount_0f7a4_41 : decode cJ6_bitCount_0f7a4 41 = .ok (.iload_n 0, 1) := by decide +kernel
theorem dJ6_bitCount_0f7a4_42 : decode cJ6_bitCount_0f7a4 42 = .ok (.iload_n 0, 1) := by decide +kernel
theorem dJ6_bitCount_0f7a4_43 : decode cJ6_bitCount_0f7a4 43 = .ok (.bipush 16, 2) := by decide +kernel
theorem dJ6_bitCount_0f7a4_45 : decode cJ6_bitCount_0f7a4 45 = .ok (.iushr, 1) := by decide +kernel
theorem dJ6_bitCount_0f7a4_46 : decode cJ6_bitCount_0f7a4 46 = .ok (.iadd, 1) := by decide +kernel
theorem dJ6_bitCount_0f7a4_47 : decode cJ6_bitCount_0f7a4 47 = .ok (.istore_n 0, 1) := by decide +kernel
theorem dJ6_bitCount_0f7a4_48 : decode cJ6_bitCount_0f7a4 48 = .ok (.iload_n 0, 1) := by decide +kernel
theorem dJ6_bitCount_0f7a4_49 : decode cJ6_bitCount_0f7a4 49 = .ok (.bipush 63, 2) := by decide +kernel
theorem dJ6_bitCount_0f7a4_51 : decode cJ6_bitCount_0f7a4 51 = .ok (.iand, 1) := by decide +kernel
theorem dJ6_bitCount_0f7a4_52 : decode cJ6_bitCount_0f7a4 52 = .ok (.ireturn, 1) := by decide +kernel
theorem dJ9_max_7cf53_0 : decode cJ9_max_7cf53 0 = .ok (.iload_n 0, 1) := by decide +kernel
theorem dJ9_max_7cf53_1 : decode cJ9_max_7cf53 1 = .ok (.iload_n 1, 1) := by decide +kernel
theorem dJ9_max_7cf53_2 : decode cJ9_max_7cf53 2 = .ok (.if_icmp .lt 7, 3) := by decide +kernel
theorem dJ9_max_7cf53_5 : decode cJ9_max_7cf53 5 = .ok (.iload_n 0, 1) := by decide +kernel
theorem dJ9_max_7cf53_6 : decode cJ9_max_7cf53 6 = .ok (.goto 4, 3) := by decide +kernel
theorem dJ9_max_7cf53_9 : decode cJ9_max_7cf53 9 = .ok (.iload_n 1, 1) := by decide +kernel
theorem dJ9_max_7cf53_10 : decode cJ9_max_7cf53 10 = .ok (.ireturn, 1) := by decide +kernel
theorem dJ9_min_7cf53_0 : decode cJ9_min_7cf53 0 = .ok (.iload_n 0, 1) := by decide +kernel
theorem dJ9_min_7cf53_1 : decode cJ9_min_7cf53 1 = .ok (.iload_n 1, 1) := by decide +kernel
theorem dJ9_min_7cf53_2 : decode cJ9_min_7cf53 2 = .ok (.if_icmp .gt 7, 3) := by decide +kernel
theorem dJ9_min_7cf53_5 : decode cJ9_min_7cf53 5 = .ok (.iload_n 0, 1) := by decide +kernel
theorem dJ9_min_7cf53_6 : decode cJ9_min_7cf53 6 = .ok (.goto 4, 3) := by decide +kernel
theorem dJ9_min_7cf53_9 : decode cJ9_min_7cf53 9 = .ok (.iload_n 1, 1) := by decide +kernel
theorem dJ9_min_7cf53_10 : decode cJ9_min_7cf53 10 = .ok (.ireturn, 1) := by decide +kernel
theorem dJ0_length_8abf5_0 : decode cJ0_length_8abf5 0 = .ok (.aload_n 0, 1) := by decide +kernel
theorem dJ0_length_8abf5_1 : decode cJ0_length_8abf5 1 = .ok (.getfield 9, 3) := by decide +kernel
theorem dJ0_length_8abf5_4 : decode cJ0_length_8abf5 4 = .ok (.arraylength, 1) := by decide +kernel
theorem dJ0_length_8abf5_5 : decode cJ0_length_8abf5 5 = .ok (.aload_n 0, 1) := by decide +kernel
theorem dJ0_length_8abf5_6 : decode cJ0_length_8abf5 6 = .ok (.invokevirtual 335, 3) := by decide +kernel
theorem dJ0_length_8abf5_9 : decode cJ0_length_8abf5 9 = .ok (.ishr, 1) := by decide +kernel
theorem dJ0_length_8abf5_10 : decode cJ0_length_8abf5 10 = .ok (.ireturn, 1) := by decide +kernel
theorem dJ0_indexOf_0f7a4_0 : decode cJ0_indexOf_0f7a4 0 = .ok (.aload_n 0, 1) := by decide +kernel
theorem dJ0_indexOf_0f7a4_1 : decode cJ0_indexOf_0f7a4 1 = .ok (.iload_n 1, 1) := by decide +kernel
theorem dJ0_indexOf_0f7a4_2 : decode cJ0_indexOf_0f7a4 2 = .ok (.iconst 0, 1) := by decide +kernel
theorem dJ0_indexOf_0f7a4_3 : decode cJ0_indexOf_0f7a4 3 = .ok (.invokevirtual 633, 3) := by decide +kernel
theorem dJ0_indexOf_0f7a4_6 : decode cJ0_indexOf_0f7a4 6 = .ok (.ireturn, 1) := by decide +kernel
theorem dJ0_indexOf_7cf53_0 : decode cJ0_indexOf_7cf53 0 = .ok (.aload_n 0, 1) := by decide +kernel
theorem dJ0_indexOf_7cf53_1 : decode cJ0_indexOf_7cf53 1 = .ok (.invokevirtual 492, 3) := by decide +kernel
theorem dJ0_indexOf_7cf53_4 : decode cJ0_indexOf_7cf53 4 = .ok (.ifCond .eq 19, 3) := by decide +kernel
theorem dJ0_indexOf_7cf53_7 : decode cJ0_indexOf_7cf53 7 = .ok (.aload_n 0, 1) := by decide +kernel
theorem dJ0_indexOf_7cf53_8 : decode cJ0_indexOf_7cf53 8 = .ok (.getfield 9, 3) := by decide +kernel
theorem dJ0_indexOf_7cf53_11 : decode cJ0_indexOf_7cf53 11 = .ok (.iload_n 1, 1) := by decide +kernel
theorem dJ0_indexOf_7cf53_12 : decode cJ0_indexOf_7cf53 12 = .ok (.iload_n 2, 1) := by decide +kernel
theorem dJ0_indexOf_7cf53_13 : decode cJ0_indexOf_7cf53 13 = .ok (.aload_n 0, 1) := by decide +kernel
theorem dJ0_indexOf_7cf53_14 : decode cJ0_indexOf_7cf53 14 = .ok (.invokevirtual 505, 3) := by decide +kernel
theorem dJ0_indexOf_7cf53_17 : decode cJ0_indexOf_7cf53 17 = .ok (.invokestatic 637, 3) := by decide +kernel
theorem dJ0_indexOf_7cf53_20 : decode cJ0_indexOf_7cf53 20 = .ok (.goto 16, 3) := by decide +kernel
theorem dJ0_indexOf_7cf53_23 : decode cJ0_indexOf_7cf53 23 = .ok (.aload_n 0, 1) := by decide +kernel
theorem dJ0_indexOf_7cf53_24 : decode cJ0_indexOf_7cf53 24 = .ok (.getfield 9, 3) := by decide +kernel
theorem dJ0_indexOf_7cf53_27 : decode cJ0_indexOf_7cf53 27 = .ok (.iload_n 1, 1) := by decide +kernel
theorem dJ0_indexOf_7cf53_28 : decode cJ0_indexOf_7cf53 28 = .ok (.iload_n 2, 1) := by decide +kernel
theorem dJ0_indexOf_7cf53_29 : decode cJ0_indexOf_7cf53 29 = .ok (.aload_n 0, 1) := by decide +kernel
theorem dJ0_indexOf_7cf53_30 : decode cJ0_indexOf_7cf53 30 = .ok (.invokevirtual 505, 3) := by decide +kernel
theorem dJ0_indexOf_7cf53_33 : decode cJ0_indexOf_7cf53 33 = .ok (.invokestatic 640, 3) := by decide +kernel
theorem dJ0_indexOf_7cf53_36 : decode cJ0_indexOf_7cf53 36 = .ok (.ireturn, 1) := by decide +kernel
theorem dJ0_coder_7d493_0 : decode cJ0_coder_7d493 0 = .ok (.getstatic 38, 3) := by decide +kernel
theorem dJ0_coder_7d493_3 : decode cJ0_coder_7d493 3 = .ok (.ifCond .eq 10, 3) := by decide +kernel
theorem dJ0_coder_7d493_6 : decode cJ0_coder_7d493 6 = .ok (.aload_n 0, 1) := by decide +kernel
theorem dJ0_coder_7d493_7 : decode cJ0_coder_7d493 7 = .ok (.getfield 15, 3) := by decide +kernel
theorem dJ0_coder_7d493_10 : decode cJ0_coder_7d493 10 = .ok (.goto 4, 3) := by decide +kernel
theorem dJ0_coder_7d493_13 : decode cJ0_coder_7d493 13 = .ok (.iconst 1, 1) := by decide +kernel
theorem dJ0_coder_7d493_14 : decode cJ0_coder_7d493 14 = .ok (.ireturn, 1) := by decide +kernel
theorem dJ0_isLatin1_aae02_0 : decode cJ0_isLatin1_aae02 0 = .ok (.getstatic 38, 3) := by decide +kernel
theorem dJ0_isLatin1_aae02_3 : decode cJ0_isLatin1_aae02 3 = .ok (.ifCond .eq 14, 3) := by decide +kernel
theorem dJ0_isLatin1_aae02_6 : decode cJ0_isLatin1_aae02 6 = .ok (.aload_n 0, 1) := by decide +kernel
theorem dJ0_isLatin1_aae02_7 : decode cJ0_isLatin1_aae02 7 = .ok (.getfield 15, 3) := by decide +kernel
theorem dJ0_isLatin1_aae02_10 : decode cJ0_isLatin1_aae02 10 = .ok (.ifCond .ne 7, 3) := by decide +kernel
theorem dJ0_isLatin1_aae02_13 : decode cJ0_isLatin1_aae02 13 = .ok (.iconst 1, 1) := by decide +kernel
theorem dJ0_isLatin1_aae02_14 : decode cJ0_isLatin1_aae02 14 = .ok (.goto 4, 3) := by decide +kernel
theorem dJ0_isLatin1_aae02_17 : decode cJ0_isLatin1_aae02 17 = .ok (.iconst 0, 1) := by decide +kernel
theorem dJ0_isLatin1_aae02_18 : decode cJ0_isLatin1_aae02 18 = .ok (.ireturn, 1) := by decide +kernel
theorem dJ0_checkBoundsBeginEnd_23922_0 : decode cJ0_checkBoundsBeginEnd_23922 0 = .ok (.iload_n 0, 1) := by decide +kernel
theorem dJ0_checkBoundsBeginEnd_23922_1 : decode cJ0_checkBoundsBeginEnd_23922 1 = .ok (.iload_n 1, 1) := by decide +kernel
theorem dJ0_checkBoundsBeginEnd_23922_2 : decode cJ0_checkBoundsBeginEnd_23922 2 = .ok (.iload_n 2, 1) := by decide +kernel
theorem dJ0_checkBoundsBeginEnd_23922_3 : decode cJ0_checkBoundsBeginEnd_23922 3 = .ok (.getstatic 1053, 3) := by decide +kernel
theorem dJ0_checkBoundsBeginEnd_23922_6 : decode cJ0_checkBoundsBeginEnd_23922 6 = .ok (.invokestatic 1062, 3) := by decide +kernel
theorem dJ0_checkBoundsBeginEnd_23922_9 : decode cJ0_checkBoundsBeginEnd_23922 9 = .ok (.pop, 1) := by decide +kernel
theorem dJ0_checkBoundsBeginEnd_23922_10 : decode cJ0_checkBoundsBeginEnd_23922 10 = .ok (.return_, 1) := by decide +kernel
theorem dJ1_canEncode_9a6ad_0 : decode cJ1_canEncode_9a6ad 0 = .ok (.iload_n 0, 1) := by decide +kernel
theorem dJ1_canEncode_9a6ad_1 : decode cJ1_canEncode_9a6ad 1 = .ok (.ifCond .lt 14, 3) := by decide +kernel
theorem dJ1_canEncode_9a6ad_4 : decode cJ1_canEncode_9a6ad 4 = .ok (.iload_n 0, 1) := by decide +kernel
theorem dJ1_canEncode_9a6ad_5 : decode cJ1_canEncode_9a6ad 5 = .ok (.sipush 255, 3) := by decide +kernel
theorem dJ1_canEncode_9a6ad_8 : decode cJ1_canEncode_9a6ad 8 = .ok (.if_icmp .gt 7, 3) := by decide +kernel
theorem dJ1_canEncode_9a6ad_11 : decode cJ1_canEncode_9a6ad 11 = .ok (.iconst 1, 1) := by decide +kernel
theorem dJ1_canEncode_9a6ad_12 : decode cJ1_canEncode_9a6ad 12 = .ok (.goto 4, 3) := by decide +kernel
theorem dJ1_canEncode_9a6ad_15 : decode cJ1_canEncode_9a6ad 15 = .ok (.iconst 0, 1) := by decide +kernel
theorem dJ1_canEncode_9a6ad_16 : decode cJ1_canEncode_9a6ad 16 = .ok (.ireturn, 1) := by decide +kernel
theorem dJ1_indexOf_4cfef_0 : decode cJ1_indexOf_4cfef 0 = .ok (.iload_n 1, 1) := by decide +kernel
theorem dJ1_indexOf_4cfef_1 : decode cJ1_indexOf_4cfef 1 = .ok (.invokestatic 88, 3) := by decide +kernel
theorem dJ1_indexOf_4cfef_4 : decode cJ1_indexOf_4cfef 4 = .ok (.ifCond .ne 5, 3) := by decide +kernel
theorem dJ1_indexOf_4cfef_7 : decode cJ1_indexOf_4cfef 7 = .ok (.iconst (-1), 1) := by decide +kernel
theorem dJ1_indexOf_4cfef_8 : decode cJ1_indexOf_4cfef 8 = .ok (.ireturn, 1) := by decide +kernel
theorem dJ1_indexOf_4cfef_9 : decode cJ1_indexOf_4cfef 9 = .ok (.iload_n 2, 1) := by decide +kernel
theorem dJ1_indexOf_4cfef_10 : decode cJ1_indexOf_4cfef 10 = .ok (.iconst 0, 1) := by decide +kernel
theorem dJ1_indexOf_4cfef_11 : decode cJ1_indexOf_4cfef 11 = .ok (.invokestatic 92, 3) := by decide +kernel
theorem dJ1_indexOf_4cfef_14 : decode cJ1_indexOf_4cfef 14 = .ok (.istore_n 2, 1) := by decide +kernel
theorem dJ1_indexOf_4cfef_15 : decode cJ1_indexOf_4cfef 15 = .ok (.iload_n 3, 1) := by decide +kernel
theorem dJ1_indexOf_4cfef_16 : decode cJ1_indexOf_4cfef 16 = .ok (.aload_n 0, 1) := by decide +kernel
theorem dJ1_indexOf_4cfef_17 : decode cJ1_indexOf_4cfef 17 = .ok (.arraylength, 1) := by decide +kernel
theorem dJ1_indexOf_4cfef_18 : decode cJ1_indexOf_4cfef 18 = .ok (.invokestatic 38, 3) := by decide +kernel
theorem dJ1_indexOf_4cfef_21 : decode cJ1_indexOf_4cfef 21 = .ok (.istore_n 3, 1) := by decide +kernel
theorem dJ1_indexOf_4cfef_22 : decode cJ1_indexOf_4cfef 22 = .ok (.iload_n 2, 1) := by decide +kernel
theorem dJ1_indexOf_4cfef_23 : decode cJ1_indexOf_4cfef 23 = .ok (.iload_n 3, 1) := by decide +kernel
theorem dJ1_indexOf_4cfef_24 : decode cJ1_indexOf_4cfef 24 = .ok (.if_icmp .lt 5, 3) := by decide +kernel
theorem dJ1_indexOf_4cfef_27 : decode cJ1_indexOf_4cfef 27 = .ok (.iconst (-1), 1) := by decide +kernel
theorem dJ1_indexOf_4cfef_28 : decode cJ1_indexOf_4cfef 28 = .ok (.ireturn, 1) := by decide +kernel
theorem dJ1_indexOf_4cfef_29 : decode cJ1_indexOf_4cfef 29 = .ok (.aload_n 0, 1) := by decide +kernel
theorem dJ1_indexOf_4cfef_30 : decode cJ1_indexOf_4cfef 30 = .ok (.iload_n 1, 1) := by decide +kernel
theorem dJ1_indexOf_4cfef_31 : decode cJ1_indexOf_4cfef 31 = .ok (.iload_n 2, 1) := by decide +kernel
theorem dJ1_indexOf_4cfef_32 : decode cJ1_indexOf_4cfef 32 = .ok (.iload_n 3, 1) := by decide +kernel
theorem dJ1_indexOf_4cfef_33 : decode cJ1_indexOf_4cfef 33 = .ok (.invokestatic 95, 3) := by decide +kernel
theorem dJ1_indexOf_4cfef_36 : decode cJ1_indexOf_4cfef 36 = .ok (.ireturn, 1) := by decide +kernel
theorem dJ1_indexOfChar_4cfef_0 : decode cJ1_indexOfChar_4cfef 0 = .ok (.iload_n 1, 1) := by decide +kernel
theorem dJ1_indexOfChar_4cfef_1 : decode cJ1_indexOfChar_4cfef 1 = .ok (.i2b, 1) := by decide +kernel
theorem dJ1_indexOfChar_4cfef_2 : decode cJ1_indexOfChar_4cfef 2 = .ok (.istore 4, 2) := by decide +kernel
theorem dJ1_indexOfChar_4cfef_4 : decode cJ1_indexOfChar_4cfef 4 = .ok (.iload_n 2, 1) := by decide +kernel
theorem dJ1_indexOfChar_4cfef_5 : decode cJ1_indexOfChar_4cfef 5 = .ok (.istore 5, 2) := by decide +kernel
theorem dJ1_indexOfChar_4cfef_7 : decode cJ1_indexOfChar_4cfef 7 = .ok (.iload 5, 2) := by decide +kernel
theorem dJ1_indexOfChar_4cfef_9 : decode cJ1_indexOfChar_4cfef 9 = .ok (.iload_n 3, 1) := by decide +kernel
theorem dJ1_indexOfChar_4cfef_10 : decode cJ1_indexOfChar_4cfef 10 = .ok (.if_icmp .ge 21, 3) := by decide +kernel
theorem dJ1_indexOfChar_4cfef_13 : decode cJ1_indexOfChar_4cfef 13 = .ok (.aload_n 0, 1) := by decide +kernel
theorem dJ1_indexOfChar_4cfef_14 : decode cJ1_indexOfChar_4cfef 14 = .ok (.iload 5, 2) := by decide +kernel
theorem dJ1_indexOfChar_4cfef_16 : decode cJ1_indexOfChar_4cfef 16 = .ok (.baload, 1) := by decide +kernel
theorem dJ1_indexOfChar_4cfef_17 : decode cJ1_indexOfChar_4cfef 17 = .ok (.iload 4, 2) := by decide +kernel
theorem dJ1_indexOfChar_4cfef_19 : decode cJ1_indexOfChar_4cfef 19 = .ok (.if_icmp .ne 6, 3) := by decide +kernel
theorem dJ1_indexOfChar_4cfef_22 : decode cJ1_indexOfChar_4cfef 22 = .ok (.iload 5, 2) := by decide +kernel
theorem dJ1_indexOfChar_4cfef_24 : decode cJ1_indexOfChar_4cfef 24 = .ok (.ireturn, 1) := by decide +kernel
theorem dJ1_indexOfChar_4cfef_25 : decode cJ1_indexOfChar_4cfef 25 = .ok (.iinc 5 1, 3) := by decide +kernel
theorem dJ1_indexOfChar_4cfef_28 : decode cJ1_indexOfChar_4cfef 28 = .ok (.goto (-21), 3) := by decide +kernel
theorem dJ1_indexOfChar_4cfef_31 : decode cJ1_indexOfChar_4cfef 31 = .ok (.iconst (-1), 1) := by decide +kernel
theorem dJ1_indexOfChar_4cfef_32 : decode cJ1_indexOfChar_4cfef 32 = .ok (.ireturn, 1) := by decide +kernel
theorem dJ2_getChar_3b067_0 : decode cJ2_getChar_3b067 0 = .ok (.getstatic 44, 3) := by decide +kernel
theorem dJ2_getChar_3b067_3 : decode cJ2_getChar_3b067 3 = .ok (.ifCond .ne 25, 3) := by decide +kernel
theorem dJ2_getChar_3b067_6 : decode cJ2_getChar_3b067 6 = .ok (.iload_n 1, 1) := by decide +kernel
theorem dJ2_getChar_3b067_7 : decode cJ2_getChar_3b067 7 = .ok (.ifCond .lt 11, 3) := by decide +kernel
theorem dJ2_getChar_3b067_10 : decode cJ2_getChar_3b067 10 = .ok (.iload_n 1, 1) := by decide +kernel
theorem dJ2_getChar_3b067_11 : decode cJ2_getChar_3b067 11 = .ok (.aload_n 0, 1) := by decide +kernel
theorem dJ2_getChar_3b067_12 : decode cJ2_getChar_3b067 12 = .ok (.invokestatic 48, 3) := by decide +kernel
theorem dJ2_getChar_3b067_15 : decode cJ2_getChar_3b067 15 = .ok (.if_icmp .lt 13, 3) := by decide +kernel
theorem dJ2_getChar_3b067_18 : decode cJ2_getChar_3b067 18 = .ok (.new 52, 3) := by decide +kernel
theorem dJ2_getChar_3b067_21 : decode cJ2_getChar_3b067 21 = .ok (.dup, 1) := by decide +kernel
theorem dJ2_getChar_3b067_22 : decode cJ2_getChar_3b067 22 = .ok (.ldc 54, 2) := by decide +kernel
theorem dJ2_getChar_3b067_24 : decode cJ2_getChar_3b067 24 = .ok (.invokespecial 56, 3) := by decide +kernel
theorem dJ2_getChar_3b067_27 : decode cJ2_getChar_3b067 27 = .ok (.athrow, 1) := by decide +kernel
theorem dJ2_getChar_3b067_28 : decode cJ2_getChar_3b067 28 = .ok (.iload_n 1, 1) := by decide +kernel
theorem dJ2_getChar_3b067_29 : decode cJ2_getChar_3b067 29 = .ok (.iconst 1, 1) := by decide +kernel
theorem dJ2_getChar_3b067_30 : decode cJ2_getChar_3b067 30 = .ok (.ishl, 1) := by decide +kernel
theorem dJ2_getChar_3b067_31 : decode cJ2_getChar_3b067 31 = .ok (.istore_n 1, 1) := by decide +kernel
theorem dJ2_getChar_3b067_32 : decode cJ2_getChar_3b067 32 = .ok (.aload_n 0, 1) := by decide +kernel
theorem dJ2_getChar_3b067_33 : decode cJ2_getChar_3b067 33 = .ok (.iload_n 1, 1) := by decide +kernel
theorem dJ2_getChar_3b067_34 : decode cJ2_getChar_3b067 34 = .ok (.iinc 1 1, 3) := by decide +kernel
theorem dJ2_getChar_3b067_37 : decode cJ2_getChar_3b067 37 = .ok (.baload, 1) := by decide +kernel
theorem dJ2_getChar_3b067_38 : decode cJ2_getChar_3b067 38 = .ok (.sipush 255, 3) := by decide +kernel
theorem dJ2_getChar_3b067_41 : decode cJ2_getChar_3b067 41 = .ok (.iand, 1) := by decide +kernel
theorem dJ2_getChar_3b067_42 : decode cJ2_getChar_3b067 42 = .ok (.getstatic 59, 3) := by decide +kernel
theorem dJ2_getChar_3b067_45 : decode cJ2_getChar_3b067 45 = .ok (.ishl, 1) := by decide +kernel
theorem dJ2_getChar_3b067_46 : decode cJ2_getChar_3b067 46 = .ok (.aload_n 0, 1) := by decide +kernel
theorem dJ2_getChar_3b067_47 : decode cJ2_getChar_3b067 47 = .ok (.iload_n 1, 1) := by decide +kernel
theorem dJ2_getChar_3b067_48 : decode cJ2_getChar_3b067 48 = .ok (.baload, 1) := by decide +kernel
theorem dJ2_getChar_3b067_49 : decode cJ2_getChar_3b067 49 = .ok (.sipush 255, 3) := by decide +kernel
theorem dJ2_getChar_3b067_52 : decode cJ2_getChar_3b067 52 = .ok (.iand, 1) := by decide +kernel
theorem dJ2_getChar_3b067_53 : decode cJ2_getChar_3b067 53 = .ok (.getstatic 63, 3) := by decide +kernel
theorem dJ2_getChar_3b067_56 : decode cJ2_getChar_3b067 56 = .ok (.ishl, 1) := by decide +kernel
theorem dJ2_getChar_3b067_57 : decode cJ2_getChar_3b067 57 = .ok (.ior, 1) := by decide +kernel
theorem dJ2_getChar_3b067_58 : decode cJ2_getChar_3b067 58 = .ok (.i2c, 1) := by decide +kernel
theorem dJ2_getChar_3b067_59 : decode cJ2_getChar_3b067 59 = .ok (.ireturn, 1) := by decide +kernel
theorem dJ2_length_9d52b_0 : decode cJ2_length_9d52b 0 = .ok (.aload_n 0, 1) := by decide +kernel
theorem dJ2_length_9d52b_1 : decode cJ2_length_9d52b 1 = .ok (.arraylength, 1) := by decide +kernel
theorem dJ2_length_9d52b_2 : decode cJ2_length_9d52b 2 = .ok (.iconst 1, 1) := by decide +kernel
theorem dJ2_length_9d52b_3 : decode cJ2_length_9d52b 3 = .ok (.ishr, 1) := by decide +kernel
theorem dJ2_length_9d52b_4 : decode cJ2_length_9d52b 4 = .ok (.ireturn, 1) := by decide +kernel
theorem dJ2_indexOf_4cfef_0 : decode cJ2_indexOf_4cfef 0 = .ok (.iload_n 2, 1) := by decide +kernel
theorem dJ2_indexOf_4cfef_1 : decode cJ2_indexOf_4cfef 1 = .ok (.iconst 0, 1) := by decide +kernel
theorem dJ2_indexOf_4cfef_2 : decode cJ2_indexOf_4cfef 2 = .ok (.invokestatic 224, 3) := by decide +kernel
theorem dJ2_indexOf_4cfef_5 : decode cJ2_indexOf_4cfef 5 = .ok (.istore_n 2, 1) := by decide +kernel
theorem dJ2_indexOf_4cfef_6 : decode cJ2_indexOf_4cfef 6 = .ok (.iload_n 3, 1) := by decide +kernel
theorem dJ2_indexOf_4cfef_7 : decode cJ2_indexOf_4cfef 7 = .ok (.aload_n 0, 1) := by decide +kernel
theorem dJ2_indexOf_4cfef_8 : decode cJ2_indexOf_4cfef 8 = .ok (.arraylength, 1) := by decide +kernel
theorem dJ2_indexOf_4cfef_9 : decode cJ2_indexOf_4cfef 9 = .ok (.iconst 1, 1) := by decide +kernel
theorem dJ2_indexOf_4cfef_10 : decode cJ2_indexOf_4cfef 10 = .ok (.ishr, 1) := by decide +kernel
theorem dJ2_indexOf_4cfef_11 : decode cJ2_indexOf_4cfef 11 = .ok (.invokestatic 183, 3) := by decide +kernel
theorem dJ2_indexOf_4cfef_14 : decode cJ2_indexOf_4cfef 14 = .ok (.istore_n 3, 1) := by decide +kernel
theorem dJ2_indexOf_4cfef_15 : decode cJ2_indexOf_4cfef 15 = .ok (.iload_n 2, 1) := by decide +kernel
theorem dJ2_indexOf_4cfef_16 : decode cJ2_indexOf_4cfef 16 = .ok (.iload_n 3, 1) := by decide +kernel
theorem dJ2_indexOf_4cfef_17 : decode cJ2_indexOf_4cfef 17 = .ok (.if_icmp .lt 5, 3) := by decide +kernel
theorem dJ2_indexOf_4cfef_20 : decode cJ2_indexOf_4cfef 20 = .ok (.iconst (-1), 1) := by decide +kernel
theorem dJ2_indexOf_4cfef_21 : decode cJ2_indexOf_4cfef 21 = .ok (.ireturn, 1) := by decide +kernel
theorem dJ2_indexOf_4cfef_22 : decode cJ2_indexOf_4cfef 22 = .ok (.iload_n 1, 1) := by decide +kernel
theorem dJ2_indexOf_4cfef_23 : decode cJ2_indexOf_4cfef 23 = .ok (.ldc 227, 2) := by decide +kernel
theorem dJ2_indexOf_4cfef_25 : decode cJ2_indexOf_4cfef 25 = .ok (.if_icmp .ge 11, 3) := by decide +kernel
theorem dJ2_indexOf_4cfef_28 : decode cJ2_indexOf_4cfef 28 = .ok (.aload_n 0, 1) := by decide +kernel
theorem dJ2_indexOf_4cfef_29 : decode cJ2_indexOf_4cfef 29 = .ok (.iload_n 1, 1) := by decide +kernel
theorem dJ2_indexOf_4cfef_30 : decode cJ2_indexOf_4cfef 30 = .ok (.iload_n 2, 1) := by decide +kernel
theorem dJ2_indexOf_4cfef_31 : decode cJ2_indexOf_4cfef 31 = .ok (.iload_n 3, 1) := by decide +kernel
theorem dJ2_indexOf_4cfef_32 : decode cJ2_indexOf_4cfef 32 = .ok (.invokestatic 228, 3) := by decide +kernel
theorem dJ2_indexOf_4cfef_35 : decode cJ2_indexOf_4cfef 35 = .ok (.ireturn, 1) := by decide +kernel
theorem dJ2_indexOf_4cfef_36 : decode cJ2_indexOf_4cfef 36 = .ok (.aload_n 0, 1) := by decide +kernel
theorem dJ2_indexOf_4cfef_37 : decode cJ2_indexOf_4cfef 37 = .ok (.iload_n 1, 1) := by decide +kernel
theorem dJ2_indexOf_4cfef_38 : decode cJ2_indexOf_4cfef 38 = .ok (.iload_n 2, 1) := by decide +kernel
theorem dJ2_indexOf_4cfef_39 : decode cJ2_indexOf_4cfef 39 = .ok (.iload_n 3, 1) := by decide +kernel
theorem dJ2_indexOf_4cfef_40 : decode cJ2_indexOf_4cfef 40 = .ok (.invokestatic 232, 3) := by decide +kernel
theorem dJ2_indexOf_4cfef_43 : decode cJ2_indexOf_4cfef 43 = .ok (.ireturn, 1) := by decide +kernel
theorem dJ2_indexOfChar_4cfef_0 : decode cJ2_indexOfChar_4cfef 0 = .ok (.iload_n 2, 1) := by decide +kernel
theorem dJ2_indexOfChar_4cfef_1 : decode cJ2_indexOfChar_4cfef 1 = .ok (.iload_n 3, 1) := by decide +kernel
theorem dJ2_indexOfChar_4cfef_2 : decode cJ2_indexOfChar_4cfef 2 = .ok (.aload_n 0, 1) := by decide +kernel
theorem dJ2_indexOfChar_4cfef_3 : decode cJ2_indexOfChar_4cfef 3 = .ok (.invokestatic 96, 3) := by decide +kernel
theorem dJ2_indexOfChar_4cfef_6 : decode cJ2_indexOfChar_4cfef 6 = .ok (.aload_n 0, 1) := by decide +kernel
theorem dJ2_indexOfChar_4cfef_7 : decode cJ2_indexOfChar_4cfef 7 = .ok (.iload_n 1, 1) := by decide +kernel
theorem dJ2_indexOfChar_4cfef_8 : decode cJ2_indexOfChar_4cfef 8 = .ok (.iload_n 2, 1) := by decide +kernel
theorem dJ2_indexOfChar_4cfef_9 : decode cJ2_indexOfChar_4cfef 9 = .ok (.iload_n 3, 1) := by decide +kernel
theorem dJ2_indexOfChar_4cfef_10 : decode cJ2_indexOfChar_4cfef 10 = .ok (.invokestatic 244, 3) := by decide +kernel
theorem dJ2_indexOfChar_4cfef_13 : decode cJ2_indexOfChar_4cfef 13 = .ok (.ireturn, 1) := by decide +kernel
theorem dJ2_indexOfCharUnsafe_4cfef_0 : decode cJ2_indexOfCharUnsafe_4cfef 0 = .ok (.iload_n 2, 1) := by decide +kernel
theorem dJ2_indexOfCharUnsafe_4cfef_1 : decode cJ2_indexOfCharUnsafe_4cfef 1 = .ok (.istore 4, 2) := by decide +kernel
theorem dJ2_indexOfCharUnsafe_4cfef_3 : decode cJ2_indexOfCharUnsafe_4cfef 3 = .ok (.iload 4, 2) := by decide +kernel
theorem dJ2_indexOfCharUnsafe_4cfef_5 : decode cJ2_indexOfCharUnsafe_4cfef 5 = .ok (.iload_n 3, 1) := by decide +kernel
theorem dJ2_indexOfCharUnsafe_4cfef_6 : decode cJ2_indexOfCharUnsafe_4cfef 6 = .ok (.if_icmp .ge 22, 3) := by decide +kernel
theorem dJ2_indexOfCharUnsafe_4cfef_9 : decode cJ2_indexOfCharUnsafe_4cfef 9 = .ok (.aload_n 0, 1) := by decide +kernel
theorem dJ2_indexOfCharUnsafe_4cfef_10 : decode cJ2_indexOfCharUnsafe_4cfef 10 = .ok (.iload 4, 2) := by decide +kernel
theorem dJ2_indexOfCharUnsafe_4cfef_12 : decode cJ2_indexOfCharUnsafe_4cfef 12 = .ok (.invokestatic 71, 3) := by decide +kernel
theorem dJ2_indexOfCharUnsafe_4cfef_15 : decode cJ2_indexOfCharUnsafe_4cfef 15 = .ok (.iload_n 1, 1) := by decide +kernel
theorem dJ2_indexOfCharUnsafe_4cfef_16 : decode cJ2_indexOfCharUnsafe_4cfef 16 = .ok (.if_icmp .ne 6, 3) := by decide +kernel
theorem dJ2_indexOfCharUnsafe_4cfef_19 : decode cJ2_indexOfCharUnsafe_4cfef 19 = .ok (.iload 4, 2) := by decide +kernel
theorem dJ2_indexOfCharUnsafe_4cfef_21 : decode cJ2_indexOfCharUnsafe_4cfef 21 = .ok (.ireturn, 1) := by decide +kernel
theorem dJ2_indexOfCharUnsafe_4cfef_22 : decode cJ2_indexOfCharUnsafe_4cfef 22 = .ok (.iinc 4 1, 3) := by decide +kernel
theorem dJ2_indexOfCharUnsafe_4cfef_25 : decode cJ2_indexOfCharUnsafe_4cfef 25 = .ok (.goto (-22), 3) := by decide +kernel
theorem dJ2_indexOfCharUnsafe_4cfef_28 : decode cJ2_indexOfCharUnsafe_4cfef 28 = .ok (.iconst (-1), 1) := by decide +kernel
theorem dJ2_indexOfCharUnsafe_4cfef_29 : decode cJ2_indexOfCharUnsafe_4cfef 29 = .ok (.ireturn, 1) := by decide +kernel
theorem dJ2_indexOfSupplementary_4cfef_0 : decode cJ2_indexOfSupplementary_4cfef 0 = .ok (.iload_n 1, 1) := by decide +kernel
theorem dJ2_indexOfSupplementary_4cfef_1 : decode cJ2_indexOfSupplementary_4cfef 1 = .ok (.invokestatic 164, 3) := by decide +kernel
theorem dJ2_indexOfSupplementary_4cfef_4 : decode cJ2_indexOfSupplementary_4cfef 4 = .ok (.ifCond .eq 65, 3) := by decide +kernel
theorem dJ2_indexOfSupplementary_4cfef_7 : decode cJ2_indexOfSupplementary_4cfef 7 = .ok (.iload_n 1, 1) := by decide +kernel
theorem dJ2_indexOfSupplementary_4cfef_8 : decode cJ2_indexOfSupplementary_4cfef 8 = .ok (.invokestatic 157, 3) := by decide +kernel
theorem dJ2_indexOfSupplementary_4cfef_11 : decode cJ2_indexOfSupplementary_4cfef 11 = .ok (.istore 4, 2) := by decide +kernel
theorem dJ2_indexOfSupplementary_4cfef_13 : decode cJ2_indexOfSupplementary_4cfef 13 = .ok (.iload_n 1, 1) := by decide +kernel
theorem dJ2_indexOfSupplementary_4cfef_14 : decode cJ2_indexOfSupplementary_4cfef 14 = .ok (.invokestatic 161, 3) := by decide +kernel
theorem dJ2_indexOfSupplementary_4cfef_17 : decode cJ2_indexOfSupplementary_4cfef 17 = .ok (.istore 5, 2) := by decide +kernel
theorem dJ2_indexOfSupplementary_4cfef_19 : decode cJ2_indexOfSupplementary_4cfef 19 = .ok (.iload_n 2, 1) := by decide +kernel
theorem dJ2_indexOfSupplementary_4cfef_20 : decode cJ2_indexOfSupplementary_4cfef 20 = .ok (.iload_n 3, 1) := by decide +kernel
theorem dJ2_indexOfSupplementary_4cfef_21 : decode cJ2_indexOfSupplementary_4cfef 21 = .ok (.aload_n 0, 1) := by decide +kernel
theorem dJ2_indexOfSupplementary_4cfef_22 : decode cJ2_indexOfSupplementary_4cfef 22 = .ok (.invokestatic 96, 3) := by decide +kernel
theorem dJ2_indexOfSupplementary_4cfef_25 : decode cJ2_indexOfSupplementary_4cfef 25 = .ok (.iload_n 2, 1) := by decide +kernel
theorem dJ2_indexOfSupplementary_4cfef_26 : decode cJ2_indexOfSupplementary_4cfef 26 = .ok (.istore 6, 2) := by decide +kernel
theorem dJ2_indexOfSupplementary_4cfef_28 : decode cJ2_indexOfSupplementary_4cfef 28 = .ok (.iload 6, 2) := by decide +kernel
theorem dJ2_indexOfSupplementary_4cfef_30 : decode cJ2_indexOfSupplementary_4cfef 30 = .ok (.iload_n 3, 1) := by decide +kernel
theorem dJ2_indexOfSupplementary_4cfef_31 : decode cJ2_indexOfSupplementary_4cfef 31 = .ok (.iconst 1, 1) := by decide +kernel
theorem dJ2_indexOfSupplementary_4cfef_32 : decode cJ2_indexOfSupplementary_4cfef 32 = .ok (.isub, 1) := by decide +kernel
theorem dJ2_indexOfSupplementary_4cfef_33 : decode cJ2_indexOfSupplementary_4cfef 33 = .ok (.if_icmp .ge 36, 3) := by decide +kernel
theorem dJ2_indexOfSupplementary_4cfef_36 : decode cJ2_indexOfSupplementary_4cfef 36 = .ok (.aload_n 0, 1) := by decide +kernel
theorem dJ2_indexOfSupplementary_4cfef_37 : decode cJ2_indexOfSupplementary_4cfef 37 = .ok (.iload 6, 2) := by decide +kernel
theorem dJ2_indexOfSupplementary_4cfef_39 : decode cJ2_indexOfSupplementary_4cfef 39 = .ok (.invokestatic 71, 3) := by decide +kernel
theorem dJ2_indexOfSupplementary_4cfef_42 : decode cJ2_indexOfSupplementary_4cfef 42 = .ok (.iload 4, 2) := by decide +kernel
theorem dJ2_indexOfSupplementary_4cfef_44 : decode cJ2_indexOfSupplementary_4cfef 44 = .ok (.if_icmp .ne 19, 3) := by decide +kernel
theorem dJ2_indexOfSupplementary_4cfef_47 : decode cJ2_indexOfSupplementary_4cfef 47 = .ok (.aload_n 0, 1) := by decide +kernel
theorem dJ2_indexOfSupplementary_4cfef_48 : decode cJ2_indexOfSupplementary_4cfef 48 = .ok (.iload 6, 2) := by decide +kernel
theorem dJ2_indexOfSupplementary_4cfef_50 : decode cJ2_indexOfSupplementary_4cfef 50 = .ok (.iconst 1, 1) := by decide +kernel
theorem dJ2_indexOfSupplementary_4cfef_51 : decode cJ2_indexOfSupplementary_4cfef 51 = .ok (.iadd, 1) := by decide +kernel
theorem dJ2_indexOfSupplementary_4cfef_52 : decode cJ2_indexOfSupplementary_4cfef 52 = .ok (.invokestatic 71, 3) := by decide +kernel
theorem dJ2_indexOfSupplementary_4cfef_55 : decode cJ2_indexOfSupplementary_4cfef 55 = .ok (.iload 5, 2) := by decide +kernel
theorem dJ2_indexOfSupplementary_4cfef_57 : decode cJ2_indexOfSupplementary_4cfef 57 = .ok (.if_icmp .ne 6, 3) := by decide +kernel
theorem dJ2_indexOfSupplementary_4cfef_60 : decode cJ2_indexOfSupplementary_4cfef 60 = .ok (.iload 6, 2) := by decide +kernel
theorem dJ2_indexOfSupplementary_4cfef_62 : decode cJ2_indexOfSupplementary_4cfef 62 = .ok (.ireturn, 1) := by decide +kernel
theorem dJ2_indexOfSupplementary_4cfef_63 : decode cJ2_indexOfSupplementary_4cfef 63 = .ok (.iinc 6 1, 3) := by decide +kernel
theorem dJ2_indexOfSupplementary_4cfef_66 : decode cJ2_indexOfSupplementary_4cfef 66 = .ok (.goto (-38), 3) := by decide +kernel
theorem dJ2_indexOfSupplementary_4cfef_69 : decode cJ2_indexOfSupplementary_4cfef 69 = .ok (.iconst (-1), 1) := by decide +kernel
theorem dJ2_indexOfSupplementary_4cfef_70 : decode cJ2_indexOfSupplementary_4cfef 70 = .ok (.ireturn, 1) := by decide +kernel
theorem dJ2_checkBoundsBeginEnd_d044e_0 : decode cJ2_checkBoundsBeginEnd_d044e 0 = .ok (.iload_n 0, 1) := by decide +kernel
theorem dJ2_checkBoundsBeginEnd_d044e_1 : decode cJ2_checkBoundsBeginEnd_d044e 1 = .ok (.iload_n 1, 1) := by decide +kernel
theorem dJ2_checkBoundsBeginEnd_d044e_2 : decode cJ2_checkBoundsBeginEnd_d044e 2 = .ok (.aload_n 2, 1) := by decide +kernel
theorem dJ2_checkBoundsBeginEnd_d044e_3 : decode cJ2_checkBoundsBeginEnd_d044e 3 = .ok (.invokestatic 48, 3) := by decide +kernel
theorem dJ2_checkBoundsBeginEnd_d044e_6 : decode cJ2_checkBoundsBeginEnd_d044e 6 = .ok (.invokestatic 241, 3) := by decide +kernel
theorem dJ2_checkBoundsBeginEnd_d044e_9 : decode cJ2_checkBoundsBeginEnd_d044e 9 = .ok (.return_, 1) := by decide +kernel
theorem dJ7_fill_53178_0 : decode cJ7_fill_53178 0 = .ok (.iconst 0, 1) := by decide +kernel
theorem dJ7_fill_53178_1 : decode cJ7_fill_53178 1 = .ok (.istore_n 2, 1) := by decide +kernel
theorem dJ7_fill_53178_2 : decode cJ7_fill_53178 2 = .ok (.aload_n 0, 1) := by decide +kernel
theorem dJ7_fill_53178_3 : decode cJ7_fill_53178 3 = .ok (.arraylength, 1) := by decide +kernel
theorem dJ7_fill_53178_4 : decode cJ7_fill_53178 4 = .ok (.istore_n 3, 1) := by decide +kernel
theorem dJ7_fill_53178_5 : decode cJ7_fill_53178 5 = .ok (.iload_n 2, 1) := by decide +kernel
theorem dJ7_fill_53178_6 : decode cJ7_fill_53178 6 = .ok (.iload_n 3, 1) := by decide +kernel
theorem dJ7_fill_53178_7 : decode cJ7_fill_53178 7 = .ok (.if_icmp .ge 13, 3) := by decide +kernel
theorem dJ7_fill_53178_10 : decode cJ7_fill_53178 10 = .ok (.aload_n 0, 1) := by decide +kernel
theorem dJ7_fill_53178_11 : decode cJ7_fill_53178 11 = .ok (.iload_n 2, 1) := by decide +kernel
theorem dJ7_fill_53178_12 : decode cJ7_fill_53178 12 = .ok (.iload_n 1, 1) := by decide +kernel
theorem dJ7_fill_53178_13 : decode cJ7_fill_53178 13 = .ok (.iastore, 1) := by decide +kernel
theorem dJ7_fill_53178_14 : decode cJ7_fill_53178 14 = .ok (.iinc 2 1, 3) := by decide +kernel
theorem dJ7_fill_53178_17 : decode cJ7_fill_53178 17 = .ok (.goto (-12), 3) := by decide +kernel
theorem dJ7_fill_53178_20 : decode cJ7_fill_53178 20 = .ok (.return_, 1) := by decide +kernel
theorem dJ3_checkFromToIndex_8c36e_0 : decode cJ3_checkFromToIndex_8c36e 0 = .ok (.iload_n 0, 1) := by decide +kernel
theorem dJ3_checkFromToIndex_8c36e_1 : decode cJ3_checkFromToIndex_8c36e 1 = .ok (.ifCond .lt 13, 3) := by decide +kernel
theorem dJ3_checkFromToIndex_8c36e_4 : decode cJ3_checkFromToIndex_8c36e 4 = .ok (.iload_n 0, 1) := by decide +kernel
theorem dJ3_checkFromToIndex_8c36e_5 : decode cJ3_checkFromToIndex_8c36e 5 = .ok (.iload_n 1, 1) := by decide +kernel
theorem dJ3_checkFromToIndex_8c36e_6 : decode cJ3_checkFromToIndex_8c36e 6 = .ok (.if_icmp .gt 8, 3) := by decide +kernel
theorem dJ3_checkFromToIndex_8c36e_9 : decode cJ3_checkFromToIndex_8c36e 9 = .ok (.iload_n 1, 1) := by decide +kernel
theorem dJ3_checkFromToIndex_8c36e_10 : decode cJ3_checkFromToIndex_8c36e 10 = .ok (.iload_n 2, 1) := by decide +kernel
theorem dJ3_checkFromToIndex_8c36e_11 : decode cJ3_checkFromToIndex_8c36e 11 = .ok (.if_icmp .le 11, 3) := by decide +kernel
theorem dJ3_checkFromToIndex_8c36e_14 : decode cJ3_checkFromToIndex_8c36e 14 = .ok (.aload_n 3, 1) := by decide +kernel
theorem dJ3_checkFromToIndex_8c36e_15 : decode cJ3_checkFromToIndex_8c36e 15 = .ok (.iload_n 0, 1) := by decide +kernel
theorem dJ3_checkFromToIndex_8c36e_16 : decode cJ3_checkFromToIndex_8c36e 16 = .ok (.iload_n 1, 1) := by decide +kernel
theorem dJ3_checkFromToIndex_8c36e_17 : decode cJ3_checkFromToIndex_8c36e 17 = .ok (.iload_n 2, 1) := by decide +kernel
theorem dJ3_checkFromToIndex_8c36e_18 : decode cJ3_checkFromToIndex_8c36e 18 = .ok (.invokestatic 99, 3) := by decide +kernel
theorem dJ3_checkFromToIndex_8c36e_21 : decode cJ3_checkFromToIndex_8c36e 21 = .ok (.athrow, 1) := by decide +kernel
theorem dJ3_checkFromToIndex_8c36e_22 : decode cJ3_checkFromToIndex_8c36e 22 = .ok (.iload_n 0, 1) := by decide +kernel
theorem dJ3_checkFromToIndex_8c36e_23 : decode cJ3_checkFromToIndex_8c36e 23 = .ok (.ireturn, 1) := by decide +kernel
theorem dX10_init_0 : decode cX10_init 0 = .ok (.aload_n 0, 1) := by decide +kernel
theorem dX10_init_1 : decode cX10_init 1 = .ok (.invokespecial 3, 3) := by decide +kernel
theorem dX10_init_4 : decode cX10_init 4 = .ok (.aload_n 0, 1) := by decide +kernel
theorem dX10_init_5 : decode cX10_init 5 = .ok (.bipush 16, 2) := by decide +kernel
theorem dX10_init_7 : decode cX10_init 7 = .ok (.newarray .int, 2) := by decide +kernel
theorem dX10_init_9 : decode cX10_init 9 = .ok (.putfield 9, 3) := by decide +kernel
theorem dX10_init_12 : decode cX10_init 12 = .ok (.aload_n 0, 1) := by decide +kernel
theorem dX10_init_13 : decode cX10_init 13 = .ok (.bipush 16, 2) := by decide +kernel
theorem dX10_init_15 : decode cX10_init 15 = .ok (.newarray .int, 2) := by decide +kernel
theorem dX10_init_17 : decode cX10_init 17 = .ok (.putfield 15, 3) := by decide +kernel
theorem dX10_init_20 : decode cX10_init 20 = .ok (.aload_n 0, 1) := by decide +kernel
theorem dX10_init_21 : decode cX10_init 21 = .ok (.bipush 8, 2) := by decide +kernel
theorem dX10_init_23 : decode cX10_init 23 = .ok (.newarray .int, 2) := by decide +kernel
theorem dX10_init_25 : decode cX10_init 25 = .ok (.putfield 18, 3) := by decide +kernel
theorem dX10_init_28 : decode cX10_init 28 = .ok (.aload_n 0, 1) := by decide +kernel
theorem dX10_init_29 : decode cX10_init 29 = .ok (.bipush 8, 2) := by decide +kernel
theorem dX10_init_31 : decode cX10_init 31 = .ok (.newarray .int, 2) := by decide +kernel
theorem dX10_init_33 : decode cX10_init 33 = .ok (.putfield 21, 3) := by decide +kernel
theorem dX10_init_36 : decode cX10_init 36 = .ok (.aload_n 0, 1) := by decide +kernel
theorem dX10_init_37 : decode cX10_init 37 = .ok (.bipush 8, 2) := by decide +kernel
theorem dX10_init_39 : decode cX10_init 39 = .ok (.newarray .int, 2) := by decide +kernel
theorem dX10_init_41 : decode cX10_init 41 = .ok (.putfield 24, 3) := by decide +kernel
theorem dX10_init_44 : decode cX10_init 44 = .ok (.aload_n 0, 1) := by decide +kernel
theorem dX10_init_45 : decode cX10_init 45 = .ok (.bipush 8, 2) := by decide +kernel
theorem dX10_init_47 : decode cX10_init 47 = .ok (.newarray .int, 2) := by decide +kernel
theorem dX10_init_49 : decode cX10_init 49 = .ok (.putfield 27, 3) := by decide +kernel
theorem dX10_init_52 : decode cX10_init 52 = .ok (.aload_n 0, 1) := by decide +kernel
theorem dX10_init_53 : decode cX10_init 53 = .ok (.bipush 8, 2) := by decide +kernel
theorem dX10_init_55 : decode cX10_init 55 = .ok (.newarray .int, 2) := by decide +kernel
theorem dX10_init_57 : decode cX10_init 57 = .ok (.putfield 30, 3) := by decide +kernel
theorem dX10_init_60 : decode cX10_init 60 = .ok (.aload_n 0, 1) := by decide +kernel
theorem dX10_init_61 : decode cX10_init 61 = .ok (.bipush 8, 2) := by decide +kernel
theorem dX10_init_63 : decode cX10_init 63 = .ok (.newarray .int, 2) := by decide +kernel
theorem dX10_init_65 : decode cX10_init 65 = .ok (.putfield 33, 3) := by decide +kernel
theorem dX10_init_68 : decode cX10_init 68 = .ok (.aload_n 0, 1) := by decide +kernel
theorem dX10_init_69 : decode cX10_init 69 = .ok (.iconst 1, 1) := by decide +kernel
theorem dX10_init_70 : decode cX10_init 70 = .ok (.putfield 36, 3) := by decide +kernel
theorem dX10_init_73 : decode cX10_init 73 = .ok (.aload_n 0, 1) := by decide +kernel
theorem dX10_init_74 : decode cX10_init 74 = .ok (.bipush 7, 2) := by decide +kernel
theorem dX10_init_76 : decode cX10_init 76 = .ok (.putfield 40, 3) := by decide +kernel
theorem dX10_init_79 : decode cX10_init 79 = .ok (.aload_n 0, 1) := by decide +kernel
theorem dX10_init_80 : decode cX10_init 80 = .ok (.aload_n 1, 1) := by decide +kernel
theorem dX10_init_81 : decode cX10_init 81 = .ok (.putfield 43, 3) := by decide +kernel
theorem dX10_init_84 : decode cX10_init 84 = .ok (.iconst 0, 1) := by decide +kernel
theorem dX10_init_85 : decode cX10_init 85 = .ok (.istore_n 2, 1) := by decide +kernel
theorem dX10_init_86 : decode cX10_init 86 = .ok (.iload_n 2, 1) := by decide +kernel
theorem dX10_init_87 : decode cX10_init 87 = .ok (.bipush 16, 2) := by decide +kernel
theorem dX10_init_89 : decode cX10_init 89 = .ok (.if_icmp .ge 28, 3) := by decide +kernel
theorem dX10_init_92 : decode cX10_init 92 = .ok (.aload_n 0, 1) := by decide +kernel
theorem dX10_init_93 : decode cX10_init 93 = .ok (.getfield 9, 3) := by decide +kernel
theorem dX10_init_96 : decode cX10_init 96 = .ok (.iload_n 2, 1) := by decide +kernel
theorem dX10_init_97 : decode cX10_init 97 = .ok (.iconst 3, 1) := by decide +kernel
theorem dX10_init_98 : decode cX10_init 98 = .ok (.iastore, 1) := by decide +kernel
theorem dX10_init_99 : decode cX10_init 99 = .ok (.aload_n 0, 1) := by decide +kernel
theorem dX10_init_100 : decode cX10_init 100 = .ok (.getfield 15, 3) := by decide +kernel
theorem dX10_init_103 : decode cX10_init 103 = .ok (.iload_n 2, 1) := by decide +kernel
theorem dX10_init_104 : decode cX10_init 104 = .ok (.iload_n 2, 1) := by decide +kernel
theorem dX10_init_105 : decode cX10_init 105 = .ok (.iconst 1, 1) := by decide +kernel
theorem dX10_init_106 : decode cX10_init 106 = .ok (.iadd, 1) := by decide +kernel
theorem dX10_init_107 : decode cX10_init 107 = .ok (.bipush 16, 2) := by decide +kernel
theorem dX10_init_109 : decode cX10_init 109 = .ok (.irem, 1) := by decide +kernel
theorem dX10_init_110 : decode cX10_init 110 = .ok (.iastore, 1) := by decide +kernel
theorem dX10_init_111 : decode cX10_init 111 = .ok (.iinc 2 1, 3) := by decide +kernel
theorem dX10_init_114 : decode cX10_init 114 = .ok (.goto (-28), 3) := by decide +kernel
theorem dX10_init_117 : decode cX10_init 117 = .ok (.return_, 1) := by decide +kernel
theorem dX10_copy_0 : decode cX10_copy 0 = .ok (.aload_n 1, 1) := by decide +kernel
theorem dX10_copy_1 : decode cX10_copy 1 = .ok (.getfield 9, 3) := by decide +kernel
theorem dX10_copy_4 : decode cX10_copy 4 = .ok (.iconst 0, 1) := by decide +kernel
theorem dX10_copy_5 : decode cX10_copy 5 = .ok (.aload_n 0, 1) := by decide +kernel
theorem dX10_copy_6 : decode cX10_copy 6 = .ok (.getfield 9, 3) := by decide +kernel
theorem dX10_copy_9 : decode cX10_copy 9 = .ok (.iconst 0, 1) := by decide +kernel
theorem dX10_copy_10 : decode cX10_copy 10 = .ok (.bipush 16, 2) := by decide +kernel
theorem dX10_copy_12 : decode cX10_copy 12 = .ok (.invokestatic 47, 3) := by decide +kernel
theorem dX10_copy_15 : decode cX10_copy 15 = .ok (.aload_n 1, 1) := by decide +kernel
theorem dX10_copy_16 : decode cX10_copy 16 = .ok (.getfield 15, 3) := by decide +kernel
theorem dX10_copy_19 : decode cX10_copy 19 = .ok (.iconst 0, 1) := by decide +kernel
theorem dX10_copy_20 : decode cX10_copy 20 = .ok (.aload_n 0, 1) := by decide +kernel
theorem dX10_copy_21 : decode cX10_copy 21 = .ok (.getfield 15, 3) := by decide +kernel
theorem dX10_copy_24 : decode cX10_copy 24 = .ok (.iconst 0, 1) := by decide +kernel
theorem dX10_copy_25 : decode cX10_copy 25 = .ok (.bipush 16, 2) := by decide +kernel
theorem dX10_copy_27 : decode cX10_copy 27 = .ok (.invokestatic 47, 3) := by decide +kernel
theorem dX10_copy_30 : decode cX10_copy 30 = .ok (.aload_n 1, 1) := by decide +kernel
theorem dX10_copy_31 : decode cX10_copy 31 = .ok (.getfield 18, 3) := by decide +kernel
theorem dX10_copy_34 : decode cX10_copy 34 = .ok (.iconst 0, 1) := by decide +kernel
theorem dX10_copy_35 : decode cX10_copy 35 = .ok (.aload_n 0, 1) := by decide +kernel
theorem dX10_copy_36 : decode cX10_copy 36 = .ok (.getfield 18, 3) := by decide +kernel
theorem dX10_copy_39 : decode cX10_copy 39 = .ok (.iconst 0, 1) := by decide +kernel
theorem dX10_copy_40 : decode cX10_copy 40 = .ok (.bipush 8, 2) := by decide +kernel
theorem dX10_copy_42 : decode cX10_copy 42 = .ok (.invokestatic 47, 3) := by decide +kernel
theorem dX10_copy_45 : decode cX10_copy 45 = .ok (.aload_n 1, 1) := by decide +kernel
theorem dX10_copy_46 : decode cX10_copy 46 = .ok (.getfield 21, 3) := by decide +kernel
theorem dX10_copy_49 : decode cX10_copy 49 = .ok (.iconst 0, 1) := by decide +kernel
theorem dX10_copy_50 : decode cX10_copy 50 = .ok (.aload_n 0, 1) := by decide +kernel
theorem dX10_copy_51 : decode cX10_copy 51 = .ok (.getfield 21, 3) := by decide +kernel
theorem dX10_copy_54 : decode cX10_copy 54 = .ok (.iconst 0, 1) := by decide +kernel
theorem dX10_copy_55 : decode cX10_copy 55 = .ok (.bipush 8, 2) := by decide +kernel
theorem dX10_copy_57 : decode cX10_copy 57 = .ok (.invokestatic 47, 3) := by decide +kernel
theorem dX10_copy_60 : decode cX10_copy 60 = .ok (.aload_n 1, 1) := by decide +kernel
theorem dX10_copy_61 : decode cX10_copy 61 = .ok (.getfield 24, 3) := by decide +kernel
theorem dX10_copy_64 : decode cX10_copy 64 = .ok (.iconst 0, 1) := by decide +kernel
theorem dX10_copy_65 : decode cX10_copy 65 = .ok (.aload_n 0, 1) := by decide +kernel
theorem dX10_copy_66 : decode cX10_copy 66 = .ok (.getfield 24, 3) := by decide +kernel
theorem dX10_copy_69 : decode cX10_copy 69 = .ok (.iconst 0, 1) := by decide +kernel
theorem dX10_copy_70 : decode cX10_copy 70 = .ok (.bipush 8, 2) := by decide +kernel
theorem dX10_copy_72 : decode cX10_copy 72 = .ok (.invokestatic 47, 3) := by decide +kernel
theorem dX10_copy_75 : decode cX10_copy 75 = .ok (.aload_n 1, 1) := by decide +kernel
theorem dX10_copy_76 : decode cX10_copy 76 = .ok (.getfield 27, 3) := by decide +kernel
theorem dX10_copy_79 : decode cX10_copy 79 = .ok (.iconst 0, 1) := by decide +kernel
theorem dX10_copy_80 : decode cX10_copy 80 = .ok (.aload_n 0, 1) := by decide +kernel
theorem dX10_copy_81 : decode cX10_copy 81 = .ok (.getfield 27, 3) := by decide +kernel
theorem dX10_copy_84 : decode cX10_copy 84 = .ok (.iconst 0, 1) := by decide +kernel
theorem dX10_copy_85 : decode cX10_copy 85 = .ok (.bipush 8, 2) := by decide +kernel
theorem dX10_copy_87 : decode cX10_copy 87 = .ok (.invokestatic 47, 3) := by decide +kernel
theorem dX10_copy_90 : decode cX10_copy 90 = .ok (.aload_n 1, 1) := by decide +kernel
theorem dX10_copy_91 : decode cX10_copy 91 = .ok (.getfield 30, 3) := by decide +kernel
theorem dX10_copy_94 : decode cX10_copy 94 = .ok (.iconst 0, 1) := by decide +kernel
theorem dX10_copy_95 : decode cX10_copy 95 = .ok (.aload_n 0, 1) := by decide +kernel
theorem dX10_copy_96 : decode cX10_copy 96 = .ok (.getfield 30, 3) := by decide +kernel
theorem dX10_copy_99 : decode cX10_copy 99 = .ok (.iconst 0, 1) := by decide +kernel
theorem dX10_copy_100 : decode cX10_copy 100 = .ok (.bipush 8, 2) := by decide +kernel
theorem dX10_copy_102 : decode cX10_copy 102 = .ok (.invokestatic 47, 3) := by decide +kernel
theorem dX10_copy_105 : decode cX10_copy 105 = .ok (.aload_n 1, 1) := by decide +kernel
theorem dX10_copy_106 : decode cX10_copy 106 = .ok (.getfield 33, 3) := by decide +kernel
theorem dX10_copy_109 : decode cX10_copy 109 = .ok (.iconst 0, 1) := by decide +kernel
theorem dX10_copy_110 : decode cX10_copy 110 = .ok (.aload_n 0, 1) := by decide +kernel
theorem dX10_copy_111 : decode cX10_copy 111 = .ok (.getfield 33, 3) := by decide +kernel
theorem dX10_copy_114 : decode cX10_copy 114 = .ok (.iconst 0, 1) := by decide +kernel
theorem dX10_copy_115 : decode cX10_copy 115 = .ok (.bipush 8, 2) := by decide +kernel
theorem dX10_copy_117 : decode cX10_copy 117 = .ok (.invokestatic 47, 3) := by decide +kernel
theorem dX10_copy_120 : decode cX10_copy 120 = .ok (.aload_n 0, 1) := by decide +kernel
theorem dX10_copy_121 : decode cX10_copy 121 = .ok (.aload_n 1, 1) := by decide +kernel
theorem dX10_copy_122 : decode cX10_copy 122 = .ok (.getfield 53, 3) := by decide +kernel
theorem dX10_copy_125 : decode cX10_copy 125 = .ok (.putfield 53, 3) := by decide +kernel
theorem dX10_copy_128 : decode cX10_copy 128 = .ok (.aload_n 0, 1) := by decide +kernel
theorem dX10_copy_129 : decode cX10_copy 129 = .ok (.aload_n 1, 1) := by decide +kernel
theorem dX10_copy_130 : decode cX10_copy 130 = .ok (.getfield 36, 3) := by decide +kernel
theorem dX10_copy_133 : decode cX10_copy 133 = .ok (.putfield 36, 3) := by decide +kernel
theorem dX10_copy_136 : decode cX10_copy 136 = .ok (.aload_n 0, 1) := by decide +kernel
theorem dX10_copy_137 : decode cX10_copy 137 = .ok (.aload_n 1, 1) := by decide +kernel
theorem dX10_copy_138 : decode cX10_copy 138 = .ok (.getfield 40, 3) := by decide +kernel
theorem dX10_copy_141 : decode cX10_copy 141 = .ok (.putfield 40, 3) := by decide +kernel
theorem dX10_copy_144 : decode cX10_copy 144 = .ok (.aload_n 0, 1) := by decide +kernel
theorem dX10_copy_145 : decode cX10_copy 145 = .ok (.aload_n 1, 1) := by decide +kernel
theorem dX10_copy_146 : decode cX10_copy 146 = .ok (.getfield 56, 3) := by decide +kernel
theorem dX10_copy_149 : decode cX10_copy 149 = .ok (.putfield 56, 3) := by decide +kernel
theorem dX10_copy_152 : decode cX10_copy 152 = .ok (.aload_n 0, 1) := by decide +kernel
theorem dX10_copy_153 : decode cX10_copy 153 = .ok (.aload_n 1, 1) := by decide +kernel
theorem dX10_copy_154 : decode cX10_copy 154 = .ok (.getfield 59, 3) := by decide +kernel
theorem dX10_copy_157 : decode cX10_copy 157 = .ok (.putfield 59, 3) := by decide +kernel
theorem dX10_copy_160 : decode cX10_copy 160 = .ok (.return_, 1) := by decide +kernel
theorem dX10_welcome_0 : decode cX10_welcome 0 = .ok (.aload_n 0, 1) := by decide +kernel
theorem dX10_welcome_1 : decode cX10_welcome 1 = .ok (.getfield 53, 3) := by decide +kernel
theorem dX10_welcome_4 : decode cX10_welcome 4 = .ok (.istore 4, 2) := by decide +kernel
theorem dX10_welcome_6 : decode cX10_welcome 6 = .ok (.iload 4, 2) := by decide +kernel
theorem dX10_welcome_8 : decode cX10_welcome 8 = .ok (.ifCond .lt 10, 3) := by decide +kernel
theorem dX10_welcome_11 : decode cX10_welcome 11 = .ok (.iload 4, 2) := by decide +kernel
theorem dX10_welcome_13 : decode cX10_welcome 13 = .ok (.bipush 8, 2) := by decide +kernel
theorem dX10_welcome_15 : decode cX10_welcome 15 = .ok (.if_icmp .lt 5, 3) := by decide +kernel
theorem dX10_welcome_18 : decode cX10_welcome 18 = .ok (.iconst (-1), 1) := by decide +kernel
theorem dX10_welcome_19 : decode cX10_welcome 19 = .ok (.ireturn, 1) := by decide +kernel
theorem dX10_welcome_20 : decode cX10_welcome 20 = .ok (.aload_n 0, 1) := by decide +kernel
theorem dX10_welcome_21 : decode cX10_welcome 21 = .ok (.getfield 18, 3) := by decide +kernel
theorem dX10_welcome_24 : decode cX10_welcome 24 = .ok (.iload 4, 2) := by decide +kernel
theorem dX10_welcome_26 : decode cX10_welcome 26 = .ok (.iload_n 1, 1) := by decide +kernel
theorem dX10_welcome_27 : decode cX10_welcome 27 = .ok (.bipush 10, 2) := by decide +kernel
theorem dX10_welcome_29 : decode cX10_welcome 29 = .ok (.idiv, 1) := by decide +kernel
theorem dX10_welcome_30 : decode cX10_welcome 30 = .ok (.iastore, 1) := by decide +kernel
theorem dX10_welcome_31 : decode cX10_welcome 31 = .ok (.aload_n 0, 1) := by decide +kernel
theorem dX10_welcome_32 : decode cX10_welcome 32 = .ok (.getfield 21, 3) := by decide +kernel
theorem dX10_welcome_35 : decode cX10_welcome 35 = .ok (.iload 4, 2) := by decide +kernel
theorem dX10_welcome_37 : decode cX10_welcome 37 = .ok (.iload_n 1, 1) := by decide +kernel
theorem dX10_welcome_38 : decode cX10_welcome 38 = .ok (.bipush 10, 2) := by decide +kernel
theorem dX10_welcome_40 : decode cX10_welcome 40 = .ok (.irem, 1) := by decide +kernel
theorem dX10_welcome_41 : decode cX10_welcome 41 = .ok (.iastore, 1) := by decide +kernel
theorem dX10_welcome_42 : decode cX10_welcome 42 = .ok (.aload_n 0, 1) := by decide +kernel
theorem dX10_welcome_43 : decode cX10_welcome 43 = .ok (.getfield 24, 3) := by decide +kernel
theorem dX10_welcome_46 : decode cX10_welcome 46 = .ok (.iload 4, 2) := by decide +kernel
theorem dX10_welcome_48 : decode cX10_welcome 48 = .ok (.iload_n 2, 1) := by decide +kernel
theorem dX10_welcome_49 : decode cX10_welcome 49 = .ok (.iastore, 1) := by decide +kernel
theorem dX10_welcome_50 : decode cX10_welcome 50 = .ok (.aload_n 0, 1) := by decide +kernel
theorem dX10_welcome_51 : decode cX10_welcome 51 = .ok (.getfield 33, 3) := by decide +kernel
theorem dX10_welcome_54 : decode cX10_welcome 54 = .ok (.iload 4, 2) := by decide +kernel
theorem dX10_welcome_56 : decode cX10_welcome 56 = .ok (.iconst 0, 1) := by decide +kernel
theorem dX10_welcome_57 : decode cX10_welcome 57 = .ok (.iastore, 1) := by decide +kernel
theorem dX10_welcome_58 : decode cX10_welcome 58 = .ok (.aload_n 0, 1) := by decide +kernel
theorem dX10_welcome_59 : decode cX10_welcome 59 = .ok (.iload 4, 2) := by decide +kernel
theorem dX10_welcome_61 : decode cX10_welcome 61 = .ok (.iload_n 3, 1) := by decide +kernel
theorem dX10_welcome_62 : decode cX10_welcome 62 = .ok (.invokevirtual 62, 3) := by decide +kernel
theorem dX10_welcome_65 : decode cX10_welcome 65 = .ok (.aload_n 0, 1) := by decide +kernel
theorem dX10_welcome_66 : decode cX10_welcome 66 = .ok (.dup, 1) := by decide +kernel
theorem dX10_welcome_67 : decode cX10_welcome 67 = .ok (.getfield 53, 3) := by decide +kernel
theorem dX10_welcome_70 : decode cX10_welcome 70 = .ok (.iconst 1, 1) := by decide +kernel
theorem dX10_welcome_71 : decode cX10_welcome 71 = .ok (.iadd, 1) := by decide +kernel
theorem dX10_welcome_72 : decode cX10_welcome 72 = .ok (.putfield 53, 3) := by decide +kernel
theorem dX10_welcome_75 : decode cX10_welcome 75 = .ok (.iload 4, 2) := by decide +kernel
theorem dX10_welcome_77 : decode cX10_welcome 77 = .ok (.ireturn, 1) := by decide +kernel
theorem dX10_setLeft_0 : decode cX10_setLeft 0 = .ok (.aload_n 0, 1) := by decide +kernel
theorem dX10_setLeft_1 : decode cX10_setLeft 1 = .ok (.getfield 27, 3) := by decide +kernel
theorem dX10_setLeft_4 : decode cX10_setLeft 4 = .ok (.iload_n 1, 1) := by decide +kernel
theorem dX10_setLeft_5 : decode cX10_setLeft 5 = .ok (.iload_n 2, 1) := by decide +kernel
theorem dX10_setLeft_6 : decode cX10_setLeft 6 = .ok (.iastore, 1) := by decide +kernel
theorem dX10_setLeft_7 : decode cX10_setLeft 7 = .ok (.aload_n 0, 1) := by decide +kernel
theorem dX10_setLeft_8 : decode cX10_setLeft 8 = .ok (.getfield 30, 3) := by decide +kernel
theorem dX10_setLeft_11 : decode cX10_setLeft 11 = .ok (.iload_n 1, 1) := by decide +kernel
theorem dX10_setLeft_12 : decode cX10_setLeft 12 = .ok (.iload_n 2, 1) := by decide +kernel
theorem dX10_setLeft_13 : decode cX10_setLeft 13 = .ok (.ifCond .ne 12, 3) := by decide +kernel
theorem dX10_setLeft_16 : decode cX10_setLeft 16 = .ok (.aload_n 0, 1) := by decide +kernel
theorem dX10_setLeft_17 : decode cX10_setLeft 17 = .ok (.getfield 24, 3) := by decide +kernel
theorem dX10_setLeft_20 : decode cX10_setLeft 20 = .ok (.iload_n 1, 1) := by decide +kernel
theorem dX10_setLeft_21 : decode cX10_setLeft 21 = .ok (.iaload, 1) := by decide +kernel
theorem dX10_setLeft_22 : decode cX10_setLeft 22 = .ok (.goto 4, 3) := by decide +kernel
theorem dX10_setLeft_25 : decode cX10_setLeft 25 = .ok (.iconst (-1), 1) := by decide +kernel
theorem dX10_setLeft_26 : decode cX10_setLeft 26 = .ok (.iastore, 1) := by decide +kernel
theorem dX10_setLeft_27 : decode cX10_setLeft 27 = .ok (.return_, 1) := by decide +kernel
theorem dX10_isDust_0 : decode cX10_isDust 0 = .ok (.aload_n 0, 1) := by decide +kernel
theorem dX10_isDust_1 : decode cX10_isDust 1 = .ok (.getfield 27, 3) := by decide +kernel
theorem dX10_isDust_4 : decode cX10_isDust 4 = .ok (.iload_n 1, 1) := by decide +kernel
theorem dX10_isDust_5 : decode cX10_isDust 5 = .ok (.iaload, 1) := by decide +kernel
theorem dX10_isDust_6 : decode cX10_isDust 6 = .ok (.ifCond .ne 7, 3) := by decide +kernel
theorem dX10_isDust_9 : decode cX10_isDust 9 = .ok (.iconst 1, 1) := by decide +kernel
theorem dX10_isDust_10 : decode cX10_isDust 10 = .ok (.goto 4, 3) := by decide +kernel
theorem dX10_isDust_13 : decode cX10_isDust 13 = .ok (.iconst 0, 1) := by decide +kernel
theorem dX10_isDust_14 : decode cX10_isDust 14 = .ok (.ireturn, 1) := by decide +kernel
theorem dX10_kindOf_0 : decode cX10_kindOf 0 = .ok (.aload_n 0, 1) := by decide +kernel
theorem dX10_kindOf_1 : decode cX10_kindOf 1 = .ok (.getfield 18, 3) := by decide +kernel
theorem dX10_kindOf_4 : decode cX10_kindOf 4 = .ok (.iload_n 1, 1) := by decide +kernel
theorem dX10_kindOf_5 : decode cX10_kindOf 5 = .ok (.iaload, 1) := by decide +kernel
theorem dX10_kindOf_6 : decode cX10_kindOf 6 = .ok (.istore_n 2, 1) := by decide +kernel
theorem dX10_kindOf_7 : decode cX10_kindOf 7 = .ok (.aload_n 0, 1) := by decide +kernel
theorem dX10_kindOf_8 : decode cX10_kindOf 8 = .ok (.getfield 43, 3) := by decide +kernel
theorem dX10_kindOf_11 : decode cX10_kindOf 11 = .ok (.iload_n 2, 1) := by decide +kernel
theorem dX10_kindOf_12 : decode cX10_kindOf 12 = .ok (.ifCond .lt 16, 3) := by decide +kernel
theorem dX10_kindOf_15 : decode cX10_kindOf 15 = .ok (.iload_n 2, 1) := by decide +kernel
theorem dX10_kindOf_16 : decode cX10_kindOf 16 = .ok (.aload_n 0, 1) := by decide +kernel
theorem dX10_kindOf_17 : decode cX10_kindOf 17 = .ok (.getfield 43, 3) := by decide +kernel
theorem dX10_kindOf_20 : decode cX10_kindOf 20 = .ok (.arraylength, 1) := by decide +kernel
theorem dX10_kindOf_21 : decode cX10_kindOf 21 = .ok (.if_icmp .ge 7, 3) := by decide +kernel
theorem dX10_kindOf_24 : decode cX10_kindOf 24 = .ok (.iload_n 2, 1) := by decide +kernel
theorem dX10_kindOf_25 : decode cX10_kindOf 25 = .ok (.goto 4, 3) := by decide +kernel
theorem dX10_kindOf_28 : decode cX10_kindOf 28 = .ok (.iconst 0, 1) := by decide +kernel
theorem dX10_kindOf_29 : decode cX10_kindOf 29 = .ok (.aaload, 1) := by decide +kernel
theorem dX10_kindOf_30 : decode cX10_kindOf 30 = .ok (.areturn, 1) := by decide +kernel
theorem dX10_sunOf_0 : decode cX10_sunOf 0 = .ok (.iload_n 1, 1) := by decide +kernel
theorem dX10_sunOf_1 : decode cX10_sunOf 1 = .ok (.ifCond .lt 18, 3) := by decide +kernel
theorem dX10_sunOf_4 : decode cX10_sunOf 4 = .ok (.iload_n 1, 1) := by decide +kernel
theorem dX10_sunOf_5 : decode cX10_sunOf 5 = .ok (.bipush 16, 2) := by decide +kernel
theorem dX10_sunOf_7 : decode cX10_sunOf 7 = .ok (.if_icmp .ge 12, 3) := by decide +kernel
theorem dX10_sunOf_10 : decode cX10_sunOf 10 = .ok (.aload_n 0, 1) := by decide +kernel
theorem dX10_sunOf_11 : decode cX10_sunOf 11 = .ok (.getfield 9, 3) := by decide +kernel
theorem dX10_sunOf_14 : decode cX10_sunOf 14 = .ok (.iload_n 1, 1) := by decide +kernel
theorem dX10_sunOf_15 : decode cX10_sunOf 15 = .ok (.iaload, 1) := by decide +kernel
theorem dX10_sunOf_16 : decode cX10_sunOf 16 = .ok (.goto 4, 3) := by decide +kernel
theorem dX10_sunOf_19 : decode cX10_sunOf 19 = .ok (.iconst 0, 1) := by decide +kernel
theorem dX10_sunOf_20 : decode cX10_sunOf 20 = .ok (.ireturn, 1) := by decide +kernel
theorem dX10_driftsOf_0 : decode cX10_driftsOf 0 = .ok (.aload_n 0, 1) := by decide +kernel
theorem dX10_driftsOf_1 : decode cX10_driftsOf 1 = .ok (.iload_n 1, 1) := by decide +kernel
theorem dX10_driftsOf_2 : decode cX10_driftsOf 2 = .ok (.invokevirtual 66, 3) := by decide +kernel
theorem dX10_driftsOf_5 : decode cX10_driftsOf 5 = .ok (.iload_n 2, 1) := by decide +kernel
theorem dX10_driftsOf_6 : decode cX10_driftsOf 6 = .ok (.aload_n 0, 1) := by decide +kernel
theorem dX10_driftsOf_7 : decode cX10_driftsOf 7 = .ok (.getfield 21, 3) := by decide +kernel
theorem dX10_driftsOf_10 : decode cX10_driftsOf 10 = .ok (.iload_n 1, 1) := by decide +kernel
theorem dX10_driftsOf_11 : decode cX10_driftsOf 11 = .ok (.iaload, 1) := by decide +kernel
theorem dX10_driftsOf_12 : decode cX10_driftsOf 12 = .ok (.aload_n 0, 1) := by decide +kernel
theorem dX10_driftsOf_13 : decode cX10_driftsOf 13 = .ok (.getfield 59, 3) := by decide +kernel
theorem dX10_driftsOf_16 : decode cX10_driftsOf 16 = .ok (.invokevirtual 70, 3) := by decide +kernel
theorem dX10_driftsOf_19 : decode cX10_driftsOf 19 = .ok (.ireturn, 1) := by decide +kernel
theorem dX10_shinesOf_0 : decode cX10_shinesOf 0 = .ok (.aload_n 0, 1) := by decide +kernel
theorem dX10_shinesOf_1 : decode cX10_shinesOf 1 = .ok (.iload_n 1, 1) := by decide +kernel
theorem dX10_shinesOf_2 : decode cX10_shinesOf 2 = .ok (.invokevirtual 66, 3) := by decide +kernel
theorem dX10_shinesOf_5 : decode cX10_shinesOf 5 = .ok (.aload_n 0, 1) := by decide +kernel
theorem dX10_shinesOf_6 : decode cX10_shinesOf 6 = .ok (.iload_n 2, 1) := by decide +kernel
theorem dX10_shinesOf_7 : decode cX10_shinesOf 7 = .ok (.invokevirtual 76, 3) := by decide +kernel
theorem dX10_shinesOf_10 : decode cX10_shinesOf 10 = .ok (.aload_n 0, 1) := by decide +kernel
theorem dX10_shinesOf_11 : decode cX10_shinesOf 11 = .ok (.getfield 21, 3) := by decide +kernel
theorem dX10_shinesOf_14 : decode cX10_shinesOf 14 = .ok (.iload_n 1, 1) := by decide +kernel
theorem dX10_shinesOf_15 : decode cX10_shinesOf 15 = .ok (.iaload, 1) := by decide +kernel
theorem dX10_shinesOf_16 : decode cX10_shinesOf 16 = .ok (.aload_n 0, 1) := by decide +kernel
theorem dX10_shinesOf_17 : decode cX10_shinesOf 17 = .ok (.getfield 59, 3) := by decide +kernel
theorem dX10_shinesOf_20 : decode cX10_shinesOf 20 = .ok (.invokevirtual 80, 3) := by decide +kernel
theorem dX10_shinesOf_23 : decode cX10_shinesOf 23 = .ok (.ireturn, 1) := by decide +kernel
theorem dX10_needsOf_0 : decode cX10_needsOf 0 = .ok (.aload_n 0, 1) := by decide +kernel
theorem dX10_needsOf_1 : decode cX10_needsOf 1 = .ok (.iload_n 1, 1) := by decide +kernel
theorem dX10_needsOf_2 : decode cX10_needsOf 2 = .ok (.invokevirtual 66, 3) := by decide +kernel
theorem dX10_needsOf_5 : decode cX10_needsOf 5 = .ok (.aload_n 0, 1) := by decide +kernel
theorem dX10_needsOf_6 : decode cX10_needsOf 6 = .ok (.getfield 21, 3) := by decide +kernel
theorem dX10_needsOf_9 : decode cX10_needsOf 9 = .ok (.iload_n 1, 1) := by decide +kernel
theorem dX10_needsOf_10 : decode cX10_needsOf 10 = .ok (.iaload, 1) := by decide +kernel
theorem dX10_needsOf_11 : decode cX10_needsOf 11 = .ok (.invokevirtual 83, 3) := by decide +kernel
theorem dX10_needsOf_14 : decode cX10_needsOf 14 = .ok (.ireturn, 1) := by decide +kernel
theorem dX10_isContent_0 : decode cX10_isContent 0 = .ok (.aload_n 0, 1) := by decide +kernel
theorem dX10_isContent_1 : decode cX10_isContent 1 = .ok (.iload_n 1, 1) := by decide +kernel
theorem dX10_isContent_2 : decode cX10_isContent 2 = .ok (.invokevirtual 86, 3) := by decide +kernel
theorem dX10_isContent_5 : decode cX10_isContent 5 = .ok (.ifCond .eq 40, 3) := by decide +kernel
theorem dX10_isContent_8 : decode cX10_isContent 8 = .ok (.aload_n 0, 1) := by decide +kernel
theorem dX10_isContent_9 : decode cX10_isContent 9 = .ok (.getfield 30, 3) := by decide +kernel
theorem dX10_isContent_12 : decode cX10_isContent 12 = .ok (.iload_n 1, 1) := by decide +kernel
theorem dX10_isContent_13 : decode cX10_isContent 13 = .ok (.iaload, 1) := by decide +kernel
theorem dX10_isContent_14 : decode cX10_isContent 14 = .ok (.aload_n 0, 1) := by decide +kernel
theorem dX10_isContent_15 : decode cX10_isContent 15 = .ok (.getfield 24, 3) := by decide +kernel
theorem dX10_isContent_18 : decode cX10_isContent 18 = .ok (.iload_n 1, 1) := by decide +kernel
theorem dX10_isContent_19 : decode cX10_isContent 19 = .ok (.iaload, 1) := by decide +kernel
theorem dX10_isContent_20 : decode cX10_isContent 20 = .ok (.if_icmp .eq 21, 3) := by decide +kernel
theorem dX10_isContent_23 : decode cX10_isContent 23 = .ok (.aload_n 0, 1) := by decide +kernel
theorem dX10_isContent_24 : decode cX10_isContent 24 = .ok (.aload_n 0, 1) := by decide +kernel
theorem dX10_isContent_25 : decode cX10_isContent 25 = .ok (.getfield 30, 3) := by decide +kernel
theorem dX10_isContent_28 : decode cX10_isContent 28 = .ok (.iload_n 1, 1) := by decide +kernel
theorem dX10_isContent_29 : decode cX10_isContent 29 = .ok (.iaload, 1) := by decide +kernel
theorem dX10_isContent_30 : decode cX10_isContent 30 = .ok (.invokevirtual 76, 3) := by decide +kernel
theorem dX10_isContent_33 : decode cX10_isContent 33 = .ok (.aload_n 0, 1) := by decide +kernel
theorem dX10_isContent_34 : decode cX10_isContent 34 = .ok (.iload_n 1, 1) := by decide +kernel
theorem dX10_isContent_35 : decode cX10_isContent 35 = .ok (.invokevirtual 90, 3) := by decide +kernel
theorem dX10_isContent_38 : decode cX10_isContent 38 = .ok (.if_icmp .lt 7, 3) := by decide +kernel
theorem dX10_isContent_41 : decode cX10_isContent 41 = .ok (.iconst 1, 1) := by decide +kernel
theorem dX10_isContent_42 : decode cX10_isContent 42 = .ok (.goto 4, 3) := by decide +kernel
theorem dX10_isContent_45 : decode cX10_isContent 45 = .ok (.iconst 0, 1) := by decide +kernel
theorem dX10_isContent_46 : decode cX10_isContent 46 = .ok (.ireturn, 1) := by decide +kernel
theorem dX10_areContent_0 : decode cX10_areContent 0 = .ok (.iconst 0, 1) := by decide +kernel
theorem dX10_areContent_1 : decode cX10_areContent 1 = .ok (.istore_n 2, 1) := by decide +kernel
theorem dX10_areContent_2 : decode cX10_areContent 2 = .ok (.iload_n 2, 1) := by decide +kernel
theorem dX10_areContent_3 : decode cX10_areContent 3 = .ok (.aload_n 0, 1) := by decide +kernel
theorem dX10_areContent_4 : decode cX10_areContent 4 = .ok (.getfield 53, 3) := by decide +kernel
theorem dX10_areContent_7 : decode cX10_areContent 7 = .ok (.if_icmp .ge 28, 3) := by decide +kernel
theorem dX10_areContent_10 : decode cX10_areContent 10 = .ok (.iload_n 1, 1) := by decide +kernel
theorem dX10_areContent_11 : decode cX10_areContent 11 = .ok (.iload_n 2, 1) := by decide +kernel
theorem dX10_areContent_12 : decode cX10_areContent 12 = .ok (.ishr, 1) := by decide +kernel
theorem dX10_areContent_13 : decode cX10_areContent 13 = .ok (.iconst 1, 1) := by decide +kernel
theorem dX10_areContent_14 : decode cX10_areContent 14 = .ok (.iand, 1) := by decide +kernel
theorem dX10_areContent_15 : decode cX10_areContent 15 = .ok (.iconst 1, 1) := by decide +kernel
theorem dX10_areContent_16 : decode cX10_areContent 16 = .ok (.if_icmp .ne 13, 3) := by decide +kernel
theorem dX10_areContent_19 : decode cX10_areContent 19 = .ok (.aload_n 0, 1) := by decide +kernel
theorem dX10_areContent_20 : decode cX10_areContent 20 = .ok (.iload_n 2, 1) := by decide +kernel
theorem dX10_areContent_21 : decode cX10_areContent 21 = .ok (.invokevirtual 93, 3) := by decide +kernel
theorem dX10_areContent_24 : decode cX10_areContent 24 = .ok (.ifCond .ne 5, 3) := by decide +kernel
theorem dX10_areContent_27 : decode cX10_areContent 27 = .ok (.iconst 0, 1) := by decide +kernel
theorem dX10_areContent_28 : decode cX10_areContent 28 = .ok (.ireturn, 1) := by decide +kernel
theorem dX10_areContent_29 : decode cX10_areContent 29 = .ok (.iinc 2 1, 3) := by decide +kernel
theorem dX10_areContent_32 : decode cX10_areContent 32 = .ok (.goto (-30), 3) := by decide +kernel
theorem dX10_areContent_35 : decode cX10_areContent 35 = .ok (.iconst 1, 1) := by decide +kernel
theorem dX10_areContent_36 : decode cX10_areContent 36 = .ok (.ireturn, 1) := by decide +kernel
theorem dX10_dust_0 : decode cX10_dust 0 = .ok (.iconst 0, 1) := by decide +kernel
theorem dX10_dust_1 : decode cX10_dust 1 = .ok (.istore_n 1, 1) := by decide +kernel
theorem dX10_dust_2 : decode cX10_dust 2 = .ok (.iconst 0, 1) := by decide +kernel
theorem dX10_dust_3 : decode cX10_dust 3 = .ok (.istore_n 2, 1) := by decide +kernel
theorem dX10_dust_4 : decode cX10_dust 4 = .ok (.iload_n 2, 1) := by decide +kernel
theorem dX10_dust_5 : decode cX10_dust 5 = .ok (.aload_n 0, 1) := by decide +kernel
theorem dX10_dust_6 : decode cX10_dust 6 = .ok (.getfield 53, 3) := by decide +kernel
theorem dX10_dust_9 : decode cX10_dust 9 = .ok (.if_icmp .ge 23, 3) := by decide +kernel
theorem dX10_dust_12 : decode cX10_dust 12 = .ok (.aload_n 0, 1) := by decide +kernel
theorem dX10_dust_13 : decode cX10_dust 13 = .ok (.iload_n 2, 1) := by decide +kernel
theorem dX10_dust_14 : decode cX10_dust 14 = .ok (.invokevirtual 86, 3) := by decide +kernel
theorem dX10_dust_17 : decode cX10_dust 17 = .ok (.ifCond .eq 9, 3) := by decide +kernel
theorem dX10_dust_20 : decode cX10_dust 20 = .ok (.iload_n 1, 1) := by decide +kernel
theorem dX10_dust_21 : decode cX10_dust 21 = .ok (.iconst 1, 1) := by decide +kernel
theorem dX10_dust_22 : decode cX10_dust 22 = .ok (.iload_n 2, 1) := by decide +kernel
theorem dX10_dust_23 : decode cX10_dust 23 = .ok (.ishl, 1) := by decide +kernel
theorem dX10_dust_24 : decode cX10_dust 24 = .ok (.ior, 1) := by decide +kernel
theorem dX10_dust_25 : decode cX10_dust 25 = .ok (.istore_n 1, 1) := by decide +kernel
theorem dX10_dust_26 : decode cX10_dust 26 = .ok (.iinc 2 1, 3) := by decide +kernel
theorem dX10_dust_29 : decode cX10_dust 29 = .ok (.goto (-25), 3) := by decide +kernel
theorem dX10_dust_32 : decode cX10_dust 32 = .ok (.iload_n 1, 1) := by decide +kernel
theorem dX10_dust_33 : decode cX10_dust 33 = .ok (.ireturn, 1) := by decide +kernel
theorem dX10_dustAt_0 : decode cX10_dustAt 0 = .ok (.iconst 0, 1) := by decide +kernel
theorem dX10_dustAt_1 : decode cX10_dustAt 1 = .ok (.istore_n 2, 1) := by decide +kernel
theorem dX10_dustAt_2 : decode cX10_dustAt 2 = .ok (.iconst 0, 1) := by decide +kernel
theorem dX10_dustAt_3 : decode cX10_dustAt 3 = .ok (.istore_n 3, 1) := by decide +kernel
theorem dX10_dustAt_4 : decode cX10_dustAt 4 = .ok (.iload_n 3, 1) := by decide +kernel
theorem dX10_dustAt_5 : decode cX10_dustAt 5 = .ok (.aload_n 0, 1) := by decide +kernel
theorem dX10_dustAt_6 : decode cX10_dustAt 6 = .ok (.getfield 53, 3) := by decide +kernel
theorem dX10_dustAt_9 : decode cX10_dustAt 9 = .ok (.if_icmp .ge 33, 3) := by decide +kernel
theorem dX10_dustAt_12 : decode cX10_dustAt 12 = .ok (.aload_n 0, 1) := by decide +kernel
theorem dX10_dustAt_13 : decode cX10_dustAt 13 = .ok (.iload_n 3, 1) := by decide +kernel
theorem dX10_dustAt_14 : decode cX10_dustAt 14 = .ok (.invokevirtual 86, 3) := by decide +kernel
theorem dX10_dustAt_17 : decode cX10_dustAt 17 = .ok (.ifCond .eq 19, 3) := by decide +kernel
theorem dX10_dustAt_20 : decode cX10_dustAt 20 = .ok (.aload_n 0, 1) := by decide +kernel
theorem dX10_dustAt_21 : decode cX10_dustAt 21 = .ok (.getfield 30, 3) := by decide +kernel
theorem dX10_dustAt_24 : decode cX10_dustAt 24 = .ok (.iload_n 3, 1) := by decide +kernel
theorem dX10_dustAt_25 : decode cX10_dustAt 25 = .ok (.iaload, 1) := by decide +kernel
theorem dX10_dustAt_26 : decode cX10_dustAt 26 = .ok (.iload_n 1, 1) := by decide +kernel
theorem dX10_dustAt_27 : decode cX10_dustAt 27 = .ok (.if_icmp .ne 9, 3) := by decide +kernel
theorem dX10_dustAt_30 : decode cX10_dustAt 30 = .ok (.iload_n 2, 1) := by decide +kernel
theorem dX10_dustAt_31 : decode cX10_dustAt 31 = .ok (.iconst 1, 1) := by decide +kernel
theorem dX10_dustAt_32 : decode cX10_dustAt 32 = .ok (.iload_n 3, 1) := by decide +kernel
theorem dX10_dustAt_33 : decode cX10_dustAt 33 = .ok (.ishl, 1) := by decide +kernel
theorem dX10_dustAt_34 : decode cX10_dustAt 34 = .ok (.ior, 1) := by decide +kernel
theorem dX10_dustAt_35 : decode cX10_dustAt 35 = .ok (.istore_n 2, 1) := by decide +kernel
theorem dX10_dustAt_36 : decode cX10_dustAt 36 = .ok (.iinc 3 1, 3) := by decide +kernel
theorem dX10_dustAt_39 : decode cX10_dustAt 39 = .ok (.goto (-35), 3) := by decide +kernel
theorem dX10_dustAt_42 : decode cX10_dustAt 42 = .ok (.iload_n 2, 1) := by decide +kernel
theorem dX10_dustAt_43 : decode cX10_dustAt 43 = .ok (.ireturn, 1) := by decide +kernel
theorem dX10_lotsOf_0 : decode cX10_lotsOf 0 = .ok (.iconst 0, 1) := by decide +kernel
theorem dX10_lotsOf_1 : decode cX10_lotsOf 1 = .ok (.istore_n 2, 1) := by decide +kernel
theorem dX10_lotsOf_2 : decode cX10_lotsOf 2 = .ok (.iconst 0, 1) := by decide +kernel
theorem dX10_lotsOf_3 : decode cX10_lotsOf 3 = .ok (.istore_n 3, 1) := by decide +kernel
theorem dX10_lotsOf_4 : decode cX10_lotsOf 4 = .ok (.iload_n 3, 1) := by decide +kernel
theorem dX10_lotsOf_5 : decode cX10_lotsOf 5 = .ok (.aload_n 0, 1) := by decide +kernel
theorem dX10_lotsOf_6 : decode cX10_lotsOf 6 = .ok (.getfield 53, 3) := by decide +kernel
theorem dX10_lotsOf_9 : decode cX10_lotsOf 9 = .ok (.if_icmp .ge 25, 3) := by decide +kernel
theorem dX10_lotsOf_12 : decode cX10_lotsOf 12 = .ok (.aload_n 0, 1) := by decide +kernel
theorem dX10_lotsOf_13 : decode cX10_lotsOf 13 = .ok (.getfield 24, 3) := by decide +kernel
theorem dX10_lotsOf_16 : decode cX10_lotsOf 16 = .ok (.iload_n 3, 1) := by decide +kernel
theorem dX10_lotsOf_17 : decode cX10_lotsOf 17 = .ok (.iaload, 1) := by decide +kernel
theorem dX10_lotsOf_18 : decode cX10_lotsOf 18 = .ok (.iload_n 1, 1) := by decide +kernel
theorem dX10_lotsOf_19 : decode cX10_lotsOf 19 = .ok (.if_icmp .ne 9, 3) := by decide +kernel
theorem dX10_lotsOf_22 : decode cX10_lotsOf 22 = .ok (.iload_n 2, 1) := by decide +kernel
theorem dX10_lotsOf_23 : decode cX10_lotsOf 23 = .ok (.iconst 1, 1) := by decide +kernel
theorem dX10_lotsOf_24 : decode cX10_lotsOf 24 = .ok (.iload_n 3, 1) := by decide +kernel
theorem dX10_lotsOf_25 : decode cX10_lotsOf 25 = .ok (.ishl, 1) := by decide +kernel
theorem dX10_lotsOf_26 : decode cX10_lotsOf 26 = .ok (.ior, 1) := by decide +kernel
theorem dX10_lotsOf_27 : decode cX10_lotsOf 27 = .ok (.istore_n 2, 1) := by decide +kernel
theorem dX10_lotsOf_28 : decode cX10_lotsOf 28 = .ok (.iinc 3 1, 3) := by decide +kernel
theorem dX10_lotsOf_31 : decode cX10_lotsOf 31 = .ok (.goto (-27), 3) := by decide +kernel
theorem dX10_lotsOf_34 : decode cX10_lotsOf 34 = .ok (.iload_n 2, 1) := by decide +kernel
theorem dX10_lotsOf_35 : decode cX10_lotsOf 35 = .ok (.ireturn, 1) := by decide +kernel
theorem dX10_goDays_0 : decode cX10_goDays 0 = .ok (.iconst 0, 1) := by decide +kernel
theorem dX10_goDays_1 : decode cX10_goDays 1 = .ok (.istore_n 3, 1) := by decide +kernel
theorem dX10_goDays_2 : decode cX10_goDays 2 = .ok (.iload_n 3, 1) := by decide +kernel
theorem dX10_goDays_3 : decode cX10_goDays 3 = .ok (.iload_n 1, 1) := by decide +kernel
theorem dX10_goDays_4 : decode cX10_goDays 4 = .ok (.if_icmp .ge 14, 3) := by decide +kernel
theorem dX10_goDays_7 : decode cX10_goDays 7 = .ok (.aload_n 0, 1) := by decide +kernel
theorem dX10_goDays_8 : decode cX10_goDays 8 = .ok (.aload_n 2, 1) := by decide +kernel
theorem dX10_goDays_9 : decode cX10_goDays 9 = .ok (.invokevirtual 96, 3) := by decide +kernel
theorem dX10_goDays_12 : decode cX10_goDays 12 = .ok (.iinc 3 1, 3) := by decide +kernel
theorem dX10_goDays_15 : decode cX10_goDays 15 = .ok (.goto (-13), 3) := by decide +kernel
theorem dX10_goDays_18 : decode cX10_goDays 18 = .ok (.return_, 1) := by decide +kernel
theorem dX10_goDay_0 : decode cX10_goDay 0 = .ok (.aload_n 0, 1) := by decide +kernel
theorem dX10_goDay_1 : decode cX10_goDay 1 = .ok (.aload_n 1, 1) := by decide +kernel
theorem dX10_goDay_2 : decode cX10_goDay 2 = .ok (.getfield 100, 3) := by decide +kernel
theorem dX10_goDay_5 : decode cX10_goDay 5 = .ok (.aload_n 0, 1) := by decide +kernel
theorem dX10_goDay_6 : decode cX10_goDay 6 = .ok (.getfield 36, 3) := by decide +kernel
theorem dX10_goDay_9 : decode cX10_goDay 9 = .ok (.aload_n 0, 1) := by decide +kernel
theorem dX10_goDay_10 : decode cX10_goDay 10 = .ok (.getfield 59, 3) := by decide +kernel
theorem dX10_goDay_13 : decode cX10_goDay 13 = .ok (.bipush 24, 2) := by decide +kernel
theorem dX10_goDay_15 : decode cX10_goDay 15 = .ok (.irem, 1) := by decide +kernel
theorem dX10_goDay_16 : decode cX10_goDay 16 = .ok (.aload_n 0, 1) := by decide +kernel
theorem dX10_goDay_17 : decode cX10_goDay 17 = .ok (.invokevirtual 106, 3) := by decide +kernel
theorem dX10_goDay_20 : decode cX10_goDay 20 = .ok (.invokestatic 110, 3) := by decide +kernel
theorem dX10_goDay_23 : decode cX10_goDay 23 = .ok (.invokevirtual 115, 3) := by decide +kernel
theorem dX10_goDay_26 : decode cX10_goDay 26 = .ok (.invokevirtual 120, 3) := by decide +kernel
theorem dX10_goDay_29 : decode cX10_goDay 29 = .ok (.aload_n 0, 1) := by decide +kernel
theorem dX10_goDay_30 : decode cX10_goDay 30 = .ok (.aload_n 1, 1) := by decide +kernel
theorem dX10_goDay_31 : decode cX10_goDay 31 = .ok (.getfield 124, 3) := by decide +kernel
theorem dX10_goDay_34 : decode cX10_goDay 34 = .ok (.invokevirtual 127, 3) := by decide +kernel
theorem dX10_goDay_37 : decode cX10_goDay 37 = .ok (.aload_n 0, 1) := by decide +kernel
theorem dX10_goDay_38 : decode cX10_goDay 38 = .ok (.dup, 1) := by decide +kernel
theorem dX10_goDay_39 : decode cX10_goDay 39 = .ok (.getfield 59, 3) := by decide +kernel
theorem dX10_goDay_42 : decode cX10_goDay 42 = .ok (.iconst 1, 1) := by decide +kernel
theorem dX10_goDay_43 : decode cX10_goDay 43 = .ok (.iadd, 1) := by decide +kernel
theorem dX10_goDay_44 : decode cX10_goDay 44 = .ok (.putfield 59, 3) := by decide +kernel
theorem dX10_goDay_47 : decode cX10_goDay 47 = .ok (.aload_n 0, 1) := by decide +kernel
theorem dX10_goDay_48 : decode cX10_goDay 48 = .ok (.getfield 40, 3) := by decide +kernel
theorem dX10_goDay_51 : decode cX10_goDay 51 = .ok (.ifCond .le 19, 3) := by decide +kernel
theorem dX10_goDay_54 : decode cX10_goDay 54 = .ok (.aload_n 0, 1) := by decide +kernel
theorem dX10_goDay_55 : decode cX10_goDay 55 = .ok (.getfield 59, 3) := by decide +kernel
theorem dX10_goDay_58 : decode cX10_goDay 58 = .ok (.aload_n 0, 1) := by decide +kernel
theorem dX10_goDay_59 : decode cX10_goDay 59 = .ok (.getfield 40, 3) := by decide +kernel
theorem dX10_goDay_62 : decode cX10_goDay 62 = .ok (.irem, 1) := by decide +kernel
theorem dX10_goDay_63 : decode cX10_goDay 63 = .ok (.ifCond .ne 7, 3) := by decide +kernel
theorem dX10_goDay_66 : decode cX10_goDay 66 = .ok (.aload_n 0, 1) := by decide +kernel
theorem dX10_goDay_67 : decode cX10_goDay 67 = .ok (.invokevirtual 130, 3) := by decide +kernel
theorem dX10_goDay_70 : decode cX10_goDay 70 = .ok (.return_, 1) := by decide +kernel
theorem dX10_carry_0 : decode cX10_carry 0 = .ok (.iconst 0, 1) := by decide +kernel
theorem dX10_carry_1 : decode cX10_carry 1 = .ok (.istore_n 2, 1) := by decide +kernel
theorem dX10_carry_2 : decode cX10_carry 2 = .ok (.iload_n 2, 1) := by decide +kernel
theorem dX10_carry_3 : decode cX10_carry 3 = .ok (.aload_n 0, 1) := by decide +kernel
theorem dX10_carry_4 : decode cX10_carry 4 = .ok (.getfield 53, 3) := by decide +kernel
theorem dX10_carry_7 : decode cX10_carry 7 = .ok (.if_icmp .ge 44, 3) := by decide +kernel
theorem dX10_carry_10 : decode cX10_carry 10 = .ok (.aload_n 0, 1) := by decide +kernel
theorem dX10_carry_11 : decode cX10_carry 11 = .ok (.iload_n 2, 1) := by decide +kernel
theorem dX10_carry_12 : decode cX10_carry 12 = .ok (.invokevirtual 86, 3) := by decide +kernel
theorem dX10_carry_15 : decode cX10_carry 15 = .ok (.ifCond .eq 17, 3) := by decide +kernel
theorem dX10_carry_18 : decode cX10_carry 18 = .ok (.aload_n 0, 1) := by decide +kernel
theorem dX10_carry_19 : decode cX10_carry 19 = .ok (.iload_n 2, 1) := by decide +kernel
theorem dX10_carry_20 : decode cX10_carry 20 = .ok (.aload_n 0, 1) := by decide +kernel
theorem dX10_carry_21 : decode cX10_carry 21 = .ok (.iload_n 2, 1) := by decide +kernel
theorem dX10_carry_22 : decode cX10_carry 22 = .ok (.iload_n 1, 1) := by decide +kernel
theorem dX10_carry_23 : decode cX10_carry 23 = .ok (.invokevirtual 133, 3) := by decide +kernel
theorem dX10_carry_26 : decode cX10_carry 26 = .ok (.invokevirtual 137, 3) := by decide +kernel
theorem dX10_carry_29 : decode cX10_carry 29 = .ok (.goto 16, 3) := by decide +kernel
theorem dX10_carry_32 : decode cX10_carry 32 = .ok (.aload_n 0, 1) := by decide +kernel
theorem dX10_carry_33 : decode cX10_carry 33 = .ok (.iload_n 2, 1) := by decide +kernel
theorem dX10_carry_34 : decode cX10_carry 34 = .ok (.aload_n 0, 1) := by decide +kernel
theorem dX10_carry_35 : decode cX10_carry 35 = .ok (.getfield 27, 3) := by decide +kernel
theorem dX10_carry_38 : decode cX10_carry 38 = .ok (.iload_n 2, 1) := by decide +kernel
theorem dX10_carry_39 : decode cX10_carry 39 = .ok (.iaload, 1) := by decide +kernel
theorem dX10_carry_40 : decode cX10_carry 40 = .ok (.iconst 1, 1) := by decide +kernel
theorem dX10_carry_41 : decode cX10_carry 41 = .ok (.isub, 1) := by decide +kernel
theorem dX10_carry_42 : decode cX10_carry 42 = .ok (.invokevirtual 62, 3) := by decide +kernel
theorem dX10_carry_45 : decode cX10_carry 45 = .ok (.iinc 2 1, 3) := by decide +kernel
theorem dX10_carry_48 : decode cX10_carry 48 = .ok (.goto (-46), 3) := by decide +kernel
theorem dX10_carry_51 : decode cX10_carry 51 = .ok (.return_, 1) := by decide +kernel
theorem dX10_drift_0 : decode cX10_drift 0 = .ok (.aload_n 0, 1) := by decide +kernel
theorem dX10_drift_1 : decode cX10_drift 1 = .ok (.getfield 30, 3) := by decide +kernel
theorem dX10_drift_4 : decode cX10_drift 4 = .ok (.iload_n 1, 1) := by decide +kernel
theorem dX10_drift_5 : decode cX10_drift 5 = .ok (.iaload, 1) := by decide +kernel
theorem dX10_drift_6 : decode cX10_drift 6 = .ok (.istore_n 3, 1) := by decide +kernel
theorem dX10_drift_7 : decode cX10_drift 7 = .ok (.iconst 0, 1) := by decide +kernel
theorem dX10_drift_8 : decode cX10_drift 8 = .ok (.istore 4, 2) := by decide +kernel
theorem dX10_drift_10 : decode cX10_drift 10 = .ok (.iload 4, 2) := by decide +kernel
theorem dX10_drift_12 : decode cX10_drift 12 = .ok (.iload_n 2, 1) := by decide +kernel
theorem dX10_drift_13 : decode cX10_drift 13 = .ok (.if_icmp .ge 26, 3) := by decide +kernel
theorem dX10_drift_16 : decode cX10_drift 16 = .ok (.iload_n 3, 1) := by decide +kernel
theorem dX10_drift_17 : decode cX10_drift 17 = .ok (.ifCond .lt 22, 3) := by decide +kernel
theorem dX10_drift_20 : decode cX10_drift 20 = .ok (.iload_n 3, 1) := by decide +kernel
theorem dX10_drift_21 : decode cX10_drift 21 = .ok (.bipush 16, 2) := by decide +kernel
theorem dX10_drift_23 : decode cX10_drift 23 = .ok (.if_icmp .ge 16, 3) := by decide +kernel
theorem dX10_drift_26 : decode cX10_drift 26 = .ok (.aload_n 0, 1) := by decide +kernel
theorem dX10_drift_27 : decode cX10_drift 27 = .ok (.getfield 15, 3) := by decide +kernel
theorem dX10_drift_30 : decode cX10_drift 30 = .ok (.iload_n 3, 1) := by decide +kernel
theorem dX10_drift_31 : decode cX10_drift 31 = .ok (.iaload, 1) := by decide +kernel
theorem dX10_drift_32 : decode cX10_drift 32 = .ok (.istore_n 3, 1) := by decide +kernel
theorem dX10_drift_33 : decode cX10_drift 33 = .ok (.iinc 4 1, 3) := by decide +kernel
theorem dX10_drift_36 : decode cX10_drift 36 = .ok (.goto (-26), 3) := by decide +kernel
theorem dX10_drift_39 : decode cX10_drift 39 = .ok (.aload_n 0, 1) := by decide +kernel
theorem dX10_drift_40 : decode cX10_drift 40 = .ok (.getfield 30, 3) := by decide +kernel
theorem dX10_drift_43 : decode cX10_drift 43 = .ok (.iload_n 1, 1) := by decide +kernel
theorem dX10_drift_44 : decode cX10_drift 44 = .ok (.iload_n 3, 1) := by decide +kernel
theorem dX10_drift_45 : decode cX10_drift 45 = .ok (.iastore, 1) := by decide +kernel
theorem dX10_drift_46 : decode cX10_drift 46 = .ok (.return_, 1) := by decide +kernel
theorem dX10_shine_0 : decode cX10_shine 0 = .ok (.iconst 0, 1) := by decide +kernel
theorem dX10_shine_1 : decode cX10_shine 1 = .ok (.istore_n 2, 1) := by decide +kernel
theorem dX10_shine_2 : decode cX10_shine 2 = .ok (.iload_n 2, 1) := by decide +kernel
theorem dX10_shine_3 : decode cX10_shine 3 = .ok (.aload_n 0, 1) := by decide +kernel
theorem dX10_shine_4 : decode cX10_shine 4 = .ok (.getfield 53, 3) := by decide +kernel
theorem dX10_shine_7 : decode cX10_shine 7 = .ok (.if_icmp .ge 85, 3) := by decide +kernel
theorem dX10_shine_10 : decode cX10_shine 10 = .ok (.aload_n 0, 1) := by decide +kernel
theorem dX10_shine_11 : decode cX10_shine 11 = .ok (.iload_n 2, 1) := by decide +kernel
theorem dX10_shine_12 : decode cX10_shine 12 = .ok (.invokevirtual 86, 3) := by decide +kernel
theorem dX10_shine_15 : decode cX10_shine 15 = .ok (.ifCond .eq 71, 3) := by decide +kernel
theorem dX10_shine_18 : decode cX10_shine 18 = .ok (.aload_n 1, 1) := by decide +kernel
theorem dX10_shine_19 : decode cX10_shine 19 = .ok (.aload_n 0, 1) := by decide +kernel
theorem dX10_shine_20 : decode cX10_shine 20 = .ok (.iload_n 2, 1) := by decide +kernel
theorem dX10_shine_21 : decode cX10_shine 21 = .ok (.aload_n 0, 1) := by decide +kernel
theorem dX10_shine_22 : decode cX10_shine 22 = .ok (.getfield 30, 3) := by decide +kernel
theorem dX10_shine_25 : decode cX10_shine 25 = .ok (.iload_n 2, 1) := by decide +kernel
theorem dX10_shine_26 : decode cX10_shine 26 = .ok (.iaload, 1) := by decide +kernel
theorem dX10_shine_27 : decode cX10_shine 27 = .ok (.invokevirtual 140, 3) := by decide +kernel
theorem dX10_shine_30 : decode cX10_shine 30 = .ok (.aload_n 0, 1) := by decide +kernel
theorem dX10_shine_31 : decode cX10_shine 31 = .ok (.aload_n 0, 1) := by decide +kernel
theorem dX10_shine_32 : decode cX10_shine 32 = .ok (.getfield 30, 3) := by decide +kernel
theorem dX10_shine_35 : decode cX10_shine 35 = .ok (.iload_n 2, 1) := by decide +kernel
theorem dX10_shine_36 : decode cX10_shine 36 = .ok (.iaload, 1) := by decide +kernel
theorem dX10_shine_37 : decode cX10_shine 37 = .ok (.invokevirtual 76, 3) := by decide +kernel
theorem dX10_shine_40 : decode cX10_shine 40 = .ok (.aload_n 0, 1) := by decide +kernel
theorem dX10_shine_41 : decode cX10_shine 41 = .ok (.getfield 59, 3) := by decide +kernel
theorem dX10_shine_44 : decode cX10_shine 44 = .ok (.bipush 24, 2) := by decide +kernel
theorem dX10_shine_46 : decode cX10_shine 46 = .ok (.irem, 1) := by decide +kernel
theorem dX10_shine_47 : decode cX10_shine 47 = .ok (.invokevirtual 115, 3) := by decide +kernel
theorem dX10_shine_50 : decode cX10_shine 50 = .ok (.istore_n 3, 1) := by decide +kernel
theorem dX10_shine_51 : decode cX10_shine 51 = .ok (.aload_n 0, 1) := by decide +kernel
theorem dX10_shine_52 : decode cX10_shine 52 = .ok (.getfield 33, 3) := by decide +kernel
theorem dX10_shine_55 : decode cX10_shine 55 = .ok (.iload_n 2, 1) := by decide +kernel
theorem dX10_shine_56 : decode cX10_shine 56 = .ok (.sipush 9999, 3) := by decide +kernel
theorem dX10_shine_59 : decode cX10_shine 59 = .ok (.aload_n 0, 1) := by decide +kernel
theorem dX10_shine_60 : decode cX10_shine 60 = .ok (.getfield 33, 3) := by decide +kernel
theorem dX10_shine_63 : decode cX10_shine 63 = .ok (.iload_n 2, 1) := by decide +kernel
theorem dX10_shine_64 : decode cX10_shine 64 = .ok (.iaload, 1) := by decide +kernel
theorem dX10_shine_65 : decode cX10_shine 65 = .ok (.iload_n 3, 1) := by decide +kernel
theorem dX10_shine_66 : decode cX10_shine 66 = .ok (.iadd, 1) := by decide +kernel
theorem dX10_shine_67 : decode cX10_shine 67 = .ok (.invokestatic 143, 3) := by decide +kernel
theorem dX10_shine_70 : decode cX10_shine 70 = .ok (.iastore, 1) := by decide +kernel
theorem dX10_shine_71 : decode cX10_shine 71 = .ok (.aload_n 0, 1) := by decide +kernel
theorem dX10_shine_72 : decode cX10_shine 72 = .ok (.ldc 148, 2) := by decide +kernel
theorem dX10_shine_74 : decode cX10_shine 74 = .ok (.aload_n 0, 1) := by decide +kernel
theorem dX10_shine_75 : decode cX10_shine 75 = .ok (.getfield 56, 3) := by decide +kernel
theorem dX10_shine_78 : decode cX10_shine 78 = .ok (.iload_n 3, 1) := by decide +kernel
theorem dX10_shine_79 : decode cX10_shine 79 = .ok (.iadd, 1) := by decide +kernel
theorem dX10_shine_80 : decode cX10_shine 80 = .ok (.invokestatic 143, 3) := by decide +kernel
theorem dX10_shine_83 : decode cX10_shine 83 = .ok (.putfield 56, 3) := by decide +kernel
theorem dX10_shine_86 : decode cX10_shine 86 = .ok (.iinc 2 1, 3) := by decide +kernel
theorem dX10_shine_89 : decode cX10_shine 89 = .ok (.goto (-87), 3) := by decide +kernel
theorem dX10_shine_92 : decode cX10_shine 92 = .ok (.return_, 1) := by decide +kernel
theorem dX10_sweepUp_0 : decode cX10_sweepUp 0 = .ok (.iconst 0, 1) := by decide +kernel
theorem dX10_sweepUp_1 : decode cX10_sweepUp 1 = .ok (.istore_n 1, 1) := by decide +kernel
theorem dX10_sweepUp_2 : decode cX10_sweepUp 2 = .ok (.iload_n 1, 1) := by decide +kernel
theorem dX10_sweepUp_3 : decode cX10_sweepUp 3 = .ok (.aload_n 0, 1) := by decide +kernel
theorem dX10_sweepUp_4 : decode cX10_sweepUp 4 = .ok (.getfield 53, 3) := by decide +kernel
theorem dX10_sweepUp_7 : decode cX10_sweepUp 7 = .ok (.if_icmp .ge 42, 3) := by decide +kernel
theorem dX10_sweepUp_10 : decode cX10_sweepUp 10 = .ok (.aload_n 0, 1) := by decide +kernel
theorem dX10_sweepUp_11 : decode cX10_sweepUp 11 = .ok (.iload_n 1, 1) := by decide +kernel
theorem dX10_sweepUp_12 : decode cX10_sweepUp 12 = .ok (.invokevirtual 86, 3) := by decide +kernel
theorem dX10_sweepUp_15 : decode cX10_sweepUp 15 = .ok (.ifCond .eq 28, 3) := by decide +kernel
theorem dX10_sweepUp_18 : decode cX10_sweepUp 18 = .ok (.aload_n 0, 1) := by decide +kernel
theorem dX10_sweepUp_19 : decode cX10_sweepUp 19 = .ok (.aload_n 0, 1) := by decide +kernel
theorem dX10_sweepUp_20 : decode cX10_sweepUp 20 = .ok (.getfield 30, 3) := by decide +kernel
theorem dX10_sweepUp_23 : decode cX10_sweepUp 23 = .ok (.iload_n 1, 1) := by decide +kernel
theorem dX10_sweepUp_24 : decode cX10_sweepUp 24 = .ok (.iaload, 1) := by decide +kernel
theorem dX10_sweepUp_25 : decode cX10_sweepUp 25 = .ok (.invokevirtual 76, 3) := by decide +kernel
theorem dX10_sweepUp_28 : decode cX10_sweepUp 28 = .ok (.ifCond .ne 15, 3) := by decide +kernel
theorem dX10_sweepUp_31 : decode cX10_sweepUp 31 = .ok (.aload_n 0, 1) := by decide +kernel
theorem dX10_sweepUp_32 : decode cX10_sweepUp 32 = .ok (.getfield 30, 3) := by decide +kernel
theorem dX10_sweepUp_35 : decode cX10_sweepUp 35 = .ok (.iload_n 1, 1) := by decide +kernel
theorem dX10_sweepUp_36 : decode cX10_sweepUp 36 = .ok (.aload_n 0, 1) := by decide +kernel
theorem dX10_sweepUp_37 : decode cX10_sweepUp 37 = .ok (.getfield 24, 3) := by decide +kernel
theorem dX10_sweepUp_40 : decode cX10_sweepUp 40 = .ok (.iload_n 1, 1) := by decide +kernel
theorem dX10_sweepUp_41 : decode cX10_sweepUp 41 = .ok (.iaload, 1) := by decide +kernel
theorem dX10_sweepUp_42 : decode cX10_sweepUp 42 = .ok (.iastore, 1) := by decide +kernel
theorem dX10_sweepUp_43 : decode cX10_sweepUp 43 = .ok (.iinc 1 1, 3) := by decide +kernel
theorem dX10_sweepUp_46 : decode cX10_sweepUp 46 = .ok (.goto (-44), 3) := by decide +kernel
theorem dX10_sweepUp_49 : decode cX10_sweepUp 49 = .ok (.return_, 1) := by decide +kernel
end
section
theorem dX11_init_0 : decode cX11_init 0 = .ok (.aload_n 0, 1) := by decide +kernel
theorem dX11_init_1 : decode cX11_init 1 = .ok (.invokespecial 3, 3) := by decide +kernel
theorem dX11_init_4 : decode cX11_init 4 = .ok (.bipush 7, 2) := by decide +kernel
theorem dX11_init_6 : decode cX11_init 6 = .ok (.anewarray 9, 3) := by decide +kernel
theorem dX11_init_9 : decode cX11_init 9 = .ok (.dup, 1) := by decide +kernel
theorem dX11_init_10 : decode cX11_init 10 = .ok (.iconst 0, 1) := by decide +kernel
theorem dX11_init_11 : decode cX11_init 11 = .ok (.new 9, 3) := by decide +kernel
theorem dX11_init_14 : decode cX11_init 14 = .ok (.dup, 1) := by decide +kernel
theorem dX11_init_15 : decode cX11_init 15 = .ok (.invokespecial 11, 3) := by decide +kernel
theorem dX11_init_18 : decode cX11_init 18 = .ok (.aastore, 1) := by decide +kernel
theorem dX11_init_19 : decode cX11_init 19 = .ok (.dup, 1) := by decide +kernel
theorem dX11_init_20 : decode cX11_init 20 = .ok (.iconst 1, 1) := by decide +kernel
theorem dX11_init_21 : decode cX11_init 21 = .ok (.new 12, 3) := by decide +kernel
theorem dX11_init_24 : decode cX11_init 24 = .ok (.dup, 1) := by decide +kernel
theorem dX11_init_25 : decode cX11_init 25 = .ok (.invokespecial 14, 3) := by decide +kernel
theorem dX11_init_28 : decode cX11_init 28 = .ok (.aastore, 1) := by decide +kernel
theorem dX11_init_29 : decode cX11_init 29 = .ok (.dup, 1) := by decide +kernel
theorem dX11_init_30 : decode cX11_init 30 = .ok (.iconst 2, 1) := by decide +kernel
theorem dX11_init_31 : decode cX11_init 31 = .ok (.new 15, 3) := by decide +kernel
theorem dX11_init_34 : decode cX11_init 34 = .ok (.dup, 1) := by decide +kernel
theorem dX11_init_35 : decode cX11_init 35 = .ok (.invokespecial 17, 3) := by decide +kernel
theorem dX11_init_38 : decode cX11_init 38 = .ok (.aastore, 1) := by decide +kernel
theorem dX11_init_39 : decode cX11_init 39 = .ok (.dup, 1) := by decide +kernel
theorem dX11_init_40 : decode cX11_init 40 = .ok (.iconst 3, 1) := by decide +kernel
theorem dX11_init_41 : decode cX11_init 41 = .ok (.new 18, 3) := by decide +kernel
theorem dX11_init_44 : decode cX11_init 44 = .ok (.dup, 1) := by decide +kernel
theorem dX11_init_45 : decode cX11_init 45 = .ok (.invokespecial 20, 3) := by decide +kernel
theorem dX11_init_48 : decode cX11_init 48 = .ok (.aastore, 1) := by decide +kernel
theorem dX11_init_49 : decode cX11_init 49 = .ok (.dup, 1) := by decide +kernel
theorem dX11_init_50 : decode cX11_init 50 = .ok (.iconst 4, 1) := by decide +kernel
theorem dX11_init_51 : decode cX11_init 51 = .ok (.new 21, 3) := by decide +kernel
theorem dX11_init_54 : decode cX11_init 54 = .ok (.dup, 1) := by decide +kernel
theorem dX11_init_55 : decode cX11_init 55 = .ok (.invokespecial 23, 3) := by decide +kernel
theorem dX11_init_58 : decode cX11_init 58 = .ok (.aastore, 1) := by decide +kernel
theorem dX11_init_59 : decode cX11_init 59 = .ok (.dup, 1) := by decide +kernel
theorem dX11_init_60 : decode cX11_init 60 = .ok (.iconst 5, 1) := by decide +kernel
theorem dX11_init_61 : decode cX11_init 61 = .ok (.new 24, 3) := by decide +kernel
theorem dX11_init_64 : decode cX11_init 64 = .ok (.dup, 1) := by decide +kernel
theorem dX11_init_65 : decode cX11_init 65 = .ok (.invokespecial 26, 3) := by decide +kernel
theorem dX11_init_68 : decode cX11_init 68 = .ok (.aastore, 1) := by decide +kernel
theorem dX11_init_69 : decode cX11_init 69 = .ok (.dup, 1) := by decide +kernel
theorem dX11_init_70 : decode cX11_init 70 = .ok (.bipush 6, 2) := by decide +kernel
theorem dX11_init_72 : decode cX11_init 72 = .ok (.new 27, 3) := by decide +kernel
theorem dX11_init_75 : decode cX11_init 75 = .ok (.dup, 1) := by decide +kernel
theorem dX11_init_76 : decode cX11_init 76 = .ok (.invokespecial 29, 3) := by decide +kernel
theorem dX11_init_79 : decode cX11_init 79 = .ok (.aastore, 1) := by decide +kernel
theorem dX11_init_80 : decode cX11_init 80 = .ok (.astore_n 1, 1) := by decide +kernel
theorem dX11_init_81 : decode cX11_init 81 = .ok (.aload_n 0, 1) := by decide +kernel
theorem dX11_init_82 : decode cX11_init 82 = .ok (.new 30, 3) := by decide +kernel
theorem dX11_init_85 : decode cX11_init 85 = .ok (.dup, 1) := by decide +kernel
theorem dX11_init_86 : decode cX11_init 86 = .ok (.aload_n 1, 1) := by decide +kernel
theorem dX11_init_87 : decode cX11_init 87 = .ok (.invokespecial 32, 3) := by decide +kernel
theorem dX11_init_90 : decode cX11_init 90 = .ok (.putfield 35, 3) := by decide +kernel
theorem dX11_init_93 : decode cX11_init 93 = .ok (.aload_n 0, 1) := by decide +kernel
theorem dX11_init_94 : decode cX11_init 94 = .ok (.new 30, 3) := by decide +kernel
theorem dX11_init_97 : decode cX11_init 97 = .ok (.dup, 1) := by decide +kernel
theorem dX11_init_98 : decode cX11_init 98 = .ok (.aload_n 1, 1) := by decide +kernel
theorem dX11_init_99 : decode cX11_init 99 = .ok (.invokespecial 32, 3) := by decide +kernel
theorem dX11_init_102 : decode cX11_init 102 = .ok (.putfield 39, 3) := by decide +kernel
theorem dX11_init_105 : decode cX11_init 105 = .ok (.aload_n 0, 1) := by decide +kernel
theorem dX11_init_106 : decode cX11_init 106 = .ok (.new 30, 3) := by decide +kernel
theorem dX11_init_109 : decode cX11_init 109 = .ok (.dup, 1) := by decide +kernel
theorem dX11_init_110 : decode cX11_init 110 = .ok (.aload_n 1, 1) := by decide +kernel
theorem dX11_init_111 : decode cX11_init 111 = .ok (.invokespecial 32, 3) := by decide +kernel
theorem dX11_init_114 : decode cX11_init 114 = .ok (.putfield 42, 3) := by decide +kernel
theorem dX11_init_117 : decode cX11_init 117 = .ok (.aload_n 0, 1) := by decide +kernel
theorem dX11_init_118 : decode cX11_init 118 = .ok (.new 45, 3) := by decide +kernel
theorem dX11_init_121 : decode cX11_init 121 = .ok (.dup, 1) := by decide +kernel
theorem dX11_init_122 : decode cX11_init 122 = .ok (.invokespecial 47, 3) := by decide +kernel
theorem dX11_init_125 : decode cX11_init 125 = .ok (.putfield 48, 3) := by decide +kernel
theorem dX11_init_128 : decode cX11_init 128 = .ok (.aload_n 0, 1) := by decide +kernel
theorem dX11_init_129 : decode cX11_init 129 = .ok (.new 45, 3) := by decide +kernel
theorem dX11_init_132 : decode cX11_init 132 = .ok (.dup, 1) := by decide +kernel
theorem dX11_init_133 : decode cX11_init 133 = .ok (.invokespecial 47, 3) := by decide +kernel
theorem dX11_init_136 : decode cX11_init 136 = .ok (.putfield 52, 3) := by decide +kernel
theorem dX11_init_139 : decode cX11_init 139 = .ok (.aload_n 0, 1) := by decide +kernel
theorem dX11_init_140 : decode cX11_init 140 = .ok (.new 55, 3) := by decide +kernel
theorem dX11_init_143 : decode cX11_init 143 = .ok (.dup, 1) := by decide +kernel
theorem dX11_init_144 : decode cX11_init 144 = .ok (.invokespecial 57, 3) := by decide +kernel
theorem dX11_init_147 : decode cX11_init 147 = .ok (.putfield 58, 3) := by decide +kernel
theorem dX11_init_150 : decode cX11_init 150 = .ok (.aload_n 0, 1) := by decide +kernel
theorem dX11_init_151 : decode cX11_init 151 = .ok (.iconst 4, 1) := by decide +kernel
theorem dX11_init_152 : decode cX11_init 152 = .ok (.bipush 40, 2) := by decide +kernel
theorem dX11_init_154 : decode cX11_init 154 = .ok (.multianewarray 62 2, 4) := by decide +kernel
theorem dX11_init_158 : decode cX11_init 158 = .ok (.putfield 64, 3) := by decide +kernel
theorem dX11_init_161 : decode cX11_init 161 = .ok (.aload_n 0, 1) := by decide +kernel
theorem dX11_init_162 : decode cX11_init 162 = .ok (.iconst 4, 1) := by decide +kernel
theorem dX11_init_163 : decode cX11_init 163 = .ok (.newarray .int, 2) := by decide +kernel
theorem dX11_init_165 : decode cX11_init 165 = .ok (.putfield 67, 3) := by decide +kernel
theorem dX11_init_168 : decode cX11_init 168 = .ok (.aload_n 0, 1) := by decide +kernel
theorem dX11_init_169 : decode cX11_init 169 = .ok (.iconst 4, 1) := by decide +kernel
theorem dX11_init_170 : decode cX11_init 170 = .ok (.newarray .int, 2) := by decide +kernel
theorem dX11_init_172 : decode cX11_init 172 = .ok (.putfield 71, 3) := by decide +kernel
theorem dX11_init_175 : decode cX11_init 175 = .ok (.aload_n 0, 1) := by decide +kernel
theorem dX11_init_176 : decode cX11_init 176 = .ok (.bipush 6, 2) := by decide +kernel
theorem dX11_init_178 : decode cX11_init 178 = .ok (.newarray .int, 2) := by decide +kernel
theorem dX11_init_180 : decode cX11_init 180 = .ok (.putfield 74, 3) := by decide +kernel
theorem dX11_init_183 : decode cX11_init 183 = .ok (.return_, 1) := by decide +kernel
theorem dX11_sill_0 : decode cX11_sill 0 = .ok (.iload_n 1, 1) := by decide +kernel
theorem dX11_sill_1 : decode cX11_sill 1 = .ok (.invokestatic 77, 3) := by decide +kernel
theorem dX11_sill_4 : decode cX11_sill 4 = .ok (.ifCond .ne 10, 3) := by decide +kernel
theorem dX11_sill_7 : decode cX11_sill 7 = .ok (.aload_n 0, 1) := by decide +kernel
theorem dX11_sill_8 : decode cX11_sill 8 = .ok (.ldc 81, 2) := by decide +kernel
theorem dX11_sill_10 : decode cX11_sill 10 = .ok (.invokevirtual 82, 3) := by decide +kernel
theorem dX11_sill_13 : decode cX11_sill 13 = .ok (.ireturn, 1) := by decide +kernel
theorem dX11_sill_14 : decode cX11_sill 14 = .ok (.iload_n 2, 1) := by decide +kernel
theorem dX11_sill_15 : decode cX11_sill 15 = .ok (.ifCond .ne 37, 3) := by decide +kernel
theorem dX11_sill_18 : decode cX11_sill 18 = .ok (.iload_n 3, 1) := by decide +kernel
theorem dX11_sill_19 : decode cX11_sill 19 = .ok (.iconst 0, 1) := by decide +kernel
theorem dX11_sill_20 : decode cX11_sill 20 = .ok (.bipush 9, 2) := by decide +kernel
theorem dX11_sill_22 : decode cX11_sill 22 = .ok (.invokestatic 86, 3) := by decide +kernel
theorem dX11_sill_25 : decode cX11_sill 25 = .ok (.ifCond .eq 27, 3) := by decide +kernel
theorem dX11_sill_28 : decode cX11_sill 28 = .ok (.aload_n 0, 1) := by decide +kernel
theorem dX11_sill_29 : decode cX11_sill 29 = .ok (.getfield 35, 3) := by decide +kernel
theorem dX11_sill_32 : decode cX11_sill 32 = .ok (.getfield 90, 3) := by decide +kernel
theorem dX11_sill_35 : decode cX11_sill 35 = .ok (.iload_n 1, 1) := by decide +kernel
theorem dX11_sill_36 : decode cX11_sill 36 = .ok (.iaload, 1) := by decide +kernel
theorem dX11_sill_37 : decode cX11_sill 37 = .ok (.istore 4, 2) := by decide +kernel
theorem dX11_sill_39 : decode cX11_sill 39 = .ok (.aload_n 0, 1) := by decide +kernel
theorem dX11_sill_40 : decode cX11_sill 40 = .ok (.getfield 35, 3) := by decide +kernel
theorem dX11_sill_43 : decode cX11_sill 43 = .ok (.getfield 90, 3) := by decide +kernel
theorem dX11_sill_46 : decode cX11_sill 46 = .ok (.iload_n 1, 1) := by decide +kernel
theorem dX11_sill_47 : decode cX11_sill 47 = .ok (.iload_n 3, 1) := by decide +kernel
theorem dX11_sill_48 : decode cX11_sill 48 = .ok (.iastore, 1) := by decide +kernel
theorem dX11_sill_49 : decode cX11_sill 49 = .ok (.iload 4, 2) := by decide +kernel
theorem dX11_sill_51 : decode cX11_sill 51 = .ok (.ireturn, 1) := by decide +kernel
theorem dX11_sill_52 : decode cX11_sill 52 = .ok (.iload_n 2, 1) := by decide +kernel
theorem dX11_sill_53 : decode cX11_sill 53 = .ok (.iconst 1, 1) := by decide +kernel
theorem dX11_sill_54 : decode cX11_sill 54 = .ok (.if_icmp .ne 34, 3) := by decide +kernel
theorem dX11_sill_57 : decode cX11_sill 57 = .ok (.iload_n 3, 1) := by decide +kernel
theorem dX11_sill_58 : decode cX11_sill 58 = .ok (.invokestatic 77, 3) := by decide +kernel
theorem dX11_sill_61 : decode cX11_sill 61 = .ok (.ifCond .eq 27, 3) := by decide +kernel
theorem dX11_sill_64 : decode cX11_sill 64 = .ok (.aload_n 0, 1) := by decide +kernel
theorem dX11_sill_65 : decode cX11_sill 65 = .ok (.getfield 35, 3) := by decide +kernel
theorem dX11_sill_68 : decode cX11_sill 68 = .ok (.getfield 93, 3) := by decide +kernel
theorem dX11_sill_71 : decode cX11_sill 71 = .ok (.iload_n 1, 1) := by decide +kernel
theorem dX11_sill_72 : decode cX11_sill 72 = .ok (.iaload, 1) := by decide +kernel
theorem dX11_sill_73 : decode cX11_sill 73 = .ok (.istore 4, 2) := by decide +kernel
theorem dX11_sill_75 : decode cX11_sill 75 = .ok (.aload_n 0, 1) := by decide +kernel
theorem dX11_sill_76 : decode cX11_sill 76 = .ok (.getfield 35, 3) := by decide +kernel
theorem dX11_sill_79 : decode cX11_sill 79 = .ok (.getfield 93, 3) := by decide +kernel
theorem dX11_sill_82 : decode cX11_sill 82 = .ok (.iload_n 1, 1) := by decide +kernel
theorem dX11_sill_83 : decode cX11_sill 83 = .ok (.iload_n 3, 1) := by decide +kernel
theorem dX11_sill_84 : decode cX11_sill 84 = .ok (.iastore, 1) := by decide +kernel
theorem dX11_sill_85 : decode cX11_sill 85 = .ok (.iload 4, 2) := by decide +kernel
theorem dX11_sill_87 : decode cX11_sill 87 = .ok (.ireturn, 1) := by decide +kernel
theorem dX11_sill_88 : decode cX11_sill 88 = .ok (.aload_n 0, 1) := by decide +kernel
theorem dX11_sill_89 : decode cX11_sill 89 = .ok (.ldc 81, 2) := by decide +kernel
theorem dX11_sill_91 : decode cX11_sill 91 = .ok (.invokevirtual 82, 3) := by decide +kernel
theorem dX11_sill_94 : decode cX11_sill 94 = .ok (.ireturn, 1) := by decide +kernel
theorem dX11_ofSill_0 : decode cX11_ofSill 0 = .ok (.iload_n 1, 1) := by decide +kernel
theorem dX11_ofSill_1 : decode cX11_ofSill 1 = .ok (.invokestatic 77, 3) := by decide +kernel
theorem dX11_ofSill_4 : decode cX11_ofSill 4 = .ok (.ifCond .ne 10, 3) := by decide +kernel
theorem dX11_ofSill_7 : decode cX11_ofSill 7 = .ok (.aload_n 0, 1) := by decide +kernel
theorem dX11_ofSill_8 : decode cX11_ofSill 8 = .ok (.ldc 81, 2) := by decide +kernel
theorem dX11_ofSill_10 : decode cX11_ofSill 10 = .ok (.invokevirtual 82, 3) := by decide +kernel
theorem dX11_ofSill_13 : decode cX11_ofSill 13 = .ok (.ireturn, 1) := by decide +kernel
theorem dX11_ofSill_14 : decode cX11_ofSill 14 = .ok (.iload_n 2, 1) := by decide +kernel
theorem dX11_ofSill_15 : decode cX11_ofSill 15 = .ok (.tableswitch 67 0 3 #[29, 39, 49, 58], 29) := by decide +kernel
theorem dX11_ofSill_44 : decode cX11_ofSill 44 = .ok (.aload_n 0, 1) := by decide +kernel
theorem dX11_ofSill_45 : decode cX11_ofSill 45 = .ok (.getfield 35, 3) := by decide +kernel
theorem dX11_ofSill_48 : decode cX11_ofSill 48 = .ok (.getfield 90, 3) := by decide +kernel
theorem dX11_ofSill_51 : decode cX11_ofSill 51 = .ok (.iload_n 1, 1) := by decide +kernel
theorem dX11_ofSill_52 : decode cX11_ofSill 52 = .ok (.iaload, 1) := by decide +kernel
theorem dX11_ofSill_53 : decode cX11_ofSill 53 = .ok (.ireturn, 1) := by decide +kernel
theorem dX11_ofSill_54 : decode cX11_ofSill 54 = .ok (.aload_n 0, 1) := by decide +kernel
theorem dX11_ofSill_55 : decode cX11_ofSill 55 = .ok (.getfield 35, 3) := by decide +kernel
theorem dX11_ofSill_58 : decode cX11_ofSill 58 = .ok (.getfield 93, 3) := by decide +kernel
theorem dX11_ofSill_61 : decode cX11_ofSill 61 = .ok (.iload_n 1, 1) := by decide +kernel
theorem dX11_ofSill_62 : decode cX11_ofSill 62 = .ok (.iaload, 1) := by decide +kernel
theorem dX11_ofSill_63 : decode cX11_ofSill 63 = .ok (.ireturn, 1) := by decide +kernel
theorem dX11_ofSill_64 : decode cX11_ofSill 64 = .ok (.aload_n 0, 1) := by decide +kernel
theorem dX11_ofSill_65 : decode cX11_ofSill 65 = .ok (.getfield 35, 3) := by decide +kernel
theorem dX11_ofSill_68 : decode cX11_ofSill 68 = .ok (.iload_n 1, 1) := by decide +kernel
theorem dX11_ofSill_69 : decode cX11_ofSill 69 = .ok (.invokevirtual 96, 3) := by decide +kernel
theorem dX11_ofSill_72 : decode cX11_ofSill 72 = .ok (.ireturn, 1) := by decide +kernel
theorem dX11_ofSill_73 : decode cX11_ofSill 73 = .ok (.aload_n 0, 1) := by decide +kernel
theorem dX11_ofSill_74 : decode cX11_ofSill 74 = .ok (.getfield 35, 3) := by decide +kernel
theorem dX11_ofSill_77 : decode cX11_ofSill 77 = .ok (.iload_n 1, 1) := by decide +kernel
theorem dX11_ofSill_78 : decode cX11_ofSill 78 = .ok (.invokevirtual 99, 3) := by decide +kernel
theorem dX11_ofSill_81 : decode cX11_ofSill 81 = .ok (.ireturn, 1) := by decide +kernel
theorem dX11_ofSill_82 : decode cX11_ofSill 82 = .ok (.aload_n 0, 1) := by decide +kernel
theorem dX11_ofSill_83 : decode cX11_ofSill 83 = .ok (.ldc 81, 2) := by decide +kernel
theorem dX11_ofSill_85 : decode cX11_ofSill 85 = .ok (.invokevirtual 82, 3) := by decide +kernel
theorem dX11_ofSill_88 : decode cX11_ofSill 88 = .ok (.ireturn, 1) := by decide +kernel
theorem dX11_town_0 : decode cX11_town 0 = .ok (.iload_n 1, 1) := by decide +kernel
theorem dX11_town_1 : decode cX11_town 1 = .ok (.ifCond .ne 32, 3) := by decide +kernel
theorem dX11_town_4 : decode cX11_town 4 = .ok (.iload_n 2, 1) := by decide +kernel
theorem dX11_town_5 : decode cX11_town 5 = .ok (.iconst 0, 1) := by decide +kernel
theorem dX11_town_6 : decode cX11_town 6 = .ok (.bipush 9, 2) := by decide +kernel
theorem dX11_town_8 : decode cX11_town 8 = .ok (.invokestatic 86, 3) := by decide +kernel
theorem dX11_town_11 : decode cX11_town 11 = .ok (.ifCond .eq 22, 3) := by decide +kernel
theorem dX11_town_14 : decode cX11_town 14 = .ok (.aload_n 0, 1) := by decide +kernel
theorem dX11_town_15 : decode cX11_town 15 = .ok (.getfield 35, 3) := by decide +kernel
theorem dX11_town_18 : decode cX11_town 18 = .ok (.getfield 102, 3) := by decide +kernel
theorem dX11_town_21 : decode cX11_town 21 = .ok (.istore_n 3, 1) := by decide +kernel
theorem dX11_town_22 : decode cX11_town 22 = .ok (.aload_n 0, 1) := by decide +kernel
theorem dX11_town_23 : decode cX11_town 23 = .ok (.getfield 35, 3) := by decide +kernel
theorem dX11_town_26 : decode cX11_town 26 = .ok (.iload_n 2, 1) := by decide +kernel
theorem dX11_town_27 : decode cX11_town 27 = .ok (.putfield 102, 3) := by decide +kernel
theorem dX11_town_30 : decode cX11_town 30 = .ok (.goto 78, 3) := by decide +kernel
theorem dX11_town_33 : decode cX11_town 33 = .ok (.iload_n 1, 1) := by decide +kernel
theorem dX11_town_34 : decode cX11_town 34 = .ok (.iconst 1, 1) := by decide +kernel
theorem dX11_town_35 : decode cX11_town 35 = .ok (.if_icmp .ne 32, 3) := by decide +kernel
theorem dX11_town_38 : decode cX11_town 38 = .ok (.iload_n 2, 1) := by decide +kernel
theorem dX11_town_39 : decode cX11_town 39 = .ok (.iconst 1, 1) := by decide +kernel
theorem dX11_town_40 : decode cX11_town 40 = .ok (.bipush 30, 2) := by decide +kernel
theorem dX11_town_42 : decode cX11_town 42 = .ok (.invokestatic 86, 3) := by decide +kernel
theorem dX11_town_45 : decode cX11_town 45 = .ok (.ifCond .eq 22, 3) := by decide +kernel
theorem dX11_town_48 : decode cX11_town 48 = .ok (.aload_n 0, 1) := by decide +kernel
theorem dX11_town_49 : decode cX11_town 49 = .ok (.getfield 35, 3) := by decide +kernel
theorem dX11_town_52 : decode cX11_town 52 = .ok (.getfield 106, 3) := by decide +kernel
theorem dX11_town_55 : decode cX11_town 55 = .ok (.istore_n 3, 1) := by decide +kernel
theorem dX11_town_56 : decode cX11_town 56 = .ok (.aload_n 0, 1) := by decide +kernel
theorem dX11_town_57 : decode cX11_town 57 = .ok (.getfield 35, 3) := by decide +kernel
theorem dX11_town_60 : decode cX11_town 60 = .ok (.iload_n 2, 1) := by decide +kernel
theorem dX11_town_61 : decode cX11_town 61 = .ok (.putfield 106, 3) := by decide +kernel
theorem dX11_town_64 : decode cX11_town 64 = .ok (.goto 44, 3) := by decide +kernel
theorem dX11_town_67 : decode cX11_town 67 = .ok (.iload_n 1, 1) := by decide +kernel
theorem dX11_town_68 : decode cX11_town 68 = .ok (.iconst 2, 1) := by decide +kernel
theorem dX11_town_69 : decode cX11_town 69 = .ok (.if_icmp .ne 32, 3) := by decide +kernel
theorem dX11_town_72 : decode cX11_town 72 = .ok (.iload_n 2, 1) := by decide +kernel
theorem dX11_town_73 : decode cX11_town 73 = .ok (.iconst 0, 1) := by decide +kernel
theorem dX11_town_74 : decode cX11_town 74 = .ok (.ldc 109, 2) := by decide +kernel
theorem dX11_town_76 : decode cX11_town 76 = .ok (.invokestatic 86, 3) := by decide +kernel
theorem dX11_town_79 : decode cX11_town 79 = .ok (.ifCond .eq 22, 3) := by decide +kernel
theorem dX11_town_82 : decode cX11_town 82 = .ok (.aload_n 0, 1) := by decide +kernel
theorem dX11_town_83 : decode cX11_town 83 = .ok (.getfield 35, 3) := by decide +kernel
theorem dX11_town_86 : decode cX11_town 86 = .ok (.getfield 110, 3) := by decide +kernel
theorem dX11_town_89 : decode cX11_town 89 = .ok (.istore_n 3, 1) := by decide +kernel
theorem dX11_town_90 : decode cX11_town 90 = .ok (.aload_n 0, 1) := by decide +kernel
theorem dX11_town_91 : decode cX11_town 91 = .ok (.getfield 35, 3) := by decide +kernel
theorem dX11_town_94 : decode cX11_town 94 = .ok (.iload_n 2, 1) := by decide +kernel
theorem dX11_town_95 : decode cX11_town 95 = .ok (.putfield 110, 3) := by decide +kernel
theorem dX11_town_98 : decode cX11_town 98 = .ok (.goto 10, 3) := by decide +kernel
theorem dX11_town_101 : decode cX11_town 101 = .ok (.aload_n 0, 1) := by decide +kernel
theorem dX11_town_102 : decode cX11_town 102 = .ok (.ldc 81, 2) := by decide +kernel
theorem dX11_town_104 : decode cX11_town 104 = .ok (.invokevirtual 82, 3) := by decide +kernel
theorem dX11_town_107 : decode cX11_town 107 = .ok (.istore_n 3, 1) := by decide +kernel
theorem dX11_town_108 : decode cX11_town 108 = .ok (.iload_n 3, 1) := by decide +kernel
theorem dX11_town_109 : decode cX11_town 109 = .ok (.ireturn, 1) := by decide +kernel
theorem dX11_heir_0 : decode cX11_heir 0 = .ok (.iload_n 1, 1) := by decide +kernel
theorem dX11_heir_1 : decode cX11_heir 1 = .ok (.invokestatic 113, 3) := by decide +kernel
theorem dX11_heir_4 : decode cX11_heir 4 = .ok (.ifCond .eq 20, 3) := by decide +kernel
theorem dX11_heir_7 : decode cX11_heir 7 = .ok (.iload_n 2, 1) := by decide +kernel
theorem dX11_heir_8 : decode cX11_heir 8 = .ok (.invokestatic 77, 3) := by decide +kernel
theorem dX11_heir_11 : decode cX11_heir 11 = .ok (.ifCond .eq 13, 3) := by decide +kernel
theorem dX11_heir_14 : decode cX11_heir 14 = .ok (.iload_n 3, 1) := by decide +kernel
theorem dX11_heir_15 : decode cX11_heir 15 = .ok (.iconst 0, 1) := by decide +kernel
theorem dX11_heir_16 : decode cX11_heir 16 = .ok (.bipush 99, 2) := by decide +kernel
theorem dX11_heir_18 : decode cX11_heir 18 = .ok (.invokestatic 86, 3) := by decide +kernel
theorem dX11_heir_21 : decode cX11_heir 21 = .ok (.ifCond .ne 10, 3) := by decide +kernel
theorem dX11_heir_24 : decode cX11_heir 24 = .ok (.aload_n 0, 1) := by decide +kernel
theorem dX11_heir_25 : decode cX11_heir 25 = .ok (.ldc 81, 2) := by decide +kernel
theorem dX11_heir_27 : decode cX11_heir 27 = .ok (.invokevirtual 82, 3) := by decide +kernel
theorem dX11_heir_30 : decode cX11_heir 30 = .ok (.ireturn, 1) := by decide +kernel
theorem dX11_heir_31 : decode cX11_heir 31 = .ok (.aload_n 0, 1) := by decide +kernel
theorem dX11_heir_32 : decode cX11_heir 32 = .ok (.getfield 35, 3) := by decide +kernel
theorem dX11_heir_35 : decode cX11_heir 35 = .ok (.getfield 116, 3) := by decide +kernel
theorem dX11_heir_38 : decode cX11_heir 38 = .ok (.bipush 8, 2) := by decide +kernel
theorem dX11_heir_40 : decode cX11_heir 40 = .ok (.if_icmp .lt 10, 3) := by decide +kernel
theorem dX11_heir_43 : decode cX11_heir 43 = .ok (.aload_n 0, 1) := by decide +kernel
theorem dX11_heir_44 : decode cX11_heir 44 = .ok (.ldc 119, 2) := by decide +kernel
theorem dX11_heir_46 : decode cX11_heir 46 = .ok (.invokevirtual 82, 3) := by decide +kernel
theorem dX11_heir_49 : decode cX11_heir 49 = .ok (.ireturn, 1) := by decide +kernel
theorem dX11_heir_50 : decode cX11_heir 50 = .ok (.aload_n 0, 1) := by decide +kernel
theorem dX11_heir_51 : decode cX11_heir 51 = .ok (.getfield 35, 3) := by decide +kernel
theorem dX11_heir_54 : decode cX11_heir 54 = .ok (.iload_n 1, 1) := by decide +kernel
theorem dX11_heir_55 : decode cX11_heir 55 = .ok (.iload_n 2, 1) := by decide +kernel
theorem dX11_heir_56 : decode cX11_heir 56 = .ok (.iload_n 3, 1) := by decide +kernel
theorem dX11_heir_57 : decode cX11_heir 57 = .ok (.invokevirtual 120, 3) := by decide +kernel
theorem dX11_heir_60 : decode cX11_heir 60 = .ok (.ireturn, 1) := by decide +kernel
theorem dX11_ofHeir_0 : decode cX11_ofHeir 0 = .ok (.aload_n 0, 1) := by decide +kernel
theorem dX11_ofHeir_1 : decode cX11_ofHeir 1 = .ok (.iload_n 1, 1) := by decide +kernel
theorem dX11_ofHeir_2 : decode cX11_ofHeir 2 = .ok (.invokevirtual 124, 3) := by decide +kernel
theorem dX11_ofHeir_5 : decode cX11_ofHeir 5 = .ok (.ifCond .ne 10, 3) := by decide +kernel
theorem dX11_ofHeir_8 : decode cX11_ofHeir 8 = .ok (.aload_n 0, 1) := by decide +kernel
theorem dX11_ofHeir_9 : decode cX11_ofHeir 9 = .ok (.ldc 81, 2) := by decide +kernel
theorem dX11_ofHeir_11 : decode cX11_ofHeir 11 = .ok (.invokevirtual 82, 3) := by decide +kernel
theorem dX11_ofHeir_14 : decode cX11_ofHeir 14 = .ok (.ireturn, 1) := by decide +kernel
theorem dX11_ofHeir_15 : decode cX11_ofHeir 15 = .ok (.iload_n 2, 1) := by decide +kernel
theorem dX11_ofHeir_16 : decode cX11_ofHeir 16 = .ok (.tableswitch 199 0 9 #[56, 66, 76, 86, 96, 106, 116, 132, 173, 182], 56) := by decide +kernel
theorem dX11_ofHeir_72 : decode cX11_ofHeir 72 = .ok (.aload_n 0, 1) := by decide +kernel
theorem dX11_ofHeir_73 : decode cX11_ofHeir 73 = .ok (.getfield 35, 3) := by decide +kernel
theorem dX11_ofHeir_76 : decode cX11_ofHeir 76 = .ok (.getfield 127, 3) := by decide +kernel
theorem dX11_ofHeir_79 : decode cX11_ofHeir 79 = .ok (.iload_n 1, 1) := by decide +kernel
theorem dX11_ofHeir_80 : decode cX11_ofHeir 80 = .ok (.iaload, 1) := by decide +kernel
theorem dX11_ofHeir_81 : decode cX11_ofHeir 81 = .ok (.ireturn, 1) := by decide +kernel
theorem dX11_ofHeir_82 : decode cX11_ofHeir 82 = .ok (.aload_n 0, 1) := by decide +kernel
theorem dX11_ofHeir_83 : decode cX11_ofHeir 83 = .ok (.getfield 35, 3) := by decide +kernel
theorem dX11_ofHeir_86 : decode cX11_ofHeir 86 = .ok (.getfield 130, 3) := by decide +kernel
theorem dX11_ofHeir_89 : decode cX11_ofHeir 89 = .ok (.iload_n 1, 1) := by decide +kernel
theorem dX11_ofHeir_90 : decode cX11_ofHeir 90 = .ok (.iaload, 1) := by decide +kernel
theorem dX11_ofHeir_91 : decode cX11_ofHeir 91 = .ok (.ireturn, 1) := by decide +kernel
theorem dX11_ofHeir_92 : decode cX11_ofHeir 92 = .ok (.aload_n 0, 1) := by decide +kernel
theorem dX11_ofHeir_93 : decode cX11_ofHeir 93 = .ok (.getfield 35, 3) := by decide +kernel
theorem dX11_ofHeir_96 : decode cX11_ofHeir 96 = .ok (.getfield 133, 3) := by decide +kernel
theorem dX11_ofHeir_99 : decode cX11_ofHeir 99 = .ok (.iload_n 1, 1) := by decide +kernel
theorem dX11_ofHeir_100 : decode cX11_ofHeir 100 = .ok (.iaload, 1) := by decide +kernel
theorem dX11_ofHeir_101 : decode cX11_ofHeir 101 = .ok (.ireturn, 1) := by decide +kernel
theorem dX11_ofHeir_102 : decode cX11_ofHeir 102 = .ok (.aload_n 0, 1) := by decide +kernel
theorem dX11_ofHeir_103 : decode cX11_ofHeir 103 = .ok (.getfield 35, 3) := by decide +kernel
theorem dX11_ofHeir_106 : decode cX11_ofHeir 106 = .ok (.getfield 136, 3) := by decide +kernel
theorem dX11_ofHeir_109 : decode cX11_ofHeir 109 = .ok (.iload_n 1, 1) := by decide +kernel
theorem dX11_ofHeir_110 : decode cX11_ofHeir 110 = .ok (.iaload, 1) := by decide +kernel
theorem dX11_ofHeir_111 : decode cX11_ofHeir 111 = .ok (.ireturn, 1) := by decide +kernel
theorem dX11_ofHeir_112 : decode cX11_ofHeir 112 = .ok (.aload_n 0, 1) := by decide +kernel
theorem dX11_ofHeir_113 : decode cX11_ofHeir 113 = .ok (.getfield 35, 3) := by decide +kernel
theorem dX11_ofHeir_116 : decode cX11_ofHeir 116 = .ok (.getfield 139, 3) := by decide +kernel
theorem dX11_ofHeir_119 : decode cX11_ofHeir 119 = .ok (.iload_n 1, 1) := by decide +kernel
theorem dX11_ofHeir_120 : decode cX11_ofHeir 120 = .ok (.iaload, 1) := by decide +kernel
theorem dX11_ofHeir_121 : decode cX11_ofHeir 121 = .ok (.ireturn, 1) := by decide +kernel
theorem dX11_ofHeir_122 : decode cX11_ofHeir 122 = .ok (.aload_n 0, 1) := by decide +kernel
theorem dX11_ofHeir_123 : decode cX11_ofHeir 123 = .ok (.getfield 35, 3) := by decide +kernel
theorem dX11_ofHeir_126 : decode cX11_ofHeir 126 = .ok (.getfield 142, 3) := by decide +kernel
theorem dX11_ofHeir_129 : decode cX11_ofHeir 129 = .ok (.iload_n 1, 1) := by decide +kernel
theorem dX11_ofHeir_130 : decode cX11_ofHeir 130 = .ok (.iaload, 1) := by decide +kernel
theorem dX11_ofHeir_131 : decode cX11_ofHeir 131 = .ok (.ireturn, 1) := by decide +kernel
theorem dX11_ofHeir_132 : decode cX11_ofHeir 132 = .ok (.aload_n 0, 1) := by decide +kernel
theorem dX11_ofHeir_133 : decode cX11_ofHeir 133 = .ok (.getfield 35, 3) := by decide +kernel
theorem dX11_ofHeir_136 : decode cX11_ofHeir 136 = .ok (.iload_n 1, 1) := by decide +kernel
theorem dX11_ofHeir_137 : decode cX11_ofHeir 137 = .ok (.aload_n 0, 1) := by decide +kernel
theorem dX11_ofHeir_138 : decode cX11_ofHeir 138 = .ok (.getfield 35, 3) := by decide +kernel
theorem dX11_ofHeir_141 : decode cX11_ofHeir 141 = .ok (.getfield 102, 3) := by decide +kernel
theorem dX11_ofHeir_144 : decode cX11_ofHeir 144 = .ok (.invokevirtual 145, 3) := by decide +kernel
theorem dX11_ofHeir_147 : decode cX11_ofHeir 147 = .ok (.ireturn, 1) := by decide +kernel
theorem dX11_ofHeir_148 : decode cX11_ofHeir 148 = .ok (.aload_n 0, 1) := by decide +kernel
theorem dX11_ofHeir_149 : decode cX11_ofHeir 149 = .ok (.getfield 35, 3) := by decide +kernel
theorem dX11_ofHeir_152 : decode cX11_ofHeir 152 = .ok (.iload_n 1, 1) := by decide +kernel
theorem dX11_ofHeir_153 : decode cX11_ofHeir 153 = .ok (.aload_n 0, 1) := by decide +kernel
theorem dX11_ofHeir_154 : decode cX11_ofHeir 154 = .ok (.getfield 35, 3) := by decide +kernel
theorem dX11_ofHeir_157 : decode cX11_ofHeir 157 = .ok (.iload_n 1, 1) := by decide +kernel
theorem dX11_ofHeir_158 : decode cX11_ofHeir 158 = .ok (.invokevirtual 149, 3) := by decide +kernel
theorem dX11_ofHeir_161 : decode cX11_ofHeir 161 = .ok (.ifCond .eq 15, 3) := by decide +kernel
theorem dX11_ofHeir_164 : decode cX11_ofHeir 164 = .ok (.aload_n 0, 1) := by decide +kernel
theorem dX11_ofHeir_165 : decode cX11_ofHeir 165 = .ok (.getfield 35, 3) := by decide +kernel
theorem dX11_ofHeir_168 : decode cX11_ofHeir 168 = .ok (.getfield 139, 3) := by decide +kernel
theorem dX11_ofHeir_171 : decode cX11_ofHeir 171 = .ok (.iload_n 1, 1) := by decide +kernel
theorem dX11_ofHeir_172 : decode cX11_ofHeir 172 = .ok (.iaload, 1) := by decide +kernel
theorem dX11_ofHeir_173 : decode cX11_ofHeir 173 = .ok (.goto 12, 3) := by decide +kernel
theorem dX11_ofHeir_176 : decode cX11_ofHeir 176 = .ok (.aload_n 0, 1) := by decide +kernel
theorem dX11_ofHeir_177 : decode cX11_ofHeir 177 = .ok (.getfield 35, 3) := by decide +kernel
theorem dX11_ofHeir_180 : decode cX11_ofHeir 180 = .ok (.getfield 133, 3) := by decide +kernel
theorem dX11_ofHeir_183 : decode cX11_ofHeir 183 = .ok (.iload_n 1, 1) := by decide +kernel
theorem dX11_ofHeir_184 : decode cX11_ofHeir 184 = .ok (.iaload, 1) := by decide +kernel
theorem dX11_ofHeir_185 : decode cX11_ofHeir 185 = .ok (.invokevirtual 152, 3) := by decide +kernel
theorem dX11_ofHeir_188 : decode cX11_ofHeir 188 = .ok (.ireturn, 1) := by decide +kernel
theorem dX11_ofHeir_189 : decode cX11_ofHeir 189 = .ok (.aload_n 0, 1) := by decide +kernel
theorem dX11_ofHeir_190 : decode cX11_ofHeir 190 = .ok (.getfield 35, 3) := by decide +kernel
theorem dX11_ofHeir_193 : decode cX11_ofHeir 193 = .ok (.iload_n 1, 1) := by decide +kernel
theorem dX11_ofHeir_194 : decode cX11_ofHeir 194 = .ok (.invokevirtual 155, 3) := by decide +kernel
theorem dX11_ofHeir_197 : decode cX11_ofHeir 197 = .ok (.ireturn, 1) := by decide +kernel
theorem dX11_ofHeir_198 : decode cX11_ofHeir 198 = .ok (.aload_n 0, 1) := by decide +kernel
theorem dX11_ofHeir_199 : decode cX11_ofHeir 199 = .ok (.getfield 35, 3) := by decide +kernel
theorem dX11_ofHeir_202 : decode cX11_ofHeir 202 = .ok (.iload_n 1, 1) := by decide +kernel
theorem dX11_ofHeir_203 : decode cX11_ofHeir 203 = .ok (.invokevirtual 158, 3) := by decide +kernel
theorem dX11_ofHeir_206 : decode cX11_ofHeir 206 = .ok (.ifCond .eq 7, 3) := by decide +kernel
theorem dX11_ofHeir_209 : decode cX11_ofHeir 209 = .ok (.iconst 1, 1) := by decide +kernel
theorem dX11_ofHeir_210 : decode cX11_ofHeir 210 = .ok (.goto 4, 3) := by decide +kernel
theorem dX11_ofHeir_213 : decode cX11_ofHeir 213 = .ok (.iconst 0, 1) := by decide +kernel
theorem dX11_ofHeir_214 : decode cX11_ofHeir 214 = .ok (.ireturn, 1) := by decide +kernel
theorem dX11_ofHeir_215 : decode cX11_ofHeir 215 = .ok (.aload_n 0, 1) := by decide +kernel
theorem dX11_ofHeir_216 : decode cX11_ofHeir 216 = .ok (.ldc 81, 2) := by decide +kernel
theorem dX11_ofHeir_218 : decode cX11_ofHeir 218 = .ok (.invokevirtual 82, 3) := by decide +kernel
theorem dX11_ofHeir_221 : decode cX11_ofHeir 221 = .ok (.ireturn, 1) := by decide +kernel
theorem dX11_change_0 : decode cX11_change 0 = .ok (.aload_n 0, 1) := by decide +kernel
theorem dX11_change_1 : decode cX11_change 1 = .ok (.iload_n 1, 1) := by decide +kernel
theorem dX11_change_2 : decode cX11_change 2 = .ok (.invokevirtual 124, 3) := by decide +kernel
theorem dX11_change_5 : decode cX11_change 5 = .ok (.ifCond .eq 11, 3) := by decide +kernel
theorem dX11_change_8 : decode cX11_change 8 = .ok (.iload_n 2, 1) := by decide +kernel
theorem dX11_change_9 : decode cX11_change 9 = .ok (.iload_n 3, 1) := by decide +kernel
theorem dX11_change_10 : decode cX11_change 10 = .ok (.invokestatic 161, 3) := by decide +kernel
theorem dX11_change_13 : decode cX11_change 13 = .ok (.ifCond .ne 10, 3) := by decide +kernel
theorem dX11_change_16 : decode cX11_change 16 = .ok (.aload_n 0, 1) := by decide +kernel
theorem dX11_change_17 : decode cX11_change 17 = .ok (.ldc 81, 2) := by decide +kernel
theorem dX11_change_19 : decode cX11_change 19 = .ok (.invokevirtual 82, 3) := by decide +kernel
theorem dX11_change_22 : decode cX11_change 22 = .ok (.ireturn, 1) := by decide +kernel
theorem dX11_change_23 : decode cX11_change 23 = .ok (.iload_n 2, 1) := by decide +kernel
theorem dX11_change_24 : decode cX11_change 24 = .ok (.ifCond .ne 27, 3) := by decide +kernel
theorem dX11_change_27 : decode cX11_change 27 = .ok (.aload_n 0, 1) := by decide +kernel
theorem dX11_change_28 : decode cX11_change 28 = .ok (.getfield 35, 3) := by decide +kernel
theorem dX11_change_31 : decode cX11_change 31 = .ok (.getfield 133, 3) := by decide +kernel
theorem dX11_change_34 : decode cX11_change 34 = .ok (.iload_n 1, 1) := by decide +kernel
theorem dX11_change_35 : decode cX11_change 35 = .ok (.iaload, 1) := by decide +kernel
theorem dX11_change_36 : decode cX11_change 36 = .ok (.istore 4, 2) := by decide +kernel
theorem dX11_change_38 : decode cX11_change 38 = .ok (.aload_n 0, 1) := by decide +kernel
theorem dX11_change_39 : decode cX11_change 39 = .ok (.getfield 35, 3) := by decide +kernel
theorem dX11_change_42 : decode cX11_change 42 = .ok (.getfield 133, 3) := by decide +kernel
theorem dX11_change_45 : decode cX11_change 45 = .ok (.iload_n 1, 1) := by decide +kernel
theorem dX11_change_46 : decode cX11_change 46 = .ok (.iload_n 3, 1) := by decide +kernel
theorem dX11_change_47 : decode cX11_change 47 = .ok (.iastore, 1) := by decide +kernel
theorem dX11_change_48 : decode cX11_change 48 = .ok (.goto 103, 3) := by decide +kernel
theorem dX11_change_51 : decode cX11_change 51 = .ok (.iload_n 2, 1) := by decide +kernel
theorem dX11_change_52 : decode cX11_change 52 = .ok (.iconst 1, 1) := by decide +kernel
theorem dX11_change_53 : decode cX11_change 53 = .ok (.if_icmp .ne 26, 3) := by decide +kernel
theorem dX11_change_56 : decode cX11_change 56 = .ok (.aload_n 0, 1) := by decide +kernel
theorem dX11_change_57 : decode cX11_change 57 = .ok (.getfield 35, 3) := by decide +kernel
theorem dX11_change_60 : decode cX11_change 60 = .ok (.getfield 136, 3) := by decide +kernel
theorem dX11_change_63 : decode cX11_change 63 = .ok (.iload_n 1, 1) := by decide +kernel
theorem dX11_change_64 : decode cX11_change 64 = .ok (.iaload, 1) := by decide +kernel
theorem dX11_change_65 : decode cX11_change 65 = .ok (.istore 4, 2) := by decide +kernel
theorem dX11_change_67 : decode cX11_change 67 = .ok (.aload_n 0, 1) := by decide +kernel
theorem dX11_change_68 : decode cX11_change 68 = .ok (.getfield 35, 3) := by decide +kernel
theorem dX11_change_71 : decode cX11_change 71 = .ok (.iload_n 1, 1) := by decide +kernel
theorem dX11_change_72 : decode cX11_change 72 = .ok (.iload_n 3, 1) := by decide +kernel
theorem dX11_change_73 : decode cX11_change 73 = .ok (.invokevirtual 165, 3) := by decide +kernel
theorem dX11_change_76 : decode cX11_change 76 = .ok (.goto 75, 3) := by decide +kernel
theorem dX11_change_79 : decode cX11_change 79 = .ok (.iload_n 2, 1) := by decide +kernel
theorem dX11_change_80 : decode cX11_change 80 = .ok (.iconst 3, 1) := by decide +kernel
theorem dX11_change_81 : decode cX11_change 81 = .ok (.if_icmp .ne 27, 3) := by decide +kernel
theorem dX11_change_84 : decode cX11_change 84 = .ok (.aload_n 0, 1) := by decide +kernel
theorem dX11_change_85 : decode cX11_change 85 = .ok (.getfield 35, 3) := by decide +kernel
theorem dX11_change_88 : decode cX11_change 88 = .ok (.getfield 142, 3) := by decide +kernel
theorem dX11_change_91 : decode cX11_change 91 = .ok (.iload_n 1, 1) := by decide +kernel
theorem dX11_change_92 : decode cX11_change 92 = .ok (.iaload, 1) := by decide +kernel
theorem dX11_change_93 : decode cX11_change 93 = .ok (.istore 4, 2) := by decide +kernel
theorem dX11_change_95 : decode cX11_change 95 = .ok (.aload_n 0, 1) := by decide +kernel
theorem dX11_change_96 : decode cX11_change 96 = .ok (.getfield 35, 3) := by decide +kernel
theorem dX11_change_99 : decode cX11_change 99 = .ok (.getfield 142, 3) := by decide +kernel
theorem dX11_change_102 : decode cX11_change 102 = .ok (.iload_n 1, 1) := by decide +kernel
theorem dX11_change_103 : decode cX11_change 103 = .ok (.iload_n 3, 1) := by decide +kernel
theorem dX11_change_104 : decode cX11_change 104 = .ok (.iastore, 1) := by decide +kernel
theorem dX11_change_105 : decode cX11_change 105 = .ok (.goto 46, 3) := by decide +kernel
theorem dX11_change_108 : decode cX11_change 108 = .ok (.aload_n 0, 1) := by decide +kernel
theorem dX11_change_109 : decode cX11_change 109 = .ok (.getfield 35, 3) := by decide +kernel
theorem dX11_change_112 : decode cX11_change 112 = .ok (.iload_n 1, 1) := by decide +kernel
theorem dX11_change_113 : decode cX11_change 113 = .ok (.invokevirtual 149, 3) := by decide +kernel
theorem dX11_change_116 : decode cX11_change 116 = .ok (.ifCond .eq 27, 3) := by decide +kernel
theorem dX11_change_119 : decode cX11_change 119 = .ok (.aload_n 0, 1) := by decide +kernel
theorem dX11_change_120 : decode cX11_change 120 = .ok (.getfield 35, 3) := by decide +kernel
theorem dX11_change_123 : decode cX11_change 123 = .ok (.getfield 139, 3) := by decide +kernel
theorem dX11_change_126 : decode cX11_change 126 = .ok (.iload_n 1, 1) := by decide +kernel
theorem dX11_change_127 : decode cX11_change 127 = .ok (.iaload, 1) := by decide +kernel
theorem dX11_change_128 : decode cX11_change 128 = .ok (.istore 4, 2) := by decide +kernel
theorem dX11_change_130 : decode cX11_change 130 = .ok (.aload_n 0, 1) := by decide +kernel
theorem dX11_change_131 : decode cX11_change 131 = .ok (.getfield 35, 3) := by decide +kernel
theorem dX11_change_134 : decode cX11_change 134 = .ok (.getfield 139, 3) := by decide +kernel
theorem dX11_change_137 : decode cX11_change 137 = .ok (.iload_n 1, 1) := by decide +kernel
theorem dX11_change_138 : decode cX11_change 138 = .ok (.iload_n 3, 1) := by decide +kernel
theorem dX11_change_139 : decode cX11_change 139 = .ok (.iastore, 1) := by decide +kernel
theorem dX11_change_140 : decode cX11_change 140 = .ok (.goto 11, 3) := by decide +kernel
theorem dX11_change_143 : decode cX11_change 143 = .ok (.aload_n 0, 1) := by decide +kernel
theorem dX11_change_144 : decode cX11_change 144 = .ok (.ldc 169, 2) := by decide +kernel
theorem dX11_change_146 : decode cX11_change 146 = .ok (.invokevirtual 82, 3) := by decide +kernel
theorem dX11_change_149 : decode cX11_change 149 = .ok (.istore 4, 2) := by decide +kernel
theorem dX11_change_151 : decode cX11_change 151 = .ok (.iload 4, 2) := by decide +kernel
theorem dX11_change_153 : decode cX11_change 153 = .ok (.ireturn, 1) := by decide +kernel
theorem dX11_become_0 : decode cX11_become 0 = .ok (.aload_n 0, 1) := by decide +kernel
theorem dX11_become_1 : decode cX11_become 1 = .ok (.iload_n 1, 1) := by decide +kernel
theorem dX11_become_2 : decode cX11_become 2 = .ok (.invokevirtual 124, 3) := by decide +kernel
theorem dX11_become_5 : decode cX11_become 5 = .ok (.ifCond .eq 10, 3) := by decide +kernel
theorem dX11_become_8 : decode cX11_become 8 = .ok (.iload_n 2, 1) := by decide +kernel
theorem dX11_become_9 : decode cX11_become 9 = .ok (.invokestatic 113, 3) := by decide +kernel
theorem dX11_become_12 : decode cX11_become 12 = .ok (.ifCond .ne 10, 3) := by decide +kernel
theorem dX11_become_15 : decode cX11_become 15 = .ok (.aload_n 0, 1) := by decide +kernel
theorem dX11_become_16 : decode cX11_become 16 = .ok (.ldc 81, 2) := by decide +kernel
theorem dX11_become_18 : decode cX11_become 18 = .ok (.invokevirtual 82, 3) := by decide +kernel
theorem dX11_become_21 : decode cX11_become 21 = .ok (.ireturn, 1) := by decide +kernel
theorem dX11_become_22 : decode cX11_become 22 = .ok (.aload_n 0, 1) := by decide +kernel
theorem dX11_become_23 : decode cX11_become 23 = .ok (.getfield 35, 3) := by decide +kernel
theorem dX11_become_26 : decode cX11_become 26 = .ok (.getfield 127, 3) := by decide +kernel
theorem dX11_become_29 : decode cX11_become 29 = .ok (.iload_n 1, 1) := by decide +kernel
theorem dX11_become_30 : decode cX11_become 30 = .ok (.iaload, 1) := by decide +kernel
theorem dX11_become_31 : decode cX11_become 31 = .ok (.istore_n 3, 1) := by decide +kernel
theorem dX11_become_32 : decode cX11_become 32 = .ok (.aload_n 0, 1) := by decide +kernel
theorem dX11_become_33 : decode cX11_become 33 = .ok (.getfield 35, 3) := by decide +kernel
theorem dX11_become_36 : decode cX11_become 36 = .ok (.getfield 127, 3) := by decide +kernel
theorem dX11_become_39 : decode cX11_become 39 = .ok (.iload_n 1, 1) := by decide +kernel
theorem dX11_become_40 : decode cX11_become 40 = .ok (.iload_n 2, 1) := by decide +kernel
theorem dX11_become_41 : decode cX11_become 41 = .ok (.bipush 10, 2) := by decide +kernel
theorem dX11_become_43 : decode cX11_become 43 = .ok (.idiv, 1) := by decide +kernel
theorem dX11_become_44 : decode cX11_become 44 = .ok (.iastore, 1) := by decide +kernel
theorem dX11_become_45 : decode cX11_become 45 = .ok (.aload_n 0, 1) := by decide +kernel
theorem dX11_become_46 : decode cX11_become 46 = .ok (.getfield 35, 3) := by decide +kernel
theorem dX11_become_49 : decode cX11_become 49 = .ok (.getfield 130, 3) := by decide +kernel
theorem dX11_become_52 : decode cX11_become 52 = .ok (.iload_n 1, 1) := by decide +kernel
theorem dX11_become_53 : decode cX11_become 53 = .ok (.iload_n 2, 1) := by decide +kernel
theorem dX11_become_54 : decode cX11_become 54 = .ok (.bipush 10, 2) := by decide +kernel
theorem dX11_become_56 : decode cX11_become 56 = .ok (.irem, 1) := by decide +kernel
theorem dX11_become_57 : decode cX11_become 57 = .ok (.iastore, 1) := by decide +kernel
theorem dX11_become_58 : decode cX11_become 58 = .ok (.iload_n 3, 1) := by decide +kernel
theorem dX11_become_59 : decode cX11_become 59 = .ok (.ireturn, 1) := by decide +kernel
theorem dX11_as_0 : decode cX11_as 0 = .ok (.aload_n 0, 1) := by decide +kernel
theorem dX11_as_1 : decode cX11_as 1 = .ok (.iload_n 1, 1) := by decide +kernel
theorem dX11_as_2 : decode cX11_as 2 = .ok (.invokevirtual 124, 3) := by decide +kernel
theorem dX11_as_5 : decode cX11_as 5 = .ok (.ifCond .eq 13, 3) := by decide +kernel
theorem dX11_as_8 : decode cX11_as 8 = .ok (.iload_n 2, 1) := by decide +kernel
theorem dX11_as_9 : decode cX11_as 9 = .ok (.iconst 0, 1) := by decide +kernel
theorem dX11_as_10 : decode cX11_as 10 = .ok (.bipush 6, 2) := by decide +kernel
theorem dX11_as_12 : decode cX11_as 12 = .ok (.invokestatic 86, 3) := by decide +kernel
theorem dX11_as_15 : decode cX11_as 15 = .ok (.ifCond .ne 10, 3) := by decide +kernel
theorem dX11_as_18 : decode cX11_as 18 = .ok (.aload_n 0, 1) := by decide +kernel
theorem dX11_as_19 : decode cX11_as 19 = .ok (.ldc 81, 2) := by decide +kernel
theorem dX11_as_21 : decode cX11_as 21 = .ok (.invokevirtual 82, 3) := by decide +kernel
theorem dX11_as_24 : decode cX11_as 24 = .ok (.ireturn, 1) := by decide +kernel
theorem dX11_as_25 : decode cX11_as 25 = .ok (.aload_n 0, 1) := by decide +kernel
theorem dX11_as_26 : decode cX11_as 26 = .ok (.getfield 35, 3) := by decide +kernel
theorem dX11_as_29 : decode cX11_as 29 = .ok (.getfield 127, 3) := by decide +kernel
theorem dX11_as_32 : decode cX11_as 32 = .ok (.iload_n 1, 1) := by decide +kernel
theorem dX11_as_33 : decode cX11_as 33 = .ok (.iaload, 1) := by decide +kernel
theorem dX11_as_34 : decode cX11_as 34 = .ok (.iload_n 2, 1) := by decide +kernel
theorem dX11_as_35 : decode cX11_as 35 = .ok (.invokestatic 170, 3) := by decide +kernel
theorem dX11_as_38 : decode cX11_as 38 = .ok (.ifCond .eq 15, 3) := by decide +kernel
theorem dX11_as_41 : decode cX11_as 41 = .ok (.aload_n 0, 1) := by decide +kernel
theorem dX11_as_42 : decode cX11_as 42 = .ok (.getfield 35, 3) := by decide +kernel
theorem dX11_as_45 : decode cX11_as 45 = .ok (.getfield 130, 3) := by decide +kernel
theorem dX11_as_48 : decode cX11_as 48 = .ok (.iload_n 1, 1) := by decide +kernel
theorem dX11_as_49 : decode cX11_as 49 = .ok (.iaload, 1) := by decide +kernel
theorem dX11_as_50 : decode cX11_as 50 = .ok (.goto 9, 3) := by decide +kernel
theorem dX11_as_53 : decode cX11_as 53 = .ok (.aload_n 0, 1) := by decide +kernel
theorem dX11_as_54 : decode cX11_as 54 = .ok (.ldc 173, 2) := by decide +kernel
theorem dX11_as_56 : decode cX11_as 56 = .ok (.invokevirtual 82, 3) := by decide +kernel
theorem dX11_as_59 : decode cX11_as 59 = .ok (.ireturn, 1) := by decide +kernel
theorem dX11_feed_0 : decode cX11_feed 0 = .ok (.iload_n 3, 1) := by decide +kernel
theorem dX11_feed_1 : decode cX11_feed 1 = .ok (.iconst 1, 1) := by decide +kernel
theorem dX11_feed_2 : decode cX11_feed 2 = .ok (.bipush 8, 2) := by decide +kernel
theorem dX11_feed_4 : decode cX11_feed 4 = .ok (.invokestatic 86, 3) := by decide +kernel
theorem dX11_feed_7 : decode cX11_feed 7 = .ok (.ifCond .ne 10, 3) := by decide +kernel
theorem dX11_feed_10 : decode cX11_feed 10 = .ok (.aload_n 0, 1) := by decide +kernel
theorem dX11_feed_11 : decode cX11_feed 11 = .ok (.ldc 81, 2) := by decide +kernel
theorem dX11_feed_13 : decode cX11_feed 13 = .ok (.invokevirtual 82, 3) := by decide +kernel
theorem dX11_feed_16 : decode cX11_feed 16 = .ok (.ireturn, 1) := by decide +kernel
theorem dX11_feed_17 : decode cX11_feed 17 = .ok (.aload_n 0, 1) := by decide +kernel
theorem dX11_feed_18 : decode cX11_feed 18 = .ok (.getfield 48, 3) := by decide +kernel
theorem dX11_feed_21 : decode cX11_feed 21 = .ok (.getfield 174, 3) := by decide +kernel
theorem dX11_feed_24 : decode cX11_feed 24 = .ok (.iload_n 3, 1) := by decide +kernel
theorem dX11_feed_25 : decode cX11_feed 25 = .ok (.iadd, 1) := by decide +kernel
theorem dX11_feed_26 : decode cX11_feed 26 = .ok (.bipush 50, 2) := by decide +kernel
theorem dX11_feed_28 : decode cX11_feed 28 = .ok (.if_icmp .le 10, 3) := by decide +kernel
theorem dX11_feed_31 : decode cX11_feed 31 = .ok (.aload_n 0, 1) := by decide +kernel
theorem dX11_feed_32 : decode cX11_feed 32 = .ok (.ldc 119, 2) := by decide +kernel
theorem dX11_feed_34 : decode cX11_feed 34 = .ok (.invokevirtual 82, 3) := by decide +kernel
theorem dX11_feed_37 : decode cX11_feed 37 = .ok (.ireturn, 1) := by decide +kernel
theorem dX11_feed_38 : decode cX11_feed 38 = .ok (.iconst 0, 1) := by decide +kernel
theorem dX11_feed_39 : decode cX11_feed 39 = .ok (.istore 4, 2) := by decide +kernel
theorem dX11_feed_41 : decode cX11_feed 41 = .ok (.iload 4, 2) := by decide +kernel
theorem dX11_feed_43 : decode cX11_feed 43 = .ok (.iload_n 3, 1) := by decide +kernel
theorem dX11_feed_44 : decode cX11_feed 44 = .ok (.if_icmp .ge 28, 3) := by decide +kernel
theorem dX11_feed_47 : decode cX11_feed 47 = .ok (.aload_n 0, 1) := by decide +kernel
theorem dX11_feed_48 : decode cX11_feed 48 = .ok (.getfield 48, 3) := by decide +kernel
theorem dX11_feed_51 : decode cX11_feed 51 = .ok (.lload_n 1, 1) := by decide +kernel
theorem dX11_feed_52 : decode cX11_feed 52 = .ok (.bipush 8, 2) := by decide +kernel
theorem dX11_feed_54 : decode cX11_feed 54 = .ok (.iload 4, 2) := by decide +kernel
theorem dX11_feed_56 : decode cX11_feed 56 = .ok (.imul, 1) := by decide +kernel
theorem dX11_feed_57 : decode cX11_feed 57 = .ok (.lushr, 1) := by decide +kernel
theorem dX11_feed_58 : decode cX11_feed 58 = .ok (.ldc2_w 177, 3) := by decide +kernel
theorem dX11_feed_61 : decode cX11_feed 61 = .ok (.land, 1) := by decide +kernel
theorem dX11_feed_62 : decode cX11_feed 62 = .ok (.l2i, 1) := by decide +kernel
theorem dX11_feed_63 : decode cX11_feed 63 = .ok (.invokevirtual 179, 3) := by decide +kernel
theorem dX11_feed_66 : decode cX11_feed 66 = .ok (.iinc 4 1, 3) := by decide +kernel
theorem dX11_feed_69 : decode cX11_feed 69 = .ok (.goto (-28), 3) := by decide +kernel
theorem dX11_feed_72 : decode cX11_feed 72 = .ok (.aload_n 0, 1) := by decide +kernel
theorem dX11_feed_73 : decode cX11_feed 73 = .ok (.getfield 48, 3) := by decide +kernel
theorem dX11_feed_76 : decode cX11_feed 76 = .ok (.getfield 174, 3) := by decide +kernel
theorem dX11_feed_79 : decode cX11_feed 79 = .ok (.ireturn, 1) := by decide +kernel
theorem dX11_text_0 : decode cX11_text 0 = .ok (.iload_n 1, 1) := by decide +kernel
theorem dX11_text_1 : decode cX11_text 1 = .ok (.iconst 0, 1) := by decide +kernel
theorem dX11_text_2 : decode cX11_text 2 = .ok (.iconst 1, 1) := by decide +kernel
theorem dX11_text_3 : decode cX11_text 3 = .ok (.invokestatic 86, 3) := by decide +kernel
theorem dX11_text_6 : decode cX11_text 6 = .ok (.ifCond .ne 10, 3) := by decide +kernel
theorem dX11_text_9 : decode cX11_text 9 = .ok (.aload_n 0, 1) := by decide +kernel
theorem dX11_text_10 : decode cX11_text 10 = .ok (.ldc 81, 2) := by decide +kernel
theorem dX11_text_12 : decode cX11_text 12 = .ok (.invokevirtual 82, 3) := by decide +kernel
theorem dX11_text_15 : decode cX11_text 15 = .ok (.ireturn, 1) := by decide +kernel
theorem dX11_text_16 : decode cX11_text 16 = .ok (.iload_n 1, 1) := by decide +kernel
theorem dX11_text_17 : decode cX11_text 17 = .ok (.ifCond .ne 13, 3) := by decide +kernel
theorem dX11_text_20 : decode cX11_text 20 = .ok (.aload_n 0, 1) := by decide +kernel
theorem dX11_text_21 : decode cX11_text 21 = .ok (.getfield 48, 3) := by decide +kernel
theorem dX11_text_24 : decode cX11_text 24 = .ok (.getfield 183, 3) := by decide +kernel
theorem dX11_text_27 : decode cX11_text 27 = .ok (.goto 10, 3) := by decide +kernel
theorem dX11_text_30 : decode cX11_text 30 = .ok (.aload_n 0, 1) := by decide +kernel
theorem dX11_text_31 : decode cX11_text 31 = .ok (.getfield 48, 3) := by decide +kernel
theorem dX11_text_34 : decode cX11_text 34 = .ok (.getfield 187, 3) := by decide +kernel
theorem dX11_text_37 : decode cX11_text 37 = .ok (.astore_n 2, 1) := by decide +kernel
theorem dX11_text_38 : decode cX11_text 38 = .ok (.aload_n 2, 1) := by decide +kernel
theorem dX11_text_39 : decode cX11_text 39 = .ok (.aload_n 0, 1) := by decide +kernel
theorem dX11_text_40 : decode cX11_text 40 = .ok (.getfield 48, 3) := by decide +kernel
theorem dX11_text_43 : decode cX11_text 43 = .ok (.getfield 190, 3) := by decide +kernel
theorem dX11_text_46 : decode cX11_text 46 = .ok (.aload_n 0, 1) := by decide +kernel
theorem dX11_text_47 : decode cX11_text 47 = .ok (.getfield 48, 3) := by decide +kernel
theorem dX11_text_50 : decode cX11_text 50 = .ok (.getfield 174, 3) := by decide +kernel
theorem dX11_text_53 : decode cX11_text 53 = .ok (.invokevirtual 193, 3) := by decide +kernel
theorem dX11_text_56 : decode cX11_text 56 = .ok (.istore_n 3, 1) := by decide +kernel
theorem dX11_text_57 : decode cX11_text 57 = .ok (.aload_n 0, 1) := by decide +kernel
theorem dX11_text_58 : decode cX11_text 58 = .ok (.getfield 48, 3) := by decide +kernel
theorem dX11_text_61 : decode cX11_text 61 = .ok (.iconst 0, 1) := by decide +kernel
theorem dX11_text_62 : decode cX11_text 62 = .ok (.putfield 174, 3) := by decide +kernel
theorem dX11_text_65 : decode cX11_text 65 = .ok (.iload_n 3, 1) := by decide +kernel
theorem dX11_text_66 : decode cX11_text 66 = .ok (.ifCond .ge 7, 3) := by decide +kernel
theorem dX11_text_69 : decode cX11_text 69 = .ok (.iconst 1, 1) := by decide +kernel
theorem dX11_text_70 : decode cX11_text 70 = .ok (.goto 7, 3) := by decide +kernel
theorem dX11_text_73 : decode cX11_text 73 = .ok (.bipush (-10), 2) := by decide +kernel
theorem dX11_text_75 : decode cX11_text 75 = .ok (.iload_n 3, 1) := by decide +kernel
theorem dX11_text_76 : decode cX11_text 76 = .ok (.isub, 1) := by decide +kernel
theorem dX11_text_77 : decode cX11_text 77 = .ok (.ireturn, 1) := by decide +kernel
theorem dX11_law_0 : decode cX11_law 0 = .ok (.iload_n 1, 1) := by decide +kernel
theorem dX11_law_1 : decode cX11_law 1 = .ok (.iconst 0, 1) := by decide +kernel
theorem dX11_law_2 : decode cX11_law 2 = .ok (.iconst 1, 1) := by decide +kernel
theorem dX11_law_3 : decode cX11_law 3 = .ok (.invokestatic 86, 3) := by decide +kernel
theorem dX11_law_6 : decode cX11_law 6 = .ok (.ifCond .ne 10, 3) := by decide +kernel
theorem dX11_law_9 : decode cX11_law 9 = .ok (.aload_n 0, 1) := by decide +kernel
theorem dX11_law_10 : decode cX11_law 10 = .ok (.ldc 81, 2) := by decide +kernel
theorem dX11_law_12 : decode cX11_law 12 = .ok (.invokevirtual 82, 3) := by decide +kernel
theorem dX11_law_15 : decode cX11_law 15 = .ok (.ireturn, 1) := by decide +kernel
theorem dX11_law_16 : decode cX11_law 16 = .ok (.iload_n 1, 1) := by decide +kernel
theorem dX11_law_17 : decode cX11_law 17 = .ok (.ifCond .ne 20, 3) := by decide +kernel
theorem dX11_law_20 : decode cX11_law 20 = .ok (.aload_n 0, 1) := by decide +kernel
theorem dX11_law_21 : decode cX11_law 21 = .ok (.getfield 48, 3) := by decide +kernel
theorem dX11_law_24 : decode cX11_law 24 = .ok (.getfield 183, 3) := by decide +kernel
theorem dX11_law_27 : decode cX11_law 27 = .ok (.iload_n 2, 1) := by decide +kernel
theorem dX11_law_28 : decode cX11_law 28 = .ok (.iload_n 3, 1) := by decide +kernel
theorem dX11_law_29 : decode cX11_law 29 = .ok (.iload 4, 2) := by decide +kernel
theorem dX11_law_31 : decode cX11_law 31 = .ok (.invokevirtual 199, 3) := by decide +kernel
theorem dX11_law_34 : decode cX11_law 34 = .ok (.goto 17, 3) := by decide +kernel
theorem dX11_law_37 : decode cX11_law 37 = .ok (.aload_n 0, 1) := by decide +kernel
theorem dX11_law_38 : decode cX11_law 38 = .ok (.getfield 48, 3) := by decide +kernel
theorem dX11_law_41 : decode cX11_law 41 = .ok (.getfield 187, 3) := by decide +kernel
theorem dX11_law_44 : decode cX11_law 44 = .ok (.iload_n 2, 1) := by decide +kernel
theorem dX11_law_45 : decode cX11_law 45 = .ok (.iload_n 3, 1) := by decide +kernel
theorem dX11_law_46 : decode cX11_law 46 = .ok (.iload 4, 2) := by decide +kernel
theorem dX11_law_48 : decode cX11_law 48 = .ok (.invokevirtual 199, 3) := by decide +kernel
theorem dX11_law_51 : decode cX11_law 51 = .ok (.ireturn, 1) := by decide +kernel
theorem dX11_days_0 : decode cX11_days 0 = .ok (.iload_n 1, 1) := by decide +kernel
theorem dX11_days_1 : decode cX11_days 1 = .ok (.iconst 1, 1) := by decide +kernel
theorem dX11_days_2 : decode cX11_days 2 = .ok (.bipush 60, 2) := by decide +kernel
theorem dX11_days_4 : decode cX11_days 4 = .ok (.invokestatic 86, 3) := by decide +kernel
theorem dX11_days_7 : decode cX11_days 7 = .ok (.ifCond .ne 10, 3) := by decide +kernel
theorem dX11_days_10 : decode cX11_days 10 = .ok (.aload_n 0, 1) := by decide +kernel
theorem dX11_days_11 : decode cX11_days 11 = .ok (.ldc 81, 2) := by decide +kernel
theorem dX11_days_13 : decode cX11_days 13 = .ok (.invokevirtual 82, 3) := by decide +kernel
theorem dX11_days_16 : decode cX11_days 16 = .ok (.ireturn, 1) := by decide +kernel
theorem dX11_days_17 : decode cX11_days 17 = .ok (.aload_n 0, 1) := by decide +kernel
theorem dX11_days_18 : decode cX11_days 18 = .ok (.getfield 35, 3) := by decide +kernel
theorem dX11_days_21 : decode cX11_days 21 = .ok (.getfield 202, 3) := by decide +kernel
theorem dX11_days_24 : decode cX11_days 24 = .ok (.iload_n 1, 1) := by decide +kernel
theorem dX11_days_25 : decode cX11_days 25 = .ok (.iadd, 1) := by decide +kernel
theorem dX11_days_26 : decode cX11_days 26 = .ok (.sipush 9999, 3) := by decide +kernel
theorem dX11_days_29 : decode cX11_days 29 = .ok (.if_icmp .le 10, 3) := by decide +kernel
theorem dX11_days_32 : decode cX11_days 32 = .ok (.aload_n 0, 1) := by decide +kernel
theorem dX11_days_33 : decode cX11_days 33 = .ok (.ldc 169, 2) := by decide +kernel
theorem dX11_days_35 : decode cX11_days 35 = .ok (.invokevirtual 82, 3) := by decide +kernel
theorem dX11_days_38 : decode cX11_days 38 = .ok (.ireturn, 1) := by decide +kernel
theorem dX11_days_39 : decode cX11_days 39 = .ok (.aload_n 0, 1) := by decide +kernel
theorem dX11_days_40 : decode cX11_days 40 = .ok (.getfield 35, 3) := by decide +kernel
theorem dX11_days_43 : decode cX11_days 43 = .ok (.iload_n 1, 1) := by decide +kernel
theorem dX11_days_44 : decode cX11_days 44 = .ok (.aload_n 0, 1) := by decide +kernel
theorem dX11_days_45 : decode cX11_days 45 = .ok (.getfield 48, 3) := by decide +kernel
theorem dX11_days_48 : decode cX11_days 48 = .ok (.invokevirtual 205, 3) := by decide +kernel
theorem dX11_days_51 : decode cX11_days 51 = .ok (.aload_n 0, 1) := by decide +kernel
theorem dX11_days_52 : decode cX11_days 52 = .ok (.getfield 35, 3) := by decide +kernel
theorem dX11_days_55 : decode cX11_days 55 = .ok (.getfield 110, 3) := by decide +kernel
theorem dX11_days_58 : decode cX11_days 58 = .ok (.ireturn, 1) := by decide +kernel
theorem dX11_loose_0 : decode cX11_loose 0 = .ok (.iload_n 1, 1) := by decide +kernel
theorem dX11_loose_1 : decode cX11_loose 1 = .ok (.iconst 1, 1) := by decide +kernel
theorem dX11_loose_2 : decode cX11_loose 2 = .ok (.bipush 40, 2) := by decide +kernel
theorem dX11_loose_4 : decode cX11_loose 4 = .ok (.invokestatic 86, 3) := by decide +kernel
theorem dX11_loose_7 : decode cX11_loose 7 = .ok (.ifCond .ne 10, 3) := by decide +kernel
theorem dX11_loose_10 : decode cX11_loose 10 = .ok (.aload_n 0, 1) := by decide +kernel
theorem dX11_loose_11 : decode cX11_loose 11 = .ok (.ldc 81, 2) := by decide +kernel
theorem dX11_loose_13 : decode cX11_loose 13 = .ok (.invokevirtual 82, 3) := by decide +kernel
theorem dX11_loose_16 : decode cX11_loose 16 = .ok (.ireturn, 1) := by decide +kernel
theorem dX11_loose_17 : decode cX11_loose 17 = .ok (.aload_n 0, 1) := by decide +kernel
theorem dX11_loose_18 : decode cX11_loose 18 = .ok (.getfield 35, 3) := by decide +kernel
theorem dX11_loose_21 : decode cX11_loose 21 = .ok (.getfield 202, 3) := by decide +kernel
theorem dX11_loose_24 : decode cX11_loose 24 = .ok (.iload_n 1, 1) := by decide +kernel
theorem dX11_loose_25 : decode cX11_loose 25 = .ok (.iadd, 1) := by decide +kernel
theorem dX11_loose_26 : decode cX11_loose 26 = .ok (.sipush 9999, 3) := by decide +kernel
theorem dX11_loose_29 : decode cX11_loose 29 = .ok (.if_icmp .le 10, 3) := by decide +kernel
theorem dX11_loose_32 : decode cX11_loose 32 = .ok (.aload_n 0, 1) := by decide +kernel
theorem dX11_loose_33 : decode cX11_loose 33 = .ok (.ldc 169, 2) := by decide +kernel
theorem dX11_loose_35 : decode cX11_loose 35 = .ok (.invokevirtual 82, 3) := by decide +kernel
theorem dX11_loose_38 : decode cX11_loose 38 = .ok (.ireturn, 1) := by decide +kernel
theorem dX11_loose_39 : decode cX11_loose 39 = .ok (.iconst 0, 1) := by decide +kernel
theorem dX11_loose_40 : decode cX11_loose 40 = .ok (.istore_n 2, 1) := by decide +kernel
theorem dX11_loose_41 : decode cX11_loose 41 = .ok (.iload_n 2, 1) := by decide +kernel
theorem dX11_loose_42 : decode cX11_loose 42 = .ok (.iload_n 1, 1) := by decide +kernel
theorem dX11_loose_43 : decode cX11_loose 43 = .ok (.if_icmp .ge 72, 3) := by decide +kernel
theorem dX11_loose_46 : decode cX11_loose 46 = .ok (.aload_n 0, 1) := by decide +kernel
theorem dX11_loose_47 : decode cX11_loose 47 = .ok (.getfield 35, 3) := by decide +kernel
theorem dX11_loose_50 : decode cX11_loose 50 = .ok (.aload_n 0, 1) := by decide +kernel
theorem dX11_loose_51 : decode cX11_loose 51 = .ok (.getfield 48, 3) := by decide +kernel
theorem dX11_loose_54 : decode cX11_loose 54 = .ok (.invokevirtual 209, 3) := by decide +kernel
theorem dX11_loose_57 : decode cX11_loose 57 = .ok (.bipush 6, 2) := by decide +kernel
theorem dX11_loose_59 : decode cX11_loose 59 = .ok (.irem, 1) := by decide +kernel
theorem dX11_loose_60 : decode cX11_loose 60 = .ok (.putfield 102, 3) := by decide +kernel
theorem dX11_loose_63 : decode cX11_loose 63 = .ok (.aload_n 0, 1) := by decide +kernel
theorem dX11_loose_64 : decode cX11_loose 64 = .ok (.getfield 48, 3) := by decide +kernel
theorem dX11_loose_67 : decode cX11_loose 67 = .ok (.invokevirtual 209, 3) := by decide +kernel
theorem dX11_loose_70 : decode cX11_loose 70 = .ok (.istore_n 3, 1) := by decide +kernel
theorem dX11_loose_71 : decode cX11_loose 71 = .ok (.iload_n 3, 1) := by decide +kernel
theorem dX11_loose_72 : decode cX11_loose 72 = .ok (.iconst 4, 1) := by decide +kernel
theorem dX11_loose_73 : decode cX11_loose 73 = .ok (.irem, 1) := by decide +kernel
theorem dX11_loose_74 : decode cX11_loose 74 = .ok (.ifCond .ne 24, 3) := by decide +kernel
theorem dX11_loose_77 : decode cX11_loose 77 = .ok (.aload_n 0, 1) := by decide +kernel
theorem dX11_loose_78 : decode cX11_loose 78 = .ok (.getfield 35, 3) := by decide +kernel
theorem dX11_loose_81 : decode cX11_loose 81 = .ok (.getfield 93, 3) := by decide +kernel
theorem dX11_loose_84 : decode cX11_loose 84 = .ok (.iload_n 3, 1) := by decide +kernel
theorem dX11_loose_85 : decode cX11_loose 85 = .ok (.iconst 4, 1) := by decide +kernel
theorem dX11_loose_86 : decode cX11_loose 86 = .ok (.idiv, 1) := by decide +kernel
theorem dX11_loose_87 : decode cX11_loose 87 = .ok (.bipush 16, 2) := by decide +kernel
theorem dX11_loose_89 : decode cX11_loose 89 = .ok (.irem, 1) := by decide +kernel
theorem dX11_loose_90 : decode cX11_loose 90 = .ok (.iload_n 3, 1) := by decide +kernel
theorem dX11_loose_91 : decode cX11_loose 91 = .ok (.bipush 64, 2) := by decide +kernel
theorem dX11_loose_93 : decode cX11_loose 93 = .ok (.idiv, 1) := by decide +kernel
theorem dX11_loose_94 : decode cX11_loose 94 = .ok (.bipush 16, 2) := by decide +kernel
theorem dX11_loose_96 : decode cX11_loose 96 = .ok (.irem, 1) := by decide +kernel
theorem dX11_loose_97 : decode cX11_loose 97 = .ok (.iastore, 1) := by decide +kernel
theorem dX11_loose_98 : decode cX11_loose 98 = .ok (.aload_n 0, 1) := by decide +kernel
theorem dX11_loose_99 : decode cX11_loose 99 = .ok (.getfield 35, 3) := by decide +kernel
theorem dX11_loose_102 : decode cX11_loose 102 = .ok (.aload_n 0, 1) := by decide +kernel
theorem dX11_loose_103 : decode cX11_loose 103 = .ok (.getfield 48, 3) := by decide +kernel
theorem dX11_loose_106 : decode cX11_loose 106 = .ok (.invokevirtual 213, 3) := by decide +kernel
theorem dX11_loose_109 : decode cX11_loose 109 = .ok (.iinc 2 1, 3) := by decide +kernel
theorem dX11_loose_112 : decode cX11_loose 112 = .ok (.goto (-71), 3) := by decide +kernel
theorem dX11_loose_115 : decode cX11_loose 115 = .ok (.aload_n 0, 1) := by decide +kernel
theorem dX11_loose_116 : decode cX11_loose 116 = .ok (.getfield 35, 3) := by decide +kernel
theorem dX11_loose_119 : decode cX11_loose 119 = .ok (.getfield 110, 3) := by decide +kernel
theorem dX11_loose_122 : decode cX11_loose 122 = .ok (.ireturn, 1) := by decide +kernel
theorem dX11_then_0 : decode cX11_then 0 = .ok (.iload_n 1, 1) := by decide +kernel
theorem dX11_then_1 : decode cX11_then 1 = .ok (.iconst 0, 1) := by decide +kernel
theorem dX11_then_2 : decode cX11_then 2 = .ok (.bipush 60, 2) := by decide +kernel
theorem dX11_then_4 : decode cX11_then 4 = .ok (.invokestatic 86, 3) := by decide +kernel
theorem dX11_then_7 : decode cX11_then 7 = .ok (.ifCond .eq 11, 3) := by decide +kernel
theorem dX11_then_10 : decode cX11_then 10 = .ok (.aload_n 0, 1) := by decide +kernel
theorem dX11_then_11 : decode cX11_then 11 = .ok (.iload_n 2, 1) := by decide +kernel
theorem dX11_then_12 : decode cX11_then 12 = .ok (.invokevirtual 124, 3) := by decide +kernel
theorem dX11_then_15 : decode cX11_then 15 = .ok (.ifCond .ne 10, 3) := by decide +kernel
theorem dX11_then_18 : decode cX11_then 18 = .ok (.aload_n 0, 1) := by decide +kernel
theorem dX11_then_19 : decode cX11_then 19 = .ok (.ldc 81, 2) := by decide +kernel
theorem dX11_then_21 : decode cX11_then 21 = .ok (.invokevirtual 82, 3) := by decide +kernel
theorem dX11_then_24 : decode cX11_then 24 = .ok (.ireturn, 1) := by decide +kernel
theorem dX11_then_25 : decode cX11_then 25 = .ok (.aload_n 0, 1) := by decide +kernel
theorem dX11_then_26 : decode cX11_then 26 = .ok (.invokevirtual 217, 3) := by decide +kernel
theorem dX11_then_29 : decode cX11_then 29 = .ok (.aload_n 0, 1) := by decide +kernel
theorem dX11_then_30 : decode cX11_then 30 = .ok (.getfield 39, 3) := by decide +kernel
theorem dX11_then_33 : decode cX11_then 33 = .ok (.iload_n 1, 1) := by decide +kernel
theorem dX11_then_34 : decode cX11_then 34 = .ok (.aload_n 0, 1) := by decide +kernel
theorem dX11_then_35 : decode cX11_then 35 = .ok (.getfield 48, 3) := by decide +kernel
theorem dX11_then_38 : decode cX11_then 38 = .ok (.invokevirtual 205, 3) := by decide +kernel
theorem dX11_then_41 : decode cX11_then 41 = .ok (.aload_n 0, 1) := by decide +kernel
theorem dX11_then_42 : decode cX11_then 42 = .ok (.getfield 39, 3) := by decide +kernel
theorem dX11_then_45 : decode cX11_then 45 = .ok (.getfield 139, 3) := by decide +kernel
theorem dX11_then_48 : decode cX11_then 48 = .ok (.iload_n 2, 1) := by decide +kernel
theorem dX11_then_49 : decode cX11_then 49 = .ok (.iaload, 1) := by decide +kernel
theorem dX11_then_50 : decode cX11_then 50 = .ok (.ireturn, 1) := by decide +kernel
theorem dX11_first_0 : decode cX11_first 0 = .ok (.iload_n 1, 1) := by decide +kernel
theorem dX11_first_1 : decode cX11_first 1 = .ok (.invokestatic 77, 3) := by decide +kernel
theorem dX11_first_4 : decode cX11_first 4 = .ok (.ifCond .eq 12, 3) := by decide +kernel
theorem dX11_first_7 : decode cX11_first 7 = .ok (.iload_n 2, 1) := by decide +kernel
theorem dX11_first_8 : decode cX11_first 8 = .ok (.iconst 0, 1) := by decide +kernel
theorem dX11_first_9 : decode cX11_first 9 = .ok (.iconst 1, 1) := by decide +kernel
theorem dX11_first_10 : decode cX11_first 10 = .ok (.invokestatic 86, 3) := by decide +kernel
theorem dX11_first_13 : decode cX11_first 13 = .ok (.ifCond .ne 10, 3) := by decide +kernel
theorem dX11_first_16 : decode cX11_first 16 = .ok (.aload_n 0, 1) := by decide +kernel
theorem dX11_first_17 : decode cX11_first 17 = .ok (.ldc 81, 2) := by decide +kernel
theorem dX11_first_19 : decode cX11_first 19 = .ok (.invokevirtual 82, 3) := by decide +kernel
theorem dX11_first_22 : decode cX11_first 22 = .ok (.ireturn, 1) := by decide +kernel
theorem dX11_first_23 : decode cX11_first 23 = .ok (.aload_n 0, 1) := by decide +kernel
theorem dX11_first_24 : decode cX11_first 24 = .ok (.invokevirtual 217, 3) := by decide +kernel
theorem dX11_first_27 : decode cX11_first 27 = .ok (.iconst 0, 1) := by decide +kernel
theorem dX11_first_28 : decode cX11_first 28 = .ok (.istore_n 3, 1) := by decide +kernel
theorem dX11_first_29 : decode cX11_first 29 = .ok (.iload_n 3, 1) := by decide +kernel
theorem dX11_first_30 : decode cX11_first 30 = .ok (.bipush 60, 2) := by decide +kernel
theorem dX11_first_32 : decode cX11_first 32 = .ok (.if_icmp .gt 49, 3) := by decide +kernel
theorem dX11_first_35 : decode cX11_first 35 = .ok (.aload_n 0, 1) := by decide +kernel
theorem dX11_first_36 : decode cX11_first 36 = .ok (.getfield 39, 3) := by decide +kernel
theorem dX11_first_39 : decode cX11_first 39 = .ok (.iload_n 1, 1) := by decide +kernel
theorem dX11_first_40 : decode cX11_first 40 = .ok (.invokevirtual 96, 3) := by decide +kernel
theorem dX11_first_43 : decode cX11_first 43 = .ok (.istore 4, 2) := by decide +kernel
theorem dX11_first_45 : decode cX11_first 45 = .ok (.iload 4, 2) := by decide +kernel
theorem dX11_first_47 : decode cX11_first 47 = .ok (.ifCond .eq 17, 3) := by decide +kernel
theorem dX11_first_50 : decode cX11_first 50 = .ok (.iload_n 2, 1) := by decide +kernel
theorem dX11_first_51 : decode cX11_first 51 = .ok (.ifCond .ne 7, 3) := by decide +kernel
theorem dX11_first_54 : decode cX11_first 54 = .ok (.iload_n 3, 1) := by decide +kernel
theorem dX11_first_55 : decode cX11_first 55 = .ok (.goto 8, 3) := by decide +kernel
theorem dX11_first_58 : decode cX11_first 58 = .ok (.iload 4, 2) := by decide +kernel
theorem dX11_first_60 : decode cX11_first 60 = .ok (.invokestatic 220, 3) := by decide +kernel
theorem dX11_first_63 : decode cX11_first 63 = .ok (.ireturn, 1) := by decide +kernel
theorem dX11_first_64 : decode cX11_first 64 = .ok (.aload_n 0, 1) := by decide +kernel
theorem dX11_first_65 : decode cX11_first 65 = .ok (.getfield 39, 3) := by decide +kernel
theorem dX11_first_68 : decode cX11_first 68 = .ok (.aload_n 0, 1) := by decide +kernel
theorem dX11_first_69 : decode cX11_first 69 = .ok (.getfield 48, 3) := by decide +kernel
theorem dX11_first_72 : decode cX11_first 72 = .ok (.invokevirtual 213, 3) := by decide +kernel
theorem dX11_first_75 : decode cX11_first 75 = .ok (.iinc 3 1, 3) := by decide +kernel
theorem dX11_first_78 : decode cX11_first 78 = .ok (.goto (-49), 3) := by decide +kernel
theorem dX11_first_81 : decode cX11_first 81 = .ok (.aload_n 0, 1) := by decide +kernel
theorem dX11_first_82 : decode cX11_first 82 = .ok (.ldc 223, 2) := by decide +kernel
theorem dX11_first_84 : decode cX11_first 84 = .ok (.invokevirtual 82, 3) := by decide +kernel
theorem dX11_first_87 : decode cX11_first 87 = .ok (.ireturn, 1) := by decide +kernel
theorem dX11_meet_0 : decode cX11_meet 0 = .ok (.aload_n 0, 1) := by decide +kernel
theorem dX11_meet_1 : decode cX11_meet 1 = .ok (.iload_n 1, 1) := by decide +kernel
theorem dX11_meet_2 : decode cX11_meet 2 = .ok (.invokevirtual 124, 3) := by decide +kernel
theorem dX11_meet_5 : decode cX11_meet 5 = .ok (.ifCond .eq 16, 3) := by decide +kernel
theorem dX11_meet_8 : decode cX11_meet 8 = .ok (.aload_n 0, 1) := by decide +kernel
theorem dX11_meet_9 : decode cX11_meet 9 = .ok (.iload_n 2, 1) := by decide +kernel
theorem dX11_meet_10 : decode cX11_meet 10 = .ok (.invokevirtual 124, 3) := by decide +kernel
theorem dX11_meet_13 : decode cX11_meet 13 = .ok (.ifCond .eq 8, 3) := by decide +kernel
theorem dX11_meet_16 : decode cX11_meet 16 = .ok (.iload_n 1, 1) := by decide +kernel
theorem dX11_meet_17 : decode cX11_meet 17 = .ok (.iload_n 2, 1) := by decide +kernel
theorem dX11_meet_18 : decode cX11_meet 18 = .ok (.if_icmp .ne 10, 3) := by decide +kernel
theorem dX11_meet_21 : decode cX11_meet 21 = .ok (.aload_n 0, 1) := by decide +kernel
theorem dX11_meet_22 : decode cX11_meet 22 = .ok (.ldc 81, 2) := by decide +kernel
theorem dX11_meet_24 : decode cX11_meet 24 = .ok (.invokevirtual 82, 3) := by decide +kernel
theorem dX11_meet_27 : decode cX11_meet 27 = .ok (.ireturn, 1) := by decide +kernel
theorem dX11_meet_28 : decode cX11_meet 28 = .ok (.aload_n 0, 1) := by decide +kernel
theorem dX11_meet_29 : decode cX11_meet 29 = .ok (.invokevirtual 217, 3) := by decide +kernel
theorem dX11_meet_32 : decode cX11_meet 32 = .ok (.iconst 0, 1) := by decide +kernel
theorem dX11_meet_33 : decode cX11_meet 33 = .ok (.istore_n 3, 1) := by decide +kernel
theorem dX11_meet_34 : decode cX11_meet 34 = .ok (.iload_n 3, 1) := by decide +kernel
theorem dX11_meet_35 : decode cX11_meet 35 = .ok (.bipush 60, 2) := by decide +kernel
theorem dX11_meet_37 : decode cX11_meet 37 = .ok (.if_icmp .gt 65, 3) := by decide +kernel
theorem dX11_meet_40 : decode cX11_meet 40 = .ok (.aload_n 0, 1) := by decide +kernel
theorem dX11_meet_41 : decode cX11_meet 41 = .ok (.getfield 39, 3) := by decide +kernel
theorem dX11_meet_44 : decode cX11_meet 44 = .ok (.iload_n 1, 1) := by decide +kernel
theorem dX11_meet_45 : decode cX11_meet 45 = .ok (.invokevirtual 149, 3) := by decide +kernel
theorem dX11_meet_48 : decode cX11_meet 48 = .ok (.ifCond .eq 37, 3) := by decide +kernel
theorem dX11_meet_51 : decode cX11_meet 51 = .ok (.aload_n 0, 1) := by decide +kernel
theorem dX11_meet_52 : decode cX11_meet 52 = .ok (.getfield 39, 3) := by decide +kernel
theorem dX11_meet_55 : decode cX11_meet 55 = .ok (.iload_n 2, 1) := by decide +kernel
theorem dX11_meet_56 : decode cX11_meet 56 = .ok (.invokevirtual 149, 3) := by decide +kernel
theorem dX11_meet_59 : decode cX11_meet 59 = .ok (.ifCond .eq 26, 3) := by decide +kernel
theorem dX11_meet_62 : decode cX11_meet 62 = .ok (.aload_n 0, 1) := by decide +kernel
theorem dX11_meet_63 : decode cX11_meet 63 = .ok (.getfield 39, 3) := by decide +kernel
theorem dX11_meet_66 : decode cX11_meet 66 = .ok (.getfield 139, 3) := by decide +kernel
theorem dX11_meet_69 : decode cX11_meet 69 = .ok (.iload_n 1, 1) := by decide +kernel
theorem dX11_meet_70 : decode cX11_meet 70 = .ok (.iaload, 1) := by decide +kernel
theorem dX11_meet_71 : decode cX11_meet 71 = .ok (.aload_n 0, 1) := by decide +kernel
theorem dX11_meet_72 : decode cX11_meet 72 = .ok (.getfield 39, 3) := by decide +kernel
theorem dX11_meet_75 : decode cX11_meet 75 = .ok (.getfield 139, 3) := by decide +kernel
theorem dX11_meet_78 : decode cX11_meet 78 = .ok (.iload_n 2, 1) := by decide +kernel
theorem dX11_meet_79 : decode cX11_meet 79 = .ok (.iaload, 1) := by decide +kernel
theorem dX11_meet_80 : decode cX11_meet 80 = .ok (.if_icmp .ne 5, 3) := by decide +kernel
theorem dX11_meet_83 : decode cX11_meet 83 = .ok (.iload_n 3, 1) := by decide +kernel
theorem dX11_meet_84 : decode cX11_meet 84 = .ok (.ireturn, 1) := by decide +kernel
theorem dX11_meet_85 : decode cX11_meet 85 = .ok (.aload_n 0, 1) := by decide +kernel
theorem dX11_meet_86 : decode cX11_meet 86 = .ok (.getfield 39, 3) := by decide +kernel
theorem dX11_meet_89 : decode cX11_meet 89 = .ok (.aload_n 0, 1) := by decide +kernel
theorem dX11_meet_90 : decode cX11_meet 90 = .ok (.getfield 48, 3) := by decide +kernel
theorem dX11_meet_93 : decode cX11_meet 93 = .ok (.invokevirtual 213, 3) := by decide +kernel
theorem dX11_meet_96 : decode cX11_meet 96 = .ok (.iinc 3 1, 3) := by decide +kernel
theorem dX11_meet_99 : decode cX11_meet 99 = .ok (.goto (-65), 3) := by decide +kernel
theorem dX11_meet_102 : decode cX11_meet 102 = .ok (.aload_n 0, 1) := by decide +kernel
theorem dX11_meet_103 : decode cX11_meet 103 = .ok (.ldc 223, 2) := by decide +kernel
theorem dX11_meet_105 : decode cX11_meet 105 = .ok (.invokevirtual 82, 3) := by decide +kernel
theorem dX11_meet_108 : decode cX11_meet 108 = .ok (.ireturn, 1) := by decide +kernel
theorem dX11_bright_0 : decode cX11_bright 0 = .ok (.aload_n 0, 1) := by decide +kernel
theorem dX11_bright_1 : decode cX11_bright 1 = .ok (.iload_n 1, 1) := by decide +kernel
theorem dX11_bright_2 : decode cX11_bright 2 = .ok (.invokevirtual 124, 3) := by decide +kernel
theorem dX11_bright_5 : decode cX11_bright 5 = .ok (.ifCond .eq 14, 3) := by decide +kernel
theorem dX11_bright_8 : decode cX11_bright 8 = .ok (.iload_n 2, 1) := by decide +kernel
theorem dX11_bright_9 : decode cX11_bright 9 = .ok (.iconst 0, 1) := by decide +kernel
theorem dX11_bright_10 : decode cX11_bright 10 = .ok (.sipush 9999, 3) := by decide +kernel
theorem dX11_bright_13 : decode cX11_bright 13 = .ok (.invokestatic 86, 3) := by decide +kernel
theorem dX11_bright_16 : decode cX11_bright 16 = .ok (.ifCond .ne 10, 3) := by decide +kernel
theorem dX11_bright_19 : decode cX11_bright 19 = .ok (.aload_n 0, 1) := by decide +kernel
theorem dX11_bright_20 : decode cX11_bright 20 = .ok (.ldc 81, 2) := by decide +kernel
theorem dX11_bright_22 : decode cX11_bright 22 = .ok (.invokevirtual 82, 3) := by decide +kernel
theorem dX11_bright_25 : decode cX11_bright 25 = .ok (.ireturn, 1) := by decide +kernel
theorem dX11_bright_26 : decode cX11_bright 26 = .ok (.aload_n 0, 1) := by decide +kernel
theorem dX11_bright_27 : decode cX11_bright 27 = .ok (.invokevirtual 217, 3) := by decide +kernel
theorem dX11_bright_30 : decode cX11_bright 30 = .ok (.iconst 0, 1) := by decide +kernel
theorem dX11_bright_31 : decode cX11_bright 31 = .ok (.istore_n 3, 1) := by decide +kernel
theorem dX11_bright_32 : decode cX11_bright 32 = .ok (.iload_n 3, 1) := by decide +kernel
theorem dX11_bright_33 : decode cX11_bright 33 = .ok (.bipush 60, 2) := by decide +kernel
theorem dX11_bright_35 : decode cX11_bright 35 = .ok (.if_icmp .gt 35, 3) := by decide +kernel
theorem dX11_bright_38 : decode cX11_bright 38 = .ok (.aload_n 0, 1) := by decide +kernel
theorem dX11_bright_39 : decode cX11_bright 39 = .ok (.getfield 39, 3) := by decide +kernel
theorem dX11_bright_42 : decode cX11_bright 42 = .ok (.getfield 142, 3) := by decide +kernel
theorem dX11_bright_45 : decode cX11_bright 45 = .ok (.iload_n 1, 1) := by decide +kernel
theorem dX11_bright_46 : decode cX11_bright 46 = .ok (.iaload, 1) := by decide +kernel
theorem dX11_bright_47 : decode cX11_bright 47 = .ok (.iload_n 2, 1) := by decide +kernel
theorem dX11_bright_48 : decode cX11_bright 48 = .ok (.if_icmp .lt 5, 3) := by decide +kernel
theorem dX11_bright_51 : decode cX11_bright 51 = .ok (.iload_n 3, 1) := by decide +kernel
theorem dX11_bright_52 : decode cX11_bright 52 = .ok (.ireturn, 1) := by decide +kernel
theorem dX11_bright_53 : decode cX11_bright 53 = .ok (.aload_n 0, 1) := by decide +kernel
theorem dX11_bright_54 : decode cX11_bright 54 = .ok (.getfield 39, 3) := by decide +kernel
theorem dX11_bright_57 : decode cX11_bright 57 = .ok (.aload_n 0, 1) := by decide +kernel
theorem dX11_bright_58 : decode cX11_bright 58 = .ok (.getfield 48, 3) := by decide +kernel
theorem dX11_bright_61 : decode cX11_bright 61 = .ok (.invokevirtual 213, 3) := by decide +kernel
theorem dX11_bright_64 : decode cX11_bright 64 = .ok (.iinc 3 1, 3) := by decide +kernel
theorem dX11_bright_67 : decode cX11_bright 67 = .ok (.goto (-35), 3) := by decide +kernel
theorem dX11_bright_70 : decode cX11_bright 70 = .ok (.aload_n 0, 1) := by decide +kernel
theorem dX11_bright_71 : decode cX11_bright 71 = .ok (.ldc 223, 2) := by decide +kernel
theorem dX11_bright_73 : decode cX11_bright 73 = .ok (.invokevirtual 82, 3) := by decide +kernel
theorem dX11_bright_76 : decode cX11_bright 76 = .ok (.ireturn, 1) := by decide +kernel
theorem dX11_place_0 : decode cX11_place 0 = .ok (.aload_n 0, 1) := by decide +kernel
theorem dX11_place_1 : decode cX11_place 1 = .ok (.iload_n 1, 1) := by decide +kernel
theorem dX11_place_2 : decode cX11_place 2 = .ok (.invokevirtual 124, 3) := by decide +kernel
theorem dX11_place_5 : decode cX11_place 5 = .ok (.ifCond .eq 22, 3) := by decide +kernel
theorem dX11_place_8 : decode cX11_place 8 = .ok (.iload_n 2, 1) := by decide +kernel
theorem dX11_place_9 : decode cX11_place 9 = .ok (.iconst 0, 1) := by decide +kernel
theorem dX11_place_10 : decode cX11_place 10 = .ok (.bipush 30, 2) := by decide +kernel
theorem dX11_place_12 : decode cX11_place 12 = .ok (.invokestatic 86, 3) := by decide +kernel
theorem dX11_place_15 : decode cX11_place 15 = .ok (.ifCond .eq 12, 3) := by decide +kernel
theorem dX11_place_18 : decode cX11_place 18 = .ok (.iload_n 3, 1) := by decide +kernel
theorem dX11_place_19 : decode cX11_place 19 = .ok (.iconst 0, 1) := by decide +kernel
theorem dX11_place_20 : decode cX11_place 20 = .ok (.iconst 1, 1) := by decide +kernel
theorem dX11_place_21 : decode cX11_place 21 = .ok (.invokestatic 86, 3) := by decide +kernel
theorem dX11_place_24 : decode cX11_place 24 = .ok (.ifCond .ne 10, 3) := by decide +kernel
theorem dX11_place_27 : decode cX11_place 27 = .ok (.aload_n 0, 1) := by decide +kernel
theorem dX11_place_28 : decode cX11_place 28 = .ok (.ldc 81, 2) := by decide +kernel
theorem dX11_place_30 : decode cX11_place 30 = .ok (.invokevirtual 82, 3) := by decide +kernel
theorem dX11_place_33 : decode cX11_place 33 = .ok (.ireturn, 1) := by decide +kernel
theorem dX11_place_34 : decode cX11_place 34 = .ok (.iconst 0, 1) := by decide +kernel
theorem dX11_place_35 : decode cX11_place 35 = .ok (.istore 4, 2) := by decide +kernel
theorem dX11_place_37 : decode cX11_place 37 = .ok (.iconst (-1), 1) := by decide +kernel
theorem dX11_place_38 : decode cX11_place 38 = .ok (.istore 5, 2) := by decide +kernel
theorem dX11_place_40 : decode cX11_place 40 = .ok (.iconst 0, 1) := by decide +kernel
theorem dX11_place_41 : decode cX11_place 41 = .ok (.istore 6, 2) := by decide +kernel
theorem dX11_place_43 : decode cX11_place 43 = .ok (.iload 6, 2) := by decide +kernel
theorem dX11_place_45 : decode cX11_place 45 = .ok (.bipush 16, 2) := by decide +kernel
theorem dX11_place_47 : decode cX11_place 47 = .ok (.if_icmp .ge 87, 3) := by decide +kernel
theorem dX11_place_50 : decode cX11_place 50 = .ok (.aload_n 0, 1) := by decide +kernel
theorem dX11_place_51 : decode cX11_place 51 = .ok (.invokevirtual 217, 3) := by decide +kernel
theorem dX11_place_54 : decode cX11_place 54 = .ok (.aload_n 0, 1) := by decide +kernel
theorem dX11_place_55 : decode cX11_place 55 = .ok (.getfield 39, 3) := by decide +kernel
theorem dX11_place_58 : decode cX11_place 58 = .ok (.getfield 133, 3) := by decide +kernel
theorem dX11_place_61 : decode cX11_place 61 = .ok (.iload_n 1, 1) := by decide +kernel
theorem dX11_place_62 : decode cX11_place 62 = .ok (.iload 6, 2) := by decide +kernel
theorem dX11_place_64 : decode cX11_place 64 = .ok (.iastore, 1) := by decide +kernel
theorem dX11_place_65 : decode cX11_place 65 = .ok (.aload_n 0, 1) := by decide +kernel
theorem dX11_place_66 : decode cX11_place 66 = .ok (.getfield 39, 3) := by decide +kernel
theorem dX11_place_69 : decode cX11_place 69 = .ok (.iload_n 1, 1) := by decide +kernel
theorem dX11_place_70 : decode cX11_place 70 = .ok (.invokevirtual 149, 3) := by decide +kernel
theorem dX11_place_73 : decode cX11_place 73 = .ok (.ifCond .eq 14, 3) := by decide +kernel
theorem dX11_place_76 : decode cX11_place 76 = .ok (.aload_n 0, 1) := by decide +kernel
theorem dX11_place_77 : decode cX11_place 77 = .ok (.getfield 39, 3) := by decide +kernel
theorem dX11_place_80 : decode cX11_place 80 = .ok (.getfield 139, 3) := by decide +kernel
theorem dX11_place_83 : decode cX11_place 83 = .ok (.iload_n 1, 1) := by decide +kernel
theorem dX11_place_84 : decode cX11_place 84 = .ok (.iload 6, 2) := by decide +kernel
theorem dX11_place_86 : decode cX11_place 86 = .ok (.iastore, 1) := by decide +kernel
theorem dX11_place_87 : decode cX11_place 87 = .ok (.aload_n 0, 1) := by decide +kernel
theorem dX11_place_88 : decode cX11_place 88 = .ok (.getfield 39, 3) := by decide +kernel
theorem dX11_place_91 : decode cX11_place 91 = .ok (.iload_n 2, 1) := by decide +kernel
theorem dX11_place_92 : decode cX11_place 92 = .ok (.aload_n 0, 1) := by decide +kernel
theorem dX11_place_93 : decode cX11_place 93 = .ok (.getfield 48, 3) := by decide +kernel
theorem dX11_place_96 : decode cX11_place 96 = .ok (.invokevirtual 205, 3) := by decide +kernel
theorem dX11_place_99 : decode cX11_place 99 = .ok (.aload_n 0, 1) := by decide +kernel
theorem dX11_place_100 : decode cX11_place 100 = .ok (.getfield 39, 3) := by decide +kernel
theorem dX11_place_103 : decode cX11_place 103 = .ok (.getfield 142, 3) := by decide +kernel
theorem dX11_place_106 : decode cX11_place 106 = .ok (.iload_n 1, 1) := by decide +kernel
theorem dX11_place_107 : decode cX11_place 107 = .ok (.iaload, 1) := by decide +kernel
theorem dX11_place_108 : decode cX11_place 108 = .ok (.iload 5, 2) := by decide +kernel
theorem dX11_place_110 : decode cX11_place 110 = .ok (.if_icmp .le 18, 3) := by decide +kernel
theorem dX11_place_113 : decode cX11_place 113 = .ok (.aload_n 0, 1) := by decide +kernel
theorem dX11_place_114 : decode cX11_place 114 = .ok (.getfield 39, 3) := by decide +kernel
theorem dX11_place_117 : decode cX11_place 117 = .ok (.getfield 142, 3) := by decide +kernel
theorem dX11_place_120 : decode cX11_place 120 = .ok (.iload_n 1, 1) := by decide +kernel
theorem dX11_place_121 : decode cX11_place 121 = .ok (.iaload, 1) := by decide +kernel
theorem dX11_place_122 : decode cX11_place 122 = .ok (.istore 5, 2) := by decide +kernel
theorem dX11_place_124 : decode cX11_place 124 = .ok (.iload 6, 2) := by decide +kernel
theorem dX11_place_126 : decode cX11_place 126 = .ok (.istore 4, 2) := by decide +kernel
theorem dX11_place_128 : decode cX11_place 128 = .ok (.iinc 6 1, 3) := by decide +kernel
theorem dX11_place_131 : decode cX11_place 131 = .ok (.goto (-88), 3) := by decide +kernel
theorem dX11_place_134 : decode cX11_place 134 = .ok (.iload_n 3, 1) := by decide +kernel
theorem dX11_place_135 : decode cX11_place 135 = .ok (.ifCond .ne 8, 3) := by decide +kernel
theorem dX11_place_138 : decode cX11_place 138 = .ok (.iload 4, 2) := by decide +kernel
theorem dX11_place_140 : decode cX11_place 140 = .ok (.goto 5, 3) := by decide +kernel
theorem dX11_place_143 : decode cX11_place 143 = .ok (.iload 5, 2) := by decide +kernel
theorem dX11_place_145 : decode cX11_place 145 = .ok (.ireturn, 1) := by decide +kernel
theorem dX11_cartsFor_0 : decode cX11_cartsFor 0 = .ok (.aload_n 0, 1) := by decide +kernel
theorem dX11_cartsFor_1 : decode cX11_cartsFor 1 = .ok (.iload_n 1, 1) := by decide +kernel
theorem dX11_cartsFor_2 : decode cX11_cartsFor 2 = .ok (.invokevirtual 224, 3) := by decide +kernel
theorem dX11_cartsFor_5 : decode cX11_cartsFor 5 = .ok (.ifCond .eq 13, 3) := by decide +kernel
theorem dX11_cartsFor_8 : decode cX11_cartsFor 8 = .ok (.iload_n 2, 1) := by decide +kernel
theorem dX11_cartsFor_9 : decode cX11_cartsFor 9 = .ok (.iconst 0, 1) := by decide +kernel
theorem dX11_cartsFor_10 : decode cX11_cartsFor 10 = .ok (.bipush 30, 2) := by decide +kernel
theorem dX11_cartsFor_12 : decode cX11_cartsFor 12 = .ok (.invokestatic 86, 3) := by decide +kernel
theorem dX11_cartsFor_15 : decode cX11_cartsFor 15 = .ok (.ifCond .ne 10, 3) := by decide +kernel
theorem dX11_cartsFor_18 : decode cX11_cartsFor 18 = .ok (.aload_n 0, 1) := by decide +kernel
theorem dX11_cartsFor_19 : decode cX11_cartsFor 19 = .ok (.ldc 81, 2) := by decide +kernel
theorem dX11_cartsFor_21 : decode cX11_cartsFor 21 = .ok (.invokevirtual 82, 3) := by decide +kernel
theorem dX11_cartsFor_24 : decode cX11_cartsFor 24 = .ok (.ireturn, 1) := by decide +kernel
theorem dX11_cartsFor_25 : decode cX11_cartsFor 25 = .ok (.bipush 9, 2) := by decide +kernel
theorem dX11_cartsFor_27 : decode cX11_cartsFor 27 = .ok (.istore_n 3, 1) := by decide +kernel
theorem dX11_cartsFor_28 : decode cX11_cartsFor 28 = .ok (.iload_n 3, 1) := by decide +kernel
theorem dX11_cartsFor_29 : decode cX11_cartsFor 29 = .ok (.ifCond .lt 46, 3) := by decide +kernel
theorem dX11_cartsFor_32 : decode cX11_cartsFor 32 = .ok (.aload_n 0, 1) := by decide +kernel
theorem dX11_cartsFor_33 : decode cX11_cartsFor 33 = .ok (.invokevirtual 217, 3) := by decide +kernel
theorem dX11_cartsFor_36 : decode cX11_cartsFor 36 = .ok (.aload_n 0, 1) := by decide +kernel
theorem dX11_cartsFor_37 : decode cX11_cartsFor 37 = .ok (.getfield 39, 3) := by decide +kernel
theorem dX11_cartsFor_40 : decode cX11_cartsFor 40 = .ok (.iload_n 3, 1) := by decide +kernel
theorem dX11_cartsFor_41 : decode cX11_cartsFor 41 = .ok (.putfield 102, 3) := by decide +kernel
theorem dX11_cartsFor_44 : decode cX11_cartsFor 44 = .ok (.aload_n 0, 1) := by decide +kernel
theorem dX11_cartsFor_45 : decode cX11_cartsFor 45 = .ok (.getfield 39, 3) := by decide +kernel
theorem dX11_cartsFor_48 : decode cX11_cartsFor 48 = .ok (.iload_n 2, 1) := by decide +kernel
theorem dX11_cartsFor_49 : decode cX11_cartsFor 49 = .ok (.aload_n 0, 1) := by decide +kernel
theorem dX11_cartsFor_50 : decode cX11_cartsFor 50 = .ok (.getfield 48, 3) := by decide +kernel
theorem dX11_cartsFor_53 : decode cX11_cartsFor 53 = .ok (.invokevirtual 205, 3) := by decide +kernel
theorem dX11_cartsFor_56 : decode cX11_cartsFor 56 = .ok (.aload_n 0, 1) := by decide +kernel
theorem dX11_cartsFor_57 : decode cX11_cartsFor 57 = .ok (.getfield 39, 3) := by decide +kernel
theorem dX11_cartsFor_60 : decode cX11_cartsFor 60 = .ok (.iload_n 1, 1) := by decide +kernel
theorem dX11_cartsFor_61 : decode cX11_cartsFor 61 = .ok (.invokevirtual 227, 3) := by decide +kernel
theorem dX11_cartsFor_64 : decode cX11_cartsFor 64 = .ok (.ifCond .eq 5, 3) := by decide +kernel
theorem dX11_cartsFor_67 : decode cX11_cartsFor 67 = .ok (.iload_n 3, 1) := by decide +kernel
theorem dX11_cartsFor_68 : decode cX11_cartsFor 68 = .ok (.ireturn, 1) := by decide +kernel
theorem dX11_cartsFor_69 : decode cX11_cartsFor 69 = .ok (.iinc 3 (-1), 3) := by decide +kernel
theorem dX11_cartsFor_72 : decode cX11_cartsFor 72 = .ok (.goto (-44), 3) := by decide +kernel
theorem dX11_cartsFor_75 : decode cX11_cartsFor 75 = .ok (.aload_n 0, 1) := by decide +kernel
theorem dX11_cartsFor_76 : decode cX11_cartsFor 76 = .ok (.ldc 223, 2) := by decide +kernel
theorem dX11_cartsFor_78 : decode cX11_cartsFor 78 = .ok (.invokevirtual 82, 3) := by decide +kernel
theorem dX11_cartsFor_81 : decode cX11_cartsFor 81 = .ok (.ireturn, 1) := by decide +kernel
theorem dX11_stop_0 : decode cX11_stop 0 = .ok (.aload_n 0, 1) := by decide +kernel
theorem dX11_stop_1 : decode cX11_stop 1 = .ok (.iload_n 1, 1) := by decide +kernel
theorem dX11_stop_2 : decode cX11_stop 2 = .ok (.invokevirtual 124, 3) := by decide +kernel
theorem dX11_stop_5 : decode cX11_stop 5 = .ok (.ifCond .eq 13, 3) := by decide +kernel
theorem dX11_stop_8 : decode cX11_stop 8 = .ok (.iload_n 2, 1) := by decide +kernel
theorem dX11_stop_9 : decode cX11_stop 9 = .ok (.iconst 0, 1) := by decide +kernel
theorem dX11_stop_10 : decode cX11_stop 10 = .ok (.bipush 20, 2) := by decide +kernel
theorem dX11_stop_12 : decode cX11_stop 12 = .ok (.invokestatic 86, 3) := by decide +kernel
theorem dX11_stop_15 : decode cX11_stop 15 = .ok (.ifCond .ne 10, 3) := by decide +kernel
theorem dX11_stop_18 : decode cX11_stop 18 = .ok (.aload_n 0, 1) := by decide +kernel
theorem dX11_stop_19 : decode cX11_stop 19 = .ok (.ldc 81, 2) := by decide +kernel
theorem dX11_stop_21 : decode cX11_stop 21 = .ok (.invokevirtual 82, 3) := by decide +kernel
theorem dX11_stop_24 : decode cX11_stop 24 = .ok (.ireturn, 1) := by decide +kernel
theorem dX11_stop_25 : decode cX11_stop 25 = .ok (.aload_n 0, 1) := by decide +kernel
theorem dX11_stop_26 : decode cX11_stop 26 = .ok (.invokevirtual 217, 3) := by decide +kernel
theorem dX11_stop_29 : decode cX11_stop 29 = .ok (.aload_n 0, 1) := by decide +kernel
theorem dX11_stop_30 : decode cX11_stop 30 = .ok (.getfield 39, 3) := by decide +kernel
theorem dX11_stop_33 : decode cX11_stop 33 = .ok (.iload_n 2, 1) := by decide +kernel
theorem dX11_stop_34 : decode cX11_stop 34 = .ok (.aload_n 0, 1) := by decide +kernel
theorem dX11_stop_35 : decode cX11_stop 35 = .ok (.getfield 48, 3) := by decide +kernel
theorem dX11_stop_38 : decode cX11_stop 38 = .ok (.invokevirtual 205, 3) := by decide +kernel
theorem dX11_stop_41 : decode cX11_stop 41 = .ok (.aload_n 0, 1) := by decide +kernel
theorem dX11_stop_42 : decode cX11_stop 42 = .ok (.getfield 39, 3) := by decide +kernel
theorem dX11_stop_45 : decode cX11_stop 45 = .ok (.getfield 142, 3) := by decide +kernel
theorem dX11_stop_48 : decode cX11_stop 48 = .ok (.iload_n 1, 1) := by decide +kernel
theorem dX11_stop_49 : decode cX11_stop 49 = .ok (.iaload, 1) := by decide +kernel
theorem dX11_stop_50 : decode cX11_stop 50 = .ok (.istore_n 3, 1) := by decide +kernel
theorem dX11_stop_51 : decode cX11_stop 51 = .ok (.iconst (-1), 1) := by decide +kernel
theorem dX11_stop_52 : decode cX11_stop 52 = .ok (.istore 4, 2) := by decide +kernel
theorem dX11_stop_54 : decode cX11_stop 54 = .ok (.iconst 0, 1) := by decide +kernel
theorem dX11_stop_55 : decode cX11_stop 55 = .ok (.istore 5, 2) := by decide +kernel
theorem dX11_stop_57 : decode cX11_stop 57 = .ok (.iload 5, 2) := by decide +kernel
theorem dX11_stop_59 : decode cX11_stop 59 = .ok (.bipush 16, 2) := by decide +kernel
theorem dX11_stop_61 : decode cX11_stop 61 = .ok (.if_icmp .ge 64, 3) := by decide +kernel
theorem dX11_stop_64 : decode cX11_stop 64 = .ok (.aload_n 0, 1) := by decide +kernel
theorem dX11_stop_65 : decode cX11_stop 65 = .ok (.invokevirtual 217, 3) := by decide +kernel
theorem dX11_stop_68 : decode cX11_stop 68 = .ok (.aload_n 0, 1) := by decide +kernel
theorem dX11_stop_69 : decode cX11_stop 69 = .ok (.getfield 39, 3) := by decide +kernel
theorem dX11_stop_72 : decode cX11_stop 72 = .ok (.getfield 93, 3) := by decide +kernel
theorem dX11_stop_75 : decode cX11_stop 75 = .ok (.iload 5, 2) := by decide +kernel
theorem dX11_stop_77 : decode cX11_stop 77 = .ok (.iload 5, 2) := by decide +kernel
theorem dX11_stop_79 : decode cX11_stop 79 = .ok (.iastore, 1) := by decide +kernel
theorem dX11_stop_80 : decode cX11_stop 80 = .ok (.aload_n 0, 1) := by decide +kernel
theorem dX11_stop_81 : decode cX11_stop 81 = .ok (.getfield 39, 3) := by decide +kernel
theorem dX11_stop_84 : decode cX11_stop 84 = .ok (.iload_n 2, 1) := by decide +kernel
theorem dX11_stop_85 : decode cX11_stop 85 = .ok (.aload_n 0, 1) := by decide +kernel
theorem dX11_stop_86 : decode cX11_stop 86 = .ok (.getfield 48, 3) := by decide +kernel
theorem dX11_stop_89 : decode cX11_stop 89 = .ok (.invokevirtual 205, 3) := by decide +kernel
theorem dX11_stop_92 : decode cX11_stop 92 = .ok (.aload_n 0, 1) := by decide +kernel
theorem dX11_stop_93 : decode cX11_stop 93 = .ok (.getfield 39, 3) := by decide +kernel
theorem dX11_stop_96 : decode cX11_stop 96 = .ok (.getfield 142, 3) := by decide +kernel
theorem dX11_stop_99 : decode cX11_stop 99 = .ok (.iload_n 1, 1) := by decide +kernel
theorem dX11_stop_100 : decode cX11_stop 100 = .ok (.iaload, 1) := by decide +kernel
theorem dX11_stop_101 : decode cX11_stop 101 = .ok (.iload_n 3, 1) := by decide +kernel
theorem dX11_stop_102 : decode cX11_stop 102 = .ok (.if_icmp .le 17, 3) := by decide +kernel
theorem dX11_stop_105 : decode cX11_stop 105 = .ok (.aload_n 0, 1) := by decide +kernel
theorem dX11_stop_106 : decode cX11_stop 106 = .ok (.getfield 39, 3) := by decide +kernel
theorem dX11_stop_109 : decode cX11_stop 109 = .ok (.getfield 142, 3) := by decide +kernel
theorem dX11_stop_112 : decode cX11_stop 112 = .ok (.iload_n 1, 1) := by decide +kernel
theorem dX11_stop_113 : decode cX11_stop 113 = .ok (.iaload, 1) := by decide +kernel
theorem dX11_stop_114 : decode cX11_stop 114 = .ok (.istore_n 3, 1) := by decide +kernel
theorem dX11_stop_115 : decode cX11_stop 115 = .ok (.iload 5, 2) := by decide +kernel
theorem dX11_stop_117 : decode cX11_stop 117 = .ok (.istore 4, 2) := by decide +kernel
theorem dX11_stop_119 : decode cX11_stop 119 = .ok (.iinc 5 1, 3) := by decide +kernel
theorem dX11_stop_122 : decode cX11_stop 122 = .ok (.goto (-65), 3) := by decide +kernel
theorem dX11_stop_125 : decode cX11_stop 125 = .ok (.iload 4, 2) := by decide +kernel
theorem dX11_stop_127 : decode cX11_stop 127 = .ok (.ireturn, 1) := by decide +kernel
theorem dX11_swap_0 : decode cX11_swap 0 = .ok (.iload_n 1, 1) := by decide +kernel
theorem dX11_swap_1 : decode cX11_swap 1 = .ok (.iconst 0, 1) := by decide +kernel
theorem dX11_swap_2 : decode cX11_swap 2 = .ok (.bipush 20, 2) := by decide +kernel
theorem dX11_swap_4 : decode cX11_swap 4 = .ok (.invokestatic 86, 3) := by decide +kernel
theorem dX11_swap_7 : decode cX11_swap 7 = .ok (.ifCond .ne 10, 3) := by decide +kernel
theorem dX11_swap_10 : decode cX11_swap 10 = .ok (.aload_n 0, 1) := by decide +kernel
theorem dX11_swap_11 : decode cX11_swap 11 = .ok (.ldc 81, 2) := by decide +kernel
theorem dX11_swap_13 : decode cX11_swap 13 = .ok (.invokevirtual 82, 3) := by decide +kernel
theorem dX11_swap_16 : decode cX11_swap 16 = .ok (.ireturn, 1) := by decide +kernel
theorem dX11_swap_17 : decode cX11_swap 17 = .ok (.aload_n 0, 1) := by decide +kernel
theorem dX11_swap_18 : decode cX11_swap 18 = .ok (.invokevirtual 217, 3) := by decide +kernel
theorem dX11_swap_21 : decode cX11_swap 21 = .ok (.aload_n 0, 1) := by decide +kernel
theorem dX11_swap_22 : decode cX11_swap 22 = .ok (.getfield 39, 3) := by decide +kernel
theorem dX11_swap_25 : decode cX11_swap 25 = .ok (.iload_n 1, 1) := by decide +kernel
theorem dX11_swap_26 : decode cX11_swap 26 = .ok (.aload_n 0, 1) := by decide +kernel
theorem dX11_swap_27 : decode cX11_swap 27 = .ok (.getfield 48, 3) := by decide +kernel
theorem dX11_swap_30 : decode cX11_swap 30 = .ok (.invokevirtual 205, 3) := by decide +kernel
theorem dX11_swap_33 : decode cX11_swap 33 = .ok (.aload_n 0, 1) := by decide +kernel
theorem dX11_swap_34 : decode cX11_swap 34 = .ok (.getfield 39, 3) := by decide +kernel
theorem dX11_swap_37 : decode cX11_swap 37 = .ok (.getfield 110, 3) := by decide +kernel
theorem dX11_swap_40 : decode cX11_swap 40 = .ok (.istore_n 2, 1) := by decide +kernel
theorem dX11_swap_41 : decode cX11_swap 41 = .ok (.iconst (-1), 1) := by decide +kernel
theorem dX11_swap_42 : decode cX11_swap 42 = .ok (.istore_n 3, 1) := by decide +kernel
theorem dX11_swap_43 : decode cX11_swap 43 = .ok (.iconst 0, 1) := by decide +kernel
theorem dX11_swap_44 : decode cX11_swap 44 = .ok (.istore 4, 2) := by decide +kernel
theorem dX11_swap_46 : decode cX11_swap 46 = .ok (.iload 4, 2) := by decide +kernel
theorem dX11_swap_48 : decode cX11_swap 48 = .ok (.aload_n 0, 1) := by decide +kernel
theorem dX11_swap_49 : decode cX11_swap 49 = .ok (.getfield 35, 3) := by decide +kernel
theorem dX11_swap_52 : decode cX11_swap 52 = .ok (.getfield 116, 3) := by decide +kernel
theorem dX11_swap_55 : decode cX11_swap 55 = .ok (.if_icmp .ge 117, 3) := by decide +kernel
theorem dX11_swap_58 : decode cX11_swap 58 = .ok (.iload 4, 2) := by decide +kernel
theorem dX11_swap_60 : decode cX11_swap 60 = .ok (.iconst 1, 1) := by decide +kernel
theorem dX11_swap_61 : decode cX11_swap 61 = .ok (.iadd, 1) := by decide +kernel
theorem dX11_swap_62 : decode cX11_swap 62 = .ok (.istore 5, 2) := by decide +kernel
theorem dX11_swap_64 : decode cX11_swap 64 = .ok (.iload 5, 2) := by decide +kernel
theorem dX11_swap_66 : decode cX11_swap 66 = .ok (.aload_n 0, 1) := by decide +kernel
theorem dX11_swap_67 : decode cX11_swap 67 = .ok (.getfield 35, 3) := by decide +kernel
theorem dX11_swap_70 : decode cX11_swap 70 = .ok (.getfield 116, 3) := by decide +kernel
theorem dX11_swap_73 : decode cX11_swap 73 = .ok (.if_icmp .ge 93, 3) := by decide +kernel
theorem dX11_swap_76 : decode cX11_swap 76 = .ok (.aload_n 0, 1) := by decide +kernel
theorem dX11_swap_77 : decode cX11_swap 77 = .ok (.invokevirtual 217, 3) := by decide +kernel
theorem dX11_swap_80 : decode cX11_swap 80 = .ok (.aload_n 0, 1) := by decide +kernel
theorem dX11_swap_81 : decode cX11_swap 81 = .ok (.getfield 39, 3) := by decide +kernel
theorem dX11_swap_84 : decode cX11_swap 84 = .ok (.getfield 133, 3) := by decide +kernel
theorem dX11_swap_87 : decode cX11_swap 87 = .ok (.iload 4, 2) := by decide +kernel
theorem dX11_swap_89 : decode cX11_swap 89 = .ok (.aload_n 0, 1) := by decide +kernel
theorem dX11_swap_90 : decode cX11_swap 90 = .ok (.getfield 35, 3) := by decide +kernel
theorem dX11_swap_93 : decode cX11_swap 93 = .ok (.getfield 133, 3) := by decide +kernel
theorem dX11_swap_96 : decode cX11_swap 96 = .ok (.iload 5, 2) := by decide +kernel
theorem dX11_swap_98 : decode cX11_swap 98 = .ok (.iaload, 1) := by decide +kernel
theorem dX11_swap_99 : decode cX11_swap 99 = .ok (.iastore, 1) := by decide +kernel
theorem dX11_swap_100 : decode cX11_swap 100 = .ok (.aload_n 0, 1) := by decide +kernel
theorem dX11_swap_101 : decode cX11_swap 101 = .ok (.getfield 39, 3) := by decide +kernel
theorem dX11_swap_104 : decode cX11_swap 104 = .ok (.getfield 133, 3) := by decide +kernel
theorem dX11_swap_107 : decode cX11_swap 107 = .ok (.iload 5, 2) := by decide +kernel
theorem dX11_swap_109 : decode cX11_swap 109 = .ok (.aload_n 0, 1) := by decide +kernel
theorem dX11_swap_110 : decode cX11_swap 110 = .ok (.getfield 35, 3) := by decide +kernel
theorem dX11_swap_113 : decode cX11_swap 113 = .ok (.getfield 133, 3) := by decide +kernel
theorem dX11_swap_116 : decode cX11_swap 116 = .ok (.iload 4, 2) := by decide +kernel
theorem dX11_swap_118 : decode cX11_swap 118 = .ok (.iaload, 1) := by decide +kernel
theorem dX11_swap_119 : decode cX11_swap 119 = .ok (.iastore, 1) := by decide +kernel
theorem dX11_swap_120 : decode cX11_swap 120 = .ok (.aload_n 0, 1) := by decide +kernel
theorem dX11_swap_121 : decode cX11_swap 121 = .ok (.getfield 39, 3) := by decide +kernel
theorem dX11_swap_124 : decode cX11_swap 124 = .ok (.iload_n 1, 1) := by decide +kernel
theorem dX11_swap_125 : decode cX11_swap 125 = .ok (.aload_n 0, 1) := by decide +kernel
theorem dX11_swap_126 : decode cX11_swap 126 = .ok (.getfield 48, 3) := by decide +kernel
theorem dX11_swap_129 : decode cX11_swap 129 = .ok (.invokevirtual 205, 3) := by decide +kernel
theorem dX11_swap_132 : decode cX11_swap 132 = .ok (.aload_n 0, 1) := by decide +kernel
theorem dX11_swap_133 : decode cX11_swap 133 = .ok (.getfield 39, 3) := by decide +kernel
theorem dX11_swap_136 : decode cX11_swap 136 = .ok (.getfield 110, 3) := by decide +kernel
theorem dX11_swap_139 : decode cX11_swap 139 = .ok (.iload_n 2, 1) := by decide +kernel
theorem dX11_swap_140 : decode cX11_swap 140 = .ok (.if_icmp .le 20, 3) := by decide +kernel
theorem dX11_swap_143 : decode cX11_swap 143 = .ok (.aload_n 0, 1) := by decide +kernel
theorem dX11_swap_144 : decode cX11_swap 144 = .ok (.getfield 39, 3) := by decide +kernel
theorem dX11_swap_147 : decode cX11_swap 147 = .ok (.getfield 110, 3) := by decide +kernel
theorem dX11_swap_150 : decode cX11_swap 150 = .ok (.istore_n 2, 1) := by decide +kernel
theorem dX11_swap_151 : decode cX11_swap 151 = .ok (.bipush 10, 2) := by decide +kernel
theorem dX11_swap_153 : decode cX11_swap 153 = .ok (.iload 4, 2) := by decide +kernel
theorem dX11_swap_155 : decode cX11_swap 155 = .ok (.imul, 1) := by decide +kernel
theorem dX11_swap_156 : decode cX11_swap 156 = .ok (.iload 5, 2) := by decide +kernel
theorem dX11_swap_158 : decode cX11_swap 158 = .ok (.iadd, 1) := by decide +kernel
theorem dX11_swap_159 : decode cX11_swap 159 = .ok (.istore_n 3, 1) := by decide +kernel
theorem dX11_swap_160 : decode cX11_swap 160 = .ok (.iinc 5 1, 3) := by decide +kernel
theorem dX11_swap_163 : decode cX11_swap 163 = .ok (.goto (-99), 3) := by decide +kernel
theorem dX11_swap_166 : decode cX11_swap 166 = .ok (.iinc 4 1, 3) := by decide +kernel
theorem dX11_swap_169 : decode cX11_swap 169 = .ok (.goto (-123), 3) := by decide +kernel
theorem dX11_swap_172 : decode cX11_swap 172 = .ok (.iload_n 3, 1) := by decide +kernel
theorem dX11_swap_173 : decode cX11_swap 173 = .ok (.ireturn, 1) := by decide +kernel
theorem dX11_sunFor_0 : decode cX11_sunFor 0 = .ok (.iload_n 1, 1) := by decide +kernel
theorem dX11_sunFor_1 : decode cX11_sunFor 1 = .ok (.invokestatic 77, 3) := by decide +kernel
theorem dX11_sunFor_4 : decode cX11_sunFor 4 = .ok (.ifCond .eq 24, 3) := by decide +kernel
theorem dX11_sunFor_7 : decode cX11_sunFor 7 = .ok (.iload_n 2, 1) := by decide +kernel
theorem dX11_sunFor_8 : decode cX11_sunFor 8 = .ok (.iconst 0, 1) := by decide +kernel
theorem dX11_sunFor_9 : decode cX11_sunFor 9 = .ok (.sipush 9999, 3) := by decide +kernel
theorem dX11_sunFor_12 : decode cX11_sunFor 12 = .ok (.invokestatic 86, 3) := by decide +kernel
theorem dX11_sunFor_15 : decode cX11_sunFor 15 = .ok (.ifCond .eq 13, 3) := by decide +kernel
theorem dX11_sunFor_18 : decode cX11_sunFor 18 = .ok (.iload_n 3, 1) := by decide +kernel
theorem dX11_sunFor_19 : decode cX11_sunFor 19 = .ok (.iconst 0, 1) := by decide +kernel
theorem dX11_sunFor_20 : decode cX11_sunFor 20 = .ok (.bipush 30, 2) := by decide +kernel
theorem dX11_sunFor_22 : decode cX11_sunFor 22 = .ok (.invokestatic 86, 3) := by decide +kernel
theorem dX11_sunFor_25 : decode cX11_sunFor 25 = .ok (.ifCond .ne 10, 3) := by decide +kernel
theorem dX11_sunFor_28 : decode cX11_sunFor 28 = .ok (.aload_n 0, 1) := by decide +kernel
theorem dX11_sunFor_29 : decode cX11_sunFor 29 = .ok (.ldc 81, 2) := by decide +kernel
theorem dX11_sunFor_31 : decode cX11_sunFor 31 = .ok (.invokevirtual 82, 3) := by decide +kernel
theorem dX11_sunFor_34 : decode cX11_sunFor 34 = .ok (.ireturn, 1) := by decide +kernel
theorem dX11_sunFor_35 : decode cX11_sunFor 35 = .ok (.iconst 0, 1) := by decide +kernel
theorem dX11_sunFor_36 : decode cX11_sunFor 36 = .ok (.istore 4, 2) := by decide +kernel
theorem dX11_sunFor_38 : decode cX11_sunFor 38 = .ok (.iload 4, 2) := by decide +kernel
theorem dX11_sunFor_40 : decode cX11_sunFor 40 = .ok (.bipush 9, 2) := by decide +kernel
theorem dX11_sunFor_42 : decode cX11_sunFor 42 = .ok (.if_icmp .gt 58, 3) := by decide +kernel
theorem dX11_sunFor_45 : decode cX11_sunFor 45 = .ok (.aload_n 0, 1) := by decide +kernel
theorem dX11_sunFor_46 : decode cX11_sunFor 46 = .ok (.invokevirtual 217, 3) := by decide +kernel
theorem dX11_sunFor_49 : decode cX11_sunFor 49 = .ok (.aload_n 0, 1) := by decide +kernel
theorem dX11_sunFor_50 : decode cX11_sunFor 50 = .ok (.getfield 39, 3) := by decide +kernel
theorem dX11_sunFor_53 : decode cX11_sunFor 53 = .ok (.getfield 90, 3) := by decide +kernel
theorem dX11_sunFor_56 : decode cX11_sunFor 56 = .ok (.iload_n 1, 1) := by decide +kernel
theorem dX11_sunFor_57 : decode cX11_sunFor 57 = .ok (.iload 4, 2) := by decide +kernel
theorem dX11_sunFor_59 : decode cX11_sunFor 59 = .ok (.iastore, 1) := by decide +kernel
theorem dX11_sunFor_60 : decode cX11_sunFor 60 = .ok (.aload_n 0, 1) := by decide +kernel
theorem dX11_sunFor_61 : decode cX11_sunFor 61 = .ok (.getfield 39, 3) := by decide +kernel
theorem dX11_sunFor_64 : decode cX11_sunFor 64 = .ok (.iload_n 3, 1) := by decide +kernel
theorem dX11_sunFor_65 : decode cX11_sunFor 65 = .ok (.aload_n 0, 1) := by decide +kernel
theorem dX11_sunFor_66 : decode cX11_sunFor 66 = .ok (.getfield 48, 3) := by decide +kernel
theorem dX11_sunFor_69 : decode cX11_sunFor 69 = .ok (.invokevirtual 205, 3) := by decide +kernel
theorem dX11_sunFor_72 : decode cX11_sunFor 72 = .ok (.aload_n 0, 1) := by decide +kernel
theorem dX11_sunFor_73 : decode cX11_sunFor 73 = .ok (.getfield 39, 3) := by decide +kernel
theorem dX11_sunFor_76 : decode cX11_sunFor 76 = .ok (.getfield 110, 3) := by decide +kernel
theorem dX11_sunFor_79 : decode cX11_sunFor 79 = .ok (.aload_n 0, 1) := by decide +kernel
theorem dX11_sunFor_80 : decode cX11_sunFor 80 = .ok (.getfield 35, 3) := by decide +kernel
theorem dX11_sunFor_83 : decode cX11_sunFor 83 = .ok (.getfield 110, 3) := by decide +kernel
theorem dX11_sunFor_86 : decode cX11_sunFor 86 = .ok (.isub, 1) := by decide +kernel
theorem dX11_sunFor_87 : decode cX11_sunFor 87 = .ok (.iload_n 2, 1) := by decide +kernel
theorem dX11_sunFor_88 : decode cX11_sunFor 88 = .ok (.if_icmp .lt 6, 3) := by decide +kernel
theorem dX11_sunFor_91 : decode cX11_sunFor 91 = .ok (.iload 4, 2) := by decide +kernel
theorem dX11_sunFor_93 : decode cX11_sunFor 93 = .ok (.ireturn, 1) := by decide +kernel
theorem dX11_sunFor_94 : decode cX11_sunFor 94 = .ok (.iinc 4 1, 3) := by decide +kernel
theorem dX11_sunFor_97 : decode cX11_sunFor 97 = .ok (.goto (-59), 3) := by decide +kernel
theorem dX11_sunFor_100 : decode cX11_sunFor 100 = .ok (.aload_n 0, 1) := by decide +kernel
theorem dX11_sunFor_101 : decode cX11_sunFor 101 = .ok (.ldc 223, 2) := by decide +kernel
theorem dX11_sunFor_103 : decode cX11_sunFor 103 = .ok (.invokevirtual 82, 3) := by decide +kernel
theorem dX11_sunFor_106 : decode cX11_sunFor 106 = .ok (.ireturn, 1) := by decide +kernel
theorem dX11_sweepFor_0 : decode cX11_sweepFor 0 = .ok (.aload_n 0, 1) := by decide +kernel
theorem dX11_sweepFor_1 : decode cX11_sweepFor 1 = .ok (.iload_n 1, 1) := by decide +kernel
theorem dX11_sweepFor_2 : decode cX11_sweepFor 2 = .ok (.invokevirtual 124, 3) := by decide +kernel
theorem dX11_sweepFor_5 : decode cX11_sweepFor 5 = .ok (.ifCond .eq 13, 3) := by decide +kernel
theorem dX11_sweepFor_8 : decode cX11_sweepFor 8 = .ok (.iload_n 2, 1) := by decide +kernel
theorem dX11_sweepFor_9 : decode cX11_sweepFor 9 = .ok (.iconst 0, 1) := by decide +kernel
theorem dX11_sweepFor_10 : decode cX11_sweepFor 10 = .ok (.bipush 60, 2) := by decide +kernel
theorem dX11_sweepFor_12 : decode cX11_sweepFor 12 = .ok (.invokestatic 86, 3) := by decide +kernel
theorem dX11_sweepFor_15 : decode cX11_sweepFor 15 = .ok (.ifCond .ne 10, 3) := by decide +kernel
theorem dX11_sweepFor_18 : decode cX11_sweepFor 18 = .ok (.aload_n 0, 1) := by decide +kernel
theorem dX11_sweepFor_19 : decode cX11_sweepFor 19 = .ok (.ldc 81, 2) := by decide +kernel
theorem dX11_sweepFor_21 : decode cX11_sweepFor 21 = .ok (.invokevirtual 82, 3) := by decide +kernel
theorem dX11_sweepFor_24 : decode cX11_sweepFor 24 = .ok (.ireturn, 1) := by decide +kernel
theorem dX11_sweepFor_25 : decode cX11_sweepFor 25 = .ok (.iconst 1, 1) := by decide +kernel
theorem dX11_sweepFor_26 : decode cX11_sweepFor 26 = .ok (.istore_n 3, 1) := by decide +kernel
theorem dX11_sweepFor_27 : decode cX11_sweepFor 27 = .ok (.iconst (-1), 1) := by decide +kernel
theorem dX11_sweepFor_28 : decode cX11_sweepFor 28 = .ok (.istore 4, 2) := by decide +kernel
theorem dX11_sweepFor_30 : decode cX11_sweepFor 30 = .ok (.iconst 1, 1) := by decide +kernel
theorem dX11_sweepFor_31 : decode cX11_sweepFor 31 = .ok (.istore 5, 2) := by decide +kernel
theorem dX11_sweepFor_33 : decode cX11_sweepFor 33 = .ok (.iload 5, 2) := by decide +kernel
theorem dX11_sweepFor_35 : decode cX11_sweepFor 35 = .ok (.bipush 30, 2) := by decide +kernel
theorem dX11_sweepFor_37 : decode cX11_sweepFor 37 = .ok (.if_icmp .gt 62, 3) := by decide +kernel
theorem dX11_sweepFor_40 : decode cX11_sweepFor 40 = .ok (.aload_n 0, 1) := by decide +kernel
theorem dX11_sweepFor_41 : decode cX11_sweepFor 41 = .ok (.invokevirtual 217, 3) := by decide +kernel
theorem dX11_sweepFor_44 : decode cX11_sweepFor 44 = .ok (.aload_n 0, 1) := by decide +kernel
theorem dX11_sweepFor_45 : decode cX11_sweepFor 45 = .ok (.getfield 39, 3) := by decide +kernel
theorem dX11_sweepFor_48 : decode cX11_sweepFor 48 = .ok (.iload 5, 2) := by decide +kernel
theorem dX11_sweepFor_50 : decode cX11_sweepFor 50 = .ok (.putfield 106, 3) := by decide +kernel
theorem dX11_sweepFor_53 : decode cX11_sweepFor 53 = .ok (.aload_n 0, 1) := by decide +kernel
theorem dX11_sweepFor_54 : decode cX11_sweepFor 54 = .ok (.getfield 39, 3) := by decide +kernel
theorem dX11_sweepFor_57 : decode cX11_sweepFor 57 = .ok (.iload_n 2, 1) := by decide +kernel
theorem dX11_sweepFor_58 : decode cX11_sweepFor 58 = .ok (.aload_n 0, 1) := by decide +kernel
theorem dX11_sweepFor_59 : decode cX11_sweepFor 59 = .ok (.getfield 48, 3) := by decide +kernel
theorem dX11_sweepFor_62 : decode cX11_sweepFor 62 = .ok (.invokevirtual 205, 3) := by decide +kernel
theorem dX11_sweepFor_65 : decode cX11_sweepFor 65 = .ok (.aload_n 0, 1) := by decide +kernel
theorem dX11_sweepFor_66 : decode cX11_sweepFor 66 = .ok (.getfield 39, 3) := by decide +kernel
theorem dX11_sweepFor_69 : decode cX11_sweepFor 69 = .ok (.getfield 142, 3) := by decide +kernel
theorem dX11_sweepFor_72 : decode cX11_sweepFor 72 = .ok (.iload_n 1, 1) := by decide +kernel
theorem dX11_sweepFor_73 : decode cX11_sweepFor 73 = .ok (.iaload, 1) := by decide +kernel
theorem dX11_sweepFor_74 : decode cX11_sweepFor 74 = .ok (.iload 4, 2) := by decide +kernel
theorem dX11_sweepFor_76 : decode cX11_sweepFor 76 = .ok (.if_icmp .le 17, 3) := by decide +kernel
theorem dX11_sweepFor_79 : decode cX11_sweepFor 79 = .ok (.aload_n 0, 1) := by decide +kernel
theorem dX11_sweepFor_80 : decode cX11_sweepFor 80 = .ok (.getfield 39, 3) := by decide +kernel
theorem dX11_sweepFor_83 : decode cX11_sweepFor 83 = .ok (.getfield 142, 3) := by decide +kernel
theorem dX11_sweepFor_86 : decode cX11_sweepFor 86 = .ok (.iload_n 1, 1) := by decide +kernel
theorem dX11_sweepFor_87 : decode cX11_sweepFor 87 = .ok (.iaload, 1) := by decide +kernel
theorem dX11_sweepFor_88 : decode cX11_sweepFor 88 = .ok (.istore 4, 2) := by decide +kernel
theorem dX11_sweepFor_90 : decode cX11_sweepFor 90 = .ok (.iload 5, 2) := by decide +kernel
theorem dX11_sweepFor_92 : decode cX11_sweepFor 92 = .ok (.istore_n 3, 1) := by decide +kernel
theorem dX11_sweepFor_93 : decode cX11_sweepFor 93 = .ok (.iinc 5 1, 3) := by decide +kernel
theorem dX11_sweepFor_96 : decode cX11_sweepFor 96 = .ok (.goto (-63), 3) := by decide +kernel
theorem dX11_sweepFor_99 : decode cX11_sweepFor 99 = .ok (.iload_n 3, 1) := by decide +kernel
theorem dX11_sweepFor_100 : decode cX11_sweepFor 100 = .ok (.ireturn, 1) := by decide +kernel
theorem dX11_whence_0 : decode cX11_whence 0 = .ok (.iload_n 1, 1) := by decide +kernel
theorem dX11_whence_1 : decode cX11_whence 1 = .ok (.invokestatic 230, 3) := by decide +kernel
theorem dX11_whence_4 : decode cX11_whence 4 = .ok (.ifCond .eq 20, 3) := by decide +kernel
theorem dX11_whence_7 : decode cX11_whence 7 = .ok (.aload_n 0, 1) := by decide +kernel
theorem dX11_whence_8 : decode cX11_whence 8 = .ok (.iload_n 2, 1) := by decide +kernel
theorem dX11_whence_9 : decode cX11_whence 9 = .ok (.invokevirtual 124, 3) := by decide +kernel
theorem dX11_whence_12 : decode cX11_whence 12 = .ok (.ifCond .eq 12, 3) := by decide +kernel
theorem dX11_whence_15 : decode cX11_whence 15 = .ok (.iload_n 3, 1) := by decide +kernel
theorem dX11_whence_16 : decode cX11_whence 16 = .ok (.iconst 0, 1) := by decide +kernel
theorem dX11_whence_17 : decode cX11_whence 17 = .ok (.iconst 1, 1) := by decide +kernel
theorem dX11_whence_18 : decode cX11_whence 18 = .ok (.invokestatic 86, 3) := by decide +kernel
theorem dX11_whence_21 : decode cX11_whence 21 = .ok (.ifCond .ne 10, 3) := by decide +kernel
theorem dX11_whence_24 : decode cX11_whence 24 = .ok (.aload_n 0, 1) := by decide +kernel
theorem dX11_whence_25 : decode cX11_whence 25 = .ok (.ldc 81, 2) := by decide +kernel
theorem dX11_whence_27 : decode cX11_whence 27 = .ok (.invokevirtual 82, 3) := by decide +kernel
theorem dX11_whence_30 : decode cX11_whence 30 = .ok (.ireturn, 1) := by decide +kernel
theorem dX11_whence_31 : decode cX11_whence 31 = .ok (.aload_n 0, 1) := by decide +kernel
theorem dX11_whence_32 : decode cX11_whence 32 = .ok (.iload_n 1, 1) := by decide +kernel
theorem dX11_whence_33 : decode cX11_whence 33 = .ok (.invokevirtual 233, 3) := by decide +kernel
theorem dX11_whence_36 : decode cX11_whence 36 = .ok (.ifCond .eq 10, 3) := by decide +kernel
theorem dX11_whence_39 : decode cX11_whence 39 = .ok (.aload_n 0, 1) := by decide +kernel
theorem dX11_whence_40 : decode cX11_whence 40 = .ok (.ldc 223, 2) := by decide +kernel
theorem dX11_whence_42 : decode cX11_whence 42 = .ok (.invokevirtual 82, 3) := by decide +kernel
theorem dX11_whence_45 : decode cX11_whence 45 = .ok (.ireturn, 1) := by decide +kernel
theorem dX11_whence_46 : decode cX11_whence 46 = .ok (.iconst 0, 1) := by decide +kernel
theorem dX11_whence_47 : decode cX11_whence 47 = .ok (.istore 4, 2) := by decide +kernel
theorem dX11_whence_49 : decode cX11_whence 49 = .ok (.iconst (-1), 1) := by decide +kernel
theorem dX11_whence_50 : decode cX11_whence 50 = .ok (.istore 5, 2) := by decide +kernel
theorem dX11_whence_52 : decode cX11_whence 52 = .ok (.iconst 0, 1) := by decide +kernel
theorem dX11_whence_53 : decode cX11_whence 53 = .ok (.istore 6, 2) := by decide +kernel
theorem dX11_whence_55 : decode cX11_whence 55 = .ok (.iload 6, 2) := by decide +kernel
theorem dX11_whence_57 : decode cX11_whence 57 = .ok (.bipush 7, 2) := by decide +kernel
theorem dX11_whence_59 : decode cX11_whence 59 = .ok (.if_icmp .ge 93, 3) := by decide +kernel
theorem dX11_whence_62 : decode cX11_whence 62 = .ok (.iconst 0, 1) := by decide +kernel
theorem dX11_whence_63 : decode cX11_whence 63 = .ok (.istore 7, 2) := by decide +kernel
theorem dX11_whence_65 : decode cX11_whence 65 = .ok (.iload 7, 2) := by decide +kernel
theorem dX11_whence_67 : decode cX11_whence 67 = .ok (.bipush 16, 2) := by decide +kernel
theorem dX11_whence_69 : decode cX11_whence 69 = .ok (.if_icmp .ge 77, 3) := by decide +kernel
theorem dX11_whence_72 : decode cX11_whence 72 = .ok (.aload_n 0, 1) := by decide +kernel
theorem dX11_whence_73 : decode cX11_whence 73 = .ok (.invokevirtual 217, 3) := by decide +kernel
theorem dX11_whence_76 : decode cX11_whence 76 = .ok (.aload_n 0, 1) := by decide +kernel
theorem dX11_whence_77 : decode cX11_whence 77 = .ok (.getfield 39, 3) := by decide +kernel
theorem dX11_whence_80 : decode cX11_whence 80 = .ok (.getfield 127, 3) := by decide +kernel
theorem dX11_whence_83 : decode cX11_whence 83 = .ok (.iload_n 2, 1) := by decide +kernel
theorem dX11_whence_84 : decode cX11_whence 84 = .ok (.iload 6, 2) := by decide +kernel
theorem dX11_whence_86 : decode cX11_whence 86 = .ok (.iastore, 1) := by decide +kernel
theorem dX11_whence_87 : decode cX11_whence 87 = .ok (.aload_n 0, 1) := by decide +kernel
theorem dX11_whence_88 : decode cX11_whence 88 = .ok (.getfield 39, 3) := by decide +kernel
theorem dX11_whence_91 : decode cX11_whence 91 = .ok (.getfield 136, 3) := by decide +kernel
theorem dX11_whence_94 : decode cX11_whence 94 = .ok (.iload_n 2, 1) := by decide +kernel
theorem dX11_whence_95 : decode cX11_whence 95 = .ok (.iconst 0, 1) := by decide +kernel
theorem dX11_whence_96 : decode cX11_whence 96 = .ok (.iastore, 1) := by decide +kernel
theorem dX11_whence_97 : decode cX11_whence 97 = .ok (.aload_n 0, 1) := by decide +kernel
theorem dX11_whence_98 : decode cX11_whence 98 = .ok (.getfield 39, 3) := by decide +kernel
theorem dX11_whence_101 : decode cX11_whence 101 = .ok (.getfield 139, 3) := by decide +kernel
theorem dX11_whence_104 : decode cX11_whence 104 = .ok (.iload_n 2, 1) := by decide +kernel
theorem dX11_whence_105 : decode cX11_whence 105 = .ok (.iload 7, 2) := by decide +kernel
theorem dX11_whence_107 : decode cX11_whence 107 = .ok (.iastore, 1) := by decide +kernel
theorem dX11_whence_108 : decode cX11_whence 108 = .ok (.aload_n 0, 1) := by decide +kernel
theorem dX11_whence_109 : decode cX11_whence 109 = .ok (.iload_n 2, 1) := by decide +kernel
theorem dX11_whence_110 : decode cX11_whence 110 = .ok (.iload_n 1, 1) := by decide +kernel
theorem dX11_whence_111 : decode cX11_whence 111 = .ok (.invokevirtual 236, 3) := by decide +kernel
theorem dX11_whence_114 : decode cX11_whence 114 = .ok (.ifCond .eq 26, 3) := by decide +kernel
theorem dX11_whence_117 : decode cX11_whence 117 = .ok (.iinc 4 1, 3) := by decide +kernel
theorem dX11_whence_120 : decode cX11_whence 120 = .ok (.iload 5, 2) := by decide +kernel
theorem dX11_whence_122 : decode cX11_whence 122 = .ok (.ifCond .ge 14, 3) := by decide +kernel
theorem dX11_whence_125 : decode cX11_whence 125 = .ok (.bipush 100, 2) := by decide +kernel
theorem dX11_whence_127 : decode cX11_whence 127 = .ok (.iload 6, 2) := by decide +kernel
theorem dX11_whence_129 : decode cX11_whence 129 = .ok (.imul, 1) := by decide +kernel
theorem dX11_whence_130 : decode cX11_whence 130 = .ok (.iload 7, 2) := by decide +kernel
theorem dX11_whence_132 : decode cX11_whence 132 = .ok (.iadd, 1) := by decide +kernel
theorem dX11_whence_133 : decode cX11_whence 133 = .ok (.goto 5, 3) := by decide +kernel
theorem dX11_whence_136 : decode cX11_whence 136 = .ok (.iload 5, 2) := by decide +kernel
theorem dX11_whence_138 : decode cX11_whence 138 = .ok (.istore 5, 2) := by decide +kernel
theorem dX11_whence_140 : decode cX11_whence 140 = .ok (.iinc 7 1, 3) := by decide +kernel
theorem dX11_whence_143 : decode cX11_whence 143 = .ok (.goto (-78), 3) := by decide +kernel
theorem dX11_whence_146 : decode cX11_whence 146 = .ok (.iinc 6 1, 3) := by decide +kernel
theorem dX11_whence_149 : decode cX11_whence 149 = .ok (.goto (-94), 3) := by decide +kernel
theorem dX11_whence_152 : decode cX11_whence 152 = .ok (.iload_n 3, 1) := by decide +kernel
theorem dX11_whence_153 : decode cX11_whence 153 = .ok (.ifCond .ne 6, 3) := by decide +kernel
theorem dX11_whence_156 : decode cX11_whence 156 = .ok (.iload 4, 2) := by decide +kernel
theorem dX11_whence_158 : decode cX11_whence 158 = .ok (.ireturn, 1) := by decide +kernel
theorem dX11_whence_159 : decode cX11_whence 159 = .ok (.iload 5, 2) := by decide +kernel
theorem dX11_whence_161 : decode cX11_whence 161 = .ok (.ifCond .ge 12, 3) := by decide +kernel
theorem dX11_whence_164 : decode cX11_whence 164 = .ok (.aload_n 0, 1) := by decide +kernel
theorem dX11_whence_165 : decode cX11_whence 165 = .ok (.ldc 223, 2) := by decide +kernel
theorem dX11_whence_167 : decode cX11_whence 167 = .ok (.invokevirtual 82, 3) := by decide +kernel
theorem dX11_whence_170 : decode cX11_whence 170 = .ok (.goto 5, 3) := by decide +kernel
theorem dX11_whence_173 : decode cX11_whence 173 = .ok (.iload 5, 2) := by decide +kernel
theorem dX11_whence_175 : decode cX11_whence 175 = .ok (.ireturn, 1) := by decide +kernel
theorem dX11_bare_0 : decode cX11_bare 0 = .ok (.iload_n 1, 1) := by decide +kernel
theorem dX11_bare_1 : decode cX11_bare 1 = .ok (.iconst 0, 1) := by decide +kernel
theorem dX11_bare_2 : decode cX11_bare 2 = .ok (.bipush 60, 2) := by decide +kernel
theorem dX11_bare_4 : decode cX11_bare 4 = .ok (.invokestatic 86, 3) := by decide +kernel
theorem dX11_bare_7 : decode cX11_bare 7 = .ok (.ifCond .ne 10, 3) := by decide +kernel
theorem dX11_bare_10 : decode cX11_bare 10 = .ok (.aload_n 0, 1) := by decide +kernel
theorem dX11_bare_11 : decode cX11_bare 11 = .ok (.ldc 81, 2) := by decide +kernel
theorem dX11_bare_13 : decode cX11_bare 13 = .ok (.invokevirtual 82, 3) := by decide +kernel
theorem dX11_bare_16 : decode cX11_bare 16 = .ok (.ireturn, 1) := by decide +kernel
theorem dX11_bare_17 : decode cX11_bare 17 = .ok (.aload_n 0, 1) := by decide +kernel
theorem dX11_bare_18 : decode cX11_bare 18 = .ok (.invokevirtual 217, 3) := by decide +kernel
theorem dX11_bare_21 : decode cX11_bare 21 = .ok (.aload_n 0, 1) := by decide +kernel
theorem dX11_bare_22 : decode cX11_bare 22 = .ok (.getfield 39, 3) := by decide +kernel
theorem dX11_bare_25 : decode cX11_bare 25 = .ok (.iload_n 1, 1) := by decide +kernel
theorem dX11_bare_26 : decode cX11_bare 26 = .ok (.aload_n 0, 1) := by decide +kernel
theorem dX11_bare_27 : decode cX11_bare 27 = .ok (.getfield 48, 3) := by decide +kernel
theorem dX11_bare_30 : decode cX11_bare 30 = .ok (.invokevirtual 205, 3) := by decide +kernel
theorem dX11_bare_33 : decode cX11_bare 33 = .ok (.iconst 0, 1) := by decide +kernel
theorem dX11_bare_34 : decode cX11_bare 34 = .ok (.istore_n 2, 1) := by decide +kernel
theorem dX11_bare_35 : decode cX11_bare 35 = .ok (.iconst 0, 1) := by decide +kernel
theorem dX11_bare_36 : decode cX11_bare 36 = .ok (.istore_n 3, 1) := by decide +kernel
theorem dX11_bare_37 : decode cX11_bare 37 = .ok (.iload_n 3, 1) := by decide +kernel
theorem dX11_bare_38 : decode cX11_bare 38 = .ok (.bipush 16, 2) := by decide +kernel
theorem dX11_bare_40 : decode cX11_bare 40 = .ok (.if_icmp .ge 26, 3) := by decide +kernel
theorem dX11_bare_43 : decode cX11_bare 43 = .ok (.aload_n 0, 1) := by decide +kernel
theorem dX11_bare_44 : decode cX11_bare 44 = .ok (.getfield 39, 3) := by decide +kernel
theorem dX11_bare_47 : decode cX11_bare 47 = .ok (.iload_n 3, 1) := by decide +kernel
theorem dX11_bare_48 : decode cX11_bare 48 = .ok (.invokevirtual 96, 3) := by decide +kernel
theorem dX11_bare_51 : decode cX11_bare 51 = .ok (.ifCond .ne 9, 3) := by decide +kernel
theorem dX11_bare_54 : decode cX11_bare 54 = .ok (.iload_n 2, 1) := by decide +kernel
theorem dX11_bare_55 : decode cX11_bare 55 = .ok (.iconst 1, 1) := by decide +kernel
theorem dX11_bare_56 : decode cX11_bare 56 = .ok (.iload_n 3, 1) := by decide +kernel
theorem dX11_bare_57 : decode cX11_bare 57 = .ok (.ishl, 1) := by decide +kernel
theorem dX11_bare_58 : decode cX11_bare 58 = .ok (.ior, 1) := by decide +kernel
theorem dX11_bare_59 : decode cX11_bare 59 = .ok (.istore_n 2, 1) := by decide +kernel
theorem dX11_bare_60 : decode cX11_bare 60 = .ok (.iinc 3 1, 3) := by decide +kernel
theorem dX11_bare_63 : decode cX11_bare 63 = .ok (.goto (-26), 3) := by decide +kernel
theorem dX11_bare_66 : decode cX11_bare 66 = .ok (.iload_n 2, 1) := by decide +kernel
theorem dX11_bare_67 : decode cX11_bare 67 = .ok (.ireturn, 1) := by decide +kernel
theorem dX11_crowd_0 : decode cX11_crowd 0 = .ok (.iload_n 1, 1) := by decide +kernel
theorem dX11_crowd_1 : decode cX11_crowd 1 = .ok (.iconst 0, 1) := by decide +kernel
theorem dX11_crowd_2 : decode cX11_crowd 2 = .ok (.bipush 60, 2) := by decide +kernel
theorem dX11_crowd_4 : decode cX11_crowd 4 = .ok (.invokestatic 86, 3) := by decide +kernel
theorem dX11_crowd_7 : decode cX11_crowd 7 = .ok (.ifCond .eq 12, 3) := by decide +kernel
theorem dX11_crowd_10 : decode cX11_crowd 10 = .ok (.iload_n 2, 1) := by decide +kernel
theorem dX11_crowd_11 : decode cX11_crowd 11 = .ok (.iconst 0, 1) := by decide +kernel
theorem dX11_crowd_12 : decode cX11_crowd 12 = .ok (.iconst 1, 1) := by decide +kernel
theorem dX11_crowd_13 : decode cX11_crowd 13 = .ok (.invokestatic 86, 3) := by decide +kernel
theorem dX11_crowd_16 : decode cX11_crowd 16 = .ok (.ifCond .ne 10, 3) := by decide +kernel
theorem dX11_crowd_19 : decode cX11_crowd 19 = .ok (.aload_n 0, 1) := by decide +kernel
theorem dX11_crowd_20 : decode cX11_crowd 20 = .ok (.ldc 81, 2) := by decide +kernel
theorem dX11_crowd_22 : decode cX11_crowd 22 = .ok (.invokevirtual 82, 3) := by decide +kernel
theorem dX11_crowd_25 : decode cX11_crowd 25 = .ok (.ireturn, 1) := by decide +kernel
theorem dX11_crowd_26 : decode cX11_crowd 26 = .ok (.aload_n 0, 1) := by decide +kernel
theorem dX11_crowd_27 : decode cX11_crowd 27 = .ok (.invokevirtual 217, 3) := by decide +kernel
theorem dX11_crowd_30 : decode cX11_crowd 30 = .ok (.aload_n 0, 1) := by decide +kernel
theorem dX11_crowd_31 : decode cX11_crowd 31 = .ok (.getfield 39, 3) := by decide +kernel
theorem dX11_crowd_34 : decode cX11_crowd 34 = .ok (.iload_n 1, 1) := by decide +kernel
theorem dX11_crowd_35 : decode cX11_crowd 35 = .ok (.aload_n 0, 1) := by decide +kernel
theorem dX11_crowd_36 : decode cX11_crowd 36 = .ok (.getfield 48, 3) := by decide +kernel
theorem dX11_crowd_39 : decode cX11_crowd 39 = .ok (.invokevirtual 205, 3) := by decide +kernel
theorem dX11_crowd_42 : decode cX11_crowd 42 = .ok (.iconst 0, 1) := by decide +kernel
theorem dX11_crowd_43 : decode cX11_crowd 43 = .ok (.istore_n 3, 1) := by decide +kernel
theorem dX11_crowd_44 : decode cX11_crowd 44 = .ok (.iconst 0, 1) := by decide +kernel
theorem dX11_crowd_45 : decode cX11_crowd 45 = .ok (.istore 4, 2) := by decide +kernel
theorem dX11_crowd_47 : decode cX11_crowd 47 = .ok (.iconst 0, 1) := by decide +kernel
theorem dX11_crowd_48 : decode cX11_crowd 48 = .ok (.istore 5, 2) := by decide +kernel
theorem dX11_crowd_50 : decode cX11_crowd 50 = .ok (.iload 5, 2) := by decide +kernel
theorem dX11_crowd_52 : decode cX11_crowd 52 = .ok (.bipush 16, 2) := by decide +kernel
theorem dX11_crowd_54 : decode cX11_crowd 54 = .ok (.if_icmp .ge 37, 3) := by decide +kernel
theorem dX11_crowd_57 : decode cX11_crowd 57 = .ok (.aload_n 0, 1) := by decide +kernel
theorem dX11_crowd_58 : decode cX11_crowd 58 = .ok (.getfield 39, 3) := by decide +kernel
theorem dX11_crowd_61 : decode cX11_crowd 61 = .ok (.iload 5, 2) := by decide +kernel
theorem dX11_crowd_63 : decode cX11_crowd 63 = .ok (.invokevirtual 96, 3) := by decide +kernel
theorem dX11_crowd_66 : decode cX11_crowd 66 = .ok (.invokestatic 239, 3) := by decide +kernel
theorem dX11_crowd_69 : decode cX11_crowd 69 = .ok (.istore 6, 2) := by decide +kernel
theorem dX11_crowd_71 : decode cX11_crowd 71 = .ok (.iload 6, 2) := by decide +kernel
theorem dX11_crowd_73 : decode cX11_crowd 73 = .ok (.iload 4, 2) := by decide +kernel
theorem dX11_crowd_75 : decode cX11_crowd 75 = .ok (.if_icmp .le 10, 3) := by decide +kernel
theorem dX11_crowd_78 : decode cX11_crowd 78 = .ok (.iload 6, 2) := by decide +kernel
theorem dX11_crowd_80 : decode cX11_crowd 80 = .ok (.istore 4, 2) := by decide +kernel
theorem dX11_crowd_82 : decode cX11_crowd 82 = .ok (.iload 5, 2) := by decide +kernel
theorem dX11_crowd_84 : decode cX11_crowd 84 = .ok (.istore_n 3, 1) := by decide +kernel
theorem dX11_crowd_85 : decode cX11_crowd 85 = .ok (.iinc 5 1, 3) := by decide +kernel
theorem dX11_crowd_88 : decode cX11_crowd 88 = .ok (.goto (-38), 3) := by decide +kernel
theorem dX11_crowd_91 : decode cX11_crowd 91 = .ok (.iload_n 2, 1) := by decide +kernel
theorem dX11_crowd_92 : decode cX11_crowd 92 = .ok (.ifCond .ne 7, 3) := by decide +kernel
theorem dX11_crowd_95 : decode cX11_crowd 95 = .ok (.iload_n 3, 1) := by decide +kernel
theorem dX11_crowd_96 : decode cX11_crowd 96 = .ok (.goto 5, 3) := by decide +kernel
theorem dX11_crowd_99 : decode cX11_crowd 99 = .ok (.iload 4, 2) := by decide +kernel
theorem dX11_crowd_101 : decode cX11_crowd 101 = .ok (.ireturn, 1) := by decide +kernel
theorem dX11_light_0 : decode cX11_light 0 = .ok (.iload_n 1, 1) := by decide +kernel
theorem dX11_light_1 : decode cX11_light 1 = .ok (.iconst 0, 1) := by decide +kernel
theorem dX11_light_2 : decode cX11_light 2 = .ok (.bipush 60, 2) := by decide +kernel
theorem dX11_light_4 : decode cX11_light 4 = .ok (.invokestatic 86, 3) := by decide +kernel
theorem dX11_light_7 : decode cX11_light 7 = .ok (.ifCond .ne 10, 3) := by decide +kernel
theorem dX11_light_10 : decode cX11_light 10 = .ok (.aload_n 0, 1) := by decide +kernel
theorem dX11_light_11 : decode cX11_light 11 = .ok (.ldc 81, 2) := by decide +kernel
theorem dX11_light_13 : decode cX11_light 13 = .ok (.invokevirtual 82, 3) := by decide +kernel
theorem dX11_light_16 : decode cX11_light 16 = .ok (.ireturn, 1) := by decide +kernel
theorem dX11_light_17 : decode cX11_light 17 = .ok (.aload_n 0, 1) := by decide +kernel
theorem dX11_light_18 : decode cX11_light 18 = .ok (.invokevirtual 217, 3) := by decide +kernel
theorem dX11_light_21 : decode cX11_light 21 = .ok (.aload_n 0, 1) := by decide +kernel
theorem dX11_light_22 : decode cX11_light 22 = .ok (.getfield 39, 3) := by decide +kernel
theorem dX11_light_25 : decode cX11_light 25 = .ok (.iload_n 1, 1) := by decide +kernel
theorem dX11_light_26 : decode cX11_light 26 = .ok (.aload_n 0, 1) := by decide +kernel
theorem dX11_light_27 : decode cX11_light 27 = .ok (.getfield 48, 3) := by decide +kernel
theorem dX11_light_30 : decode cX11_light 30 = .ok (.invokevirtual 205, 3) := by decide +kernel
theorem dX11_light_33 : decode cX11_light 33 = .ok (.aload_n 0, 1) := by decide +kernel
theorem dX11_light_34 : decode cX11_light 34 = .ok (.getfield 39, 3) := by decide +kernel
theorem dX11_light_37 : decode cX11_light 37 = .ok (.getfield 110, 3) := by decide +kernel
theorem dX11_light_40 : decode cX11_light 40 = .ok (.aload_n 0, 1) := by decide +kernel
theorem dX11_light_41 : decode cX11_light 41 = .ok (.getfield 35, 3) := by decide +kernel
theorem dX11_light_44 : decode cX11_light 44 = .ok (.getfield 110, 3) := by decide +kernel
theorem dX11_light_47 : decode cX11_light 47 = .ok (.isub, 1) := by decide +kernel
theorem dX11_light_48 : decode cX11_light 48 = .ok (.ireturn, 1) := by decide +kernel
theorem dX11_late_0 : decode cX11_late 0 = .ok (.aload_n 0, 1) := by decide +kernel
theorem dX11_late_1 : decode cX11_late 1 = .ok (.iload_n 1, 1) := by decide +kernel
theorem dX11_late_2 : decode cX11_late 2 = .ok (.invokevirtual 224, 3) := by decide +kernel
theorem dX11_late_5 : decode cX11_late 5 = .ok (.ifCond .ne 10, 3) := by decide +kernel
theorem dX11_late_8 : decode cX11_late 8 = .ok (.aload_n 0, 1) := by decide +kernel
theorem dX11_late_9 : decode cX11_late 9 = .ok (.ldc 81, 2) := by decide +kernel
theorem dX11_late_11 : decode cX11_late 11 = .ok (.invokevirtual 82, 3) := by decide +kernel
theorem dX11_late_14 : decode cX11_late 14 = .ok (.ireturn, 1) := by decide +kernel
theorem dX11_late_15 : decode cX11_late 15 = .ok (.aload_n 0, 1) := by decide +kernel
theorem dX11_late_16 : decode cX11_late 16 = .ok (.invokevirtual 217, 3) := by decide +kernel
theorem dX11_late_19 : decode cX11_late 19 = .ok (.iconst 0, 1) := by decide +kernel
theorem dX11_late_20 : decode cX11_late 20 = .ok (.istore_n 2, 1) := by decide +kernel
theorem dX11_late_21 : decode cX11_late 21 = .ok (.iload_n 2, 1) := by decide +kernel
theorem dX11_late_22 : decode cX11_late 22 = .ok (.bipush 60, 2) := by decide +kernel
theorem dX11_late_24 : decode cX11_late 24 = .ok (.if_icmp .gt 36, 3) := by decide +kernel
theorem dX11_late_27 : decode cX11_late 27 = .ok (.iload_n 1, 1) := by decide +kernel
theorem dX11_late_28 : decode cX11_late 28 = .ok (.aload_n 0, 1) := by decide +kernel
theorem dX11_late_29 : decode cX11_late 29 = .ok (.getfield 39, 3) := by decide +kernel
theorem dX11_late_32 : decode cX11_late 32 = .ok (.invokevirtual 244, 3) := by decide +kernel
theorem dX11_late_35 : decode cX11_late 35 = .ok (.iconst (-1), 1) := by decide +kernel
theorem dX11_late_36 : decode cX11_late 36 = .ok (.ixor, 1) := by decide +kernel
theorem dX11_late_37 : decode cX11_late 37 = .ok (.iand, 1) := by decide +kernel
theorem dX11_late_38 : decode cX11_late 38 = .ok (.ifCond .ne 5, 3) := by decide +kernel
theorem dX11_late_41 : decode cX11_late 41 = .ok (.iload_n 2, 1) := by decide +kernel
theorem dX11_late_42 : decode cX11_late 42 = .ok (.ireturn, 1) := by decide +kernel
theorem dX11_late_43 : decode cX11_late 43 = .ok (.aload_n 0, 1) := by decide +kernel
theorem dX11_late_44 : decode cX11_late 44 = .ok (.getfield 39, 3) := by decide +kernel
theorem dX11_late_47 : decode cX11_late 47 = .ok (.aload_n 0, 1) := by decide +kernel
theorem dX11_late_48 : decode cX11_late 48 = .ok (.getfield 48, 3) := by decide +kernel
theorem dX11_late_51 : decode cX11_late 51 = .ok (.invokevirtual 213, 3) := by decide +kernel
theorem dX11_late_54 : decode cX11_late 54 = .ok (.iinc 2 1, 3) := by decide +kernel
theorem dX11_late_57 : decode cX11_late 57 = .ok (.goto (-36), 3) := by decide +kernel
theorem dX11_late_60 : decode cX11_late 60 = .ok (.aload_n 0, 1) := by decide +kernel
theorem dX11_late_61 : decode cX11_late 61 = .ok (.ldc 223, 2) := by decide +kernel
theorem dX11_late_63 : decode cX11_late 63 = .ok (.invokevirtual 82, 3) := by decide +kernel
theorem dX11_late_66 : decode cX11_late 66 = .ok (.ireturn, 1) := by decide +kernel
theorem dX11_odds_0 : decode cX11_odds 0 = .ok (.aload_n 0, 1) := by decide +kernel
theorem dX11_odds_1 : decode cX11_odds 1 = .ok (.iload_n 1, 1) := by decide +kernel
theorem dX11_odds_2 : decode cX11_odds 2 = .ok (.invokevirtual 124, 3) := by decide +kernel
theorem dX11_odds_5 : decode cX11_odds 5 = .ok (.ifCond .eq 22, 3) := by decide +kernel
theorem dX11_odds_8 : decode cX11_odds 8 = .ok (.iload_n 2, 1) := by decide +kernel
theorem dX11_odds_9 : decode cX11_odds 9 = .ok (.iconst 0, 1) := by decide +kernel
theorem dX11_odds_10 : decode cX11_odds 10 = .ok (.bipush 60, 2) := by decide +kernel
theorem dX11_odds_12 : decode cX11_odds 12 = .ok (.invokestatic 86, 3) := by decide +kernel
theorem dX11_odds_15 : decode cX11_odds 15 = .ok (.ifCond .eq 12, 3) := by decide +kernel
theorem dX11_odds_18 : decode cX11_odds 18 = .ok (.iload_n 3, 1) := by decide +kernel
theorem dX11_odds_19 : decode cX11_odds 19 = .ok (.iconst 0, 1) := by decide +kernel
theorem dX11_odds_20 : decode cX11_odds 20 = .ok (.iconst 1, 1) := by decide +kernel
theorem dX11_odds_21 : decode cX11_odds 21 = .ok (.invokestatic 86, 3) := by decide +kernel
theorem dX11_odds_24 : decode cX11_odds 24 = .ok (.ifCond .ne 10, 3) := by decide +kernel
theorem dX11_odds_27 : decode cX11_odds 27 = .ok (.aload_n 0, 1) := by decide +kernel
theorem dX11_odds_28 : decode cX11_odds 28 = .ok (.ldc 81, 2) := by decide +kernel
theorem dX11_odds_30 : decode cX11_odds 30 = .ok (.invokevirtual 82, 3) := by decide +kernel
theorem dX11_odds_33 : decode cX11_odds 33 = .ok (.ireturn, 1) := by decide +kernel
theorem dX11_odds_34 : decode cX11_odds 34 = .ok (.bipush 10, 2) := by decide +kernel
theorem dX11_odds_36 : decode cX11_odds 36 = .ok (.istore 4, 2) := by decide +kernel
theorem dX11_odds_38 : decode cX11_odds 38 = .ok (.iconst 0, 1) := by decide +kernel
theorem dX11_odds_39 : decode cX11_odds 39 = .ok (.istore 5, 2) := by decide +kernel
theorem dX11_odds_41 : decode cX11_odds 41 = .ok (.iconst 0, 1) := by decide +kernel
theorem dX11_odds_42 : decode cX11_odds 42 = .ok (.istore 6, 2) := by decide +kernel
theorem dX11_odds_44 : decode cX11_odds 44 = .ok (.iload 6, 2) := by decide +kernel
theorem dX11_odds_46 : decode cX11_odds 46 = .ok (.iload 4, 2) := by decide +kernel
theorem dX11_odds_48 : decode cX11_odds 48 = .ok (.if_icmp .ge 48, 3) := by decide +kernel
theorem dX11_odds_51 : decode cX11_odds 51 = .ok (.aload_n 0, 1) := by decide +kernel
theorem dX11_odds_52 : decode cX11_odds 52 = .ok (.invokevirtual 217, 3) := by decide +kernel
theorem dX11_odds_55 : decode cX11_odds 55 = .ok (.aload_n 0, 1) := by decide +kernel
theorem dX11_odds_56 : decode cX11_odds 56 = .ok (.getfield 39, 3) := by decide +kernel
theorem dX11_odds_59 : decode cX11_odds 59 = .ok (.iload 6, 2) := by decide +kernel
theorem dX11_odds_61 : decode cX11_odds 61 = .ok (.putfield 102, 3) := by decide +kernel
theorem dX11_odds_64 : decode cX11_odds 64 = .ok (.aload_n 0, 1) := by decide +kernel
theorem dX11_odds_65 : decode cX11_odds 65 = .ok (.getfield 39, 3) := by decide +kernel
theorem dX11_odds_68 : decode cX11_odds 68 = .ok (.iload_n 2, 1) := by decide +kernel
theorem dX11_odds_69 : decode cX11_odds 69 = .ok (.aload_n 0, 1) := by decide +kernel
theorem dX11_odds_70 : decode cX11_odds 70 = .ok (.getfield 48, 3) := by decide +kernel
theorem dX11_odds_73 : decode cX11_odds 73 = .ok (.invokevirtual 205, 3) := by decide +kernel
theorem dX11_odds_76 : decode cX11_odds 76 = .ok (.aload_n 0, 1) := by decide +kernel
theorem dX11_odds_77 : decode cX11_odds 77 = .ok (.getfield 39, 3) := by decide +kernel
theorem dX11_odds_80 : decode cX11_odds 80 = .ok (.iload_n 1, 1) := by decide +kernel
theorem dX11_odds_81 : decode cX11_odds 81 = .ok (.invokevirtual 158, 3) := by decide +kernel
theorem dX11_odds_84 : decode cX11_odds 84 = .ok (.ifCond .eq 6, 3) := by decide +kernel
theorem dX11_odds_87 : decode cX11_odds 87 = .ok (.iinc 5 1, 3) := by decide +kernel
theorem dX11_odds_90 : decode cX11_odds 90 = .ok (.iinc 6 1, 3) := by decide +kernel
theorem dX11_odds_93 : decode cX11_odds 93 = .ok (.goto (-49), 3) := by decide +kernel
theorem dX11_odds_96 : decode cX11_odds 96 = .ok (.iload 5, 2) := by decide +kernel
theorem dX11_odds_98 : decode cX11_odds 98 = .ok (.iload 4, 2) := by decide +kernel
theorem dX11_odds_100 : decode cX11_odds 100 = .ok (.invokestatic 247, 3) := by decide +kernel
theorem dX11_odds_103 : decode cX11_odds 103 = .ok (.istore 6, 2) := by decide +kernel
theorem dX11_odds_105 : decode cX11_odds 105 = .ok (.iload_n 3, 1) := by decide +kernel
theorem dX11_odds_106 : decode cX11_odds 106 = .ok (.ifCond .ne 8, 3) := by decide +kernel
theorem dX11_odds_109 : decode cX11_odds 109 = .ok (.iload 5, 2) := by decide +kernel
theorem dX11_odds_111 : decode cX11_odds 111 = .ok (.goto 5, 3) := by decide +kernel
theorem dX11_odds_114 : decode cX11_odds 114 = .ok (.iload 4, 2) := by decide +kernel
theorem dX11_odds_116 : decode cX11_odds 116 = .ok (.iload 6, 2) := by decide +kernel
theorem dX11_odds_118 : decode cX11_odds 118 = .ok (.idiv, 1) := by decide +kernel
theorem dX11_odds_119 : decode cX11_odds 119 = .ok (.ireturn, 1) := by decide +kernel
theorem dX11_seed_0 : decode cX11_seed 0 = .ok (.aload_n 0, 1) := by decide +kernel
theorem dX11_seed_1 : decode cX11_seed 1 = .ok (.getfield 48, 3) := by decide +kernel
theorem dX11_seed_4 : decode cX11_seed 4 = .ok (.getfield 250, 3) := by decide +kernel
theorem dX11_seed_7 : decode cX11_seed 7 = .ok (.istore_n 2, 1) := by decide +kernel
theorem dX11_seed_8 : decode cX11_seed 8 = .ok (.aload_n 0, 1) := by decide +kernel
theorem dX11_seed_9 : decode cX11_seed 9 = .ok (.getfield 48, 3) := by decide +kernel
theorem dX11_seed_12 : decode cX11_seed 12 = .ok (.iload_n 1, 1) := by decide +kernel
theorem dX11_seed_13 : decode cX11_seed 13 = .ok (.putfield 250, 3) := by decide +kernel
theorem dX11_seed_16 : decode cX11_seed 16 = .ok (.iload_n 2, 1) := by decide +kernel
theorem dX11_seed_17 : decode cX11_seed 17 = .ok (.ireturn, 1) := by decide +kernel
theorem dX11_voice_0 : decode cX11_voice 0 = .ok (.aload_n 0, 1) := by decide +kernel
theorem dX11_voice_1 : decode cX11_voice 1 = .ok (.iload_n 1, 1) := by decide +kernel
theorem dX11_voice_2 : decode cX11_voice 2 = .ok (.invokevirtual 124, 3) := by decide +kernel
theorem dX11_voice_5 : decode cX11_voice 5 = .ok (.ifCond .eq 12, 3) := by decide +kernel
theorem dX11_voice_8 : decode cX11_voice 8 = .ok (.iload_n 2, 1) := by decide +kernel
theorem dX11_voice_9 : decode cX11_voice 9 = .ok (.iconst 0, 1) := by decide +kernel
theorem dX11_voice_10 : decode cX11_voice 10 = .ok (.iconst 3, 1) := by decide +kernel
theorem dX11_voice_11 : decode cX11_voice 11 = .ok (.invokestatic 86, 3) := by decide +kernel
theorem dX11_voice_14 : decode cX11_voice 14 = .ok (.ifCond .ne 10, 3) := by decide +kernel
theorem dX11_voice_17 : decode cX11_voice 17 = .ok (.aload_n 0, 1) := by decide +kernel
theorem dX11_voice_18 : decode cX11_voice 18 = .ok (.ldc 81, 2) := by decide +kernel
theorem dX11_voice_20 : decode cX11_voice 20 = .ok (.invokevirtual 82, 3) := by decide +kernel
theorem dX11_voice_23 : decode cX11_voice 23 = .ok (.ireturn, 1) := by decide +kernel
theorem dX11_voice_24 : decode cX11_voice 24 = .ok (.aload_n 0, 1) := by decide +kernel
theorem dX11_voice_25 : decode cX11_voice 25 = .ok (.getfield 35, 3) := by decide +kernel
theorem dX11_voice_28 : decode cX11_voice 28 = .ok (.iload_n 1, 1) := by decide +kernel
theorem dX11_voice_29 : decode cX11_voice 29 = .ok (.invokevirtual 253, 3) := by decide +kernel
theorem dX11_voice_32 : decode cX11_voice 32 = .ok (.astore 4, 2) := by decide +kernel
theorem dX11_voice_34 : decode cX11_voice 34 = .ok (.aload_n 0, 1) := by decide +kernel
theorem dX11_voice_35 : decode cX11_voice 35 = .ok (.getfield 58, 3) := by decide +kernel
theorem dX11_voice_38 : decode cX11_voice 38 = .ok (.iload_n 1, 1) := by decide +kernel
theorem dX11_voice_39 : decode cX11_voice 39 = .ok (.aload_n 0, 1) := by decide +kernel
theorem dX11_voice_40 : decode cX11_voice 40 = .ok (.getfield 35, 3) := by decide +kernel
theorem dX11_voice_43 : decode cX11_voice 43 = .ok (.getfield 130, 3) := by decide +kernel
theorem dX11_voice_46 : decode cX11_voice 46 = .ok (.iload_n 1, 1) := by decide +kernel
theorem dX11_voice_47 : decode cX11_voice 47 = .ok (.iaload, 1) := by decide +kernel
theorem dX11_voice_48 : decode cX11_voice 48 = .ok (.invokevirtual 257, 3) := by decide +kernel
theorem dX11_voice_51 : decode cX11_voice 51 = .ok (.iload_n 2, 1) := by decide +kernel
theorem dX11_voice_52 : decode cX11_voice 52 = .ok (.tableswitch 61 0 2 #[28, 39, 50], 28) := by decide +kernel
theorem dX11_voice_80 : decode cX11_voice 80 = .ok (.aload 4, 2) := by decide +kernel
theorem dX11_voice_82 : decode cX11_voice 82 = .ok (.aload_n 0, 1) := by decide +kernel
theorem dX11_voice_83 : decode cX11_voice 83 = .ok (.getfield 58, 3) := by decide +kernel
theorem dX11_voice_86 : decode cX11_voice 86 = .ok (.iload_n 3, 1) := by decide +kernel
theorem dX11_voice_87 : decode cX11_voice 87 = .ok (.invokevirtual 260, 3) := by decide +kernel
theorem dX11_voice_90 : decode cX11_voice 90 = .ok (.ireturn, 1) := by decide +kernel
theorem dX11_voice_91 : decode cX11_voice 91 = .ok (.aload 4, 2) := by decide +kernel
theorem dX11_voice_93 : decode cX11_voice 93 = .ok (.aload_n 0, 1) := by decide +kernel
theorem dX11_voice_94 : decode cX11_voice 94 = .ok (.getfield 58, 3) := by decide +kernel
theorem dX11_voice_97 : decode cX11_voice 97 = .ok (.iload_n 3, 1) := by decide +kernel
theorem dX11_voice_98 : decode cX11_voice 98 = .ok (.invokevirtual 264, 3) := by decide +kernel
theorem dX11_voice_101 : decode cX11_voice 101 = .ok (.ireturn, 1) := by decide +kernel
theorem dX11_voice_102 : decode cX11_voice 102 = .ok (.aload 4, 2) := by decide +kernel
theorem dX11_voice_104 : decode cX11_voice 104 = .ok (.aload_n 0, 1) := by decide +kernel
theorem dX11_voice_105 : decode cX11_voice 105 = .ok (.getfield 58, 3) := by decide +kernel
theorem dX11_voice_108 : decode cX11_voice 108 = .ok (.iload_n 3, 1) := by decide +kernel
theorem dX11_voice_109 : decode cX11_voice 109 = .ok (.invokevirtual 267, 3) := by decide +kernel
theorem dX11_voice_112 : decode cX11_voice 112 = .ok (.ireturn, 1) := by decide +kernel
theorem dX11_voice_113 : decode cX11_voice 113 = .ok (.aload 4, 2) := by decide +kernel
theorem dX11_voice_115 : decode cX11_voice 115 = .ok (.aload_n 0, 1) := by decide +kernel
theorem dX11_voice_116 : decode cX11_voice 116 = .ok (.getfield 58, 3) := by decide +kernel
theorem dX11_voice_119 : decode cX11_voice 119 = .ok (.iload_n 3, 1) := by decide +kernel
theorem dX11_voice_120 : decode cX11_voice 120 = .ok (.invokevirtual 270, 3) := by decide +kernel
theorem dX11_voice_123 : decode cX11_voice 123 = .ok (.ireturn, 1) := by decide +kernel
theorem dX11_trace_0 : decode cX11_trace 0 = .ok (.iload_n 1, 1) := by decide +kernel
theorem dX11_trace_1 : decode cX11_trace 1 = .ok (.ifCond .lt 26, 3) := by decide +kernel
theorem dX11_trace_4 : decode cX11_trace 4 = .ok (.iload_n 1, 1) := by decide +kernel
theorem dX11_trace_5 : decode cX11_trace 5 = .ok (.aload_n 0, 1) := by decide +kernel
theorem dX11_trace_6 : decode cX11_trace 6 = .ok (.getfield 58, 3) := by decide +kernel
theorem dX11_trace_9 : decode cX11_trace 9 = .ok (.getfield 273, 3) := by decide +kernel
theorem dX11_trace_12 : decode cX11_trace 12 = .ok (.if_icmp .ge 15, 3) := by decide +kernel
theorem dX11_trace_15 : decode cX11_trace 15 = .ok (.aload_n 0, 1) := by decide +kernel
theorem dX11_trace_16 : decode cX11_trace 16 = .ok (.getfield 58, 3) := by decide +kernel
theorem dX11_trace_19 : decode cX11_trace 19 = .ok (.getfield 276, 3) := by decide +kernel
theorem dX11_trace_22 : decode cX11_trace 22 = .ok (.iload_n 1, 1) := by decide +kernel
theorem dX11_trace_23 : decode cX11_trace 23 = .ok (.iaload, 1) := by decide +kernel
theorem dX11_trace_24 : decode cX11_trace 24 = .ok (.goto 9, 3) := by decide +kernel
theorem dX11_trace_27 : decode cX11_trace 27 = .ok (.aload_n 0, 1) := by decide +kernel
theorem dX11_trace_28 : decode cX11_trace 28 = .ok (.ldc 223, 2) := by decide +kernel
theorem dX11_trace_30 : decode cX11_trace 30 = .ok (.invokevirtual 82, 3) := by decide +kernel
theorem dX11_trace_33 : decode cX11_trace 33 = .ok (.ireturn, 1) := by decide +kernel
theorem dX11_sheet_0 : decode cX11_sheet 0 = .ok (.iload_n 1, 1) := by decide +kernel
theorem dX11_sheet_1 : decode cX11_sheet 1 = .ok (.invokestatic 230, 3) := by decide +kernel
theorem dX11_sheet_4 : decode cX11_sheet 4 = .ok (.ifCond .eq 25, 3) := by decide +kernel
theorem dX11_sheet_7 : decode cX11_sheet 7 = .ok (.iload_n 2, 1) := by decide +kernel
theorem dX11_sheet_8 : decode cX11_sheet 8 = .ok (.ifCond .eq 28, 3) := by decide +kernel
theorem dX11_sheet_11 : decode cX11_sheet 11 = .ok (.iload_n 2, 1) := by decide +kernel
theorem dX11_sheet_12 : decode cX11_sheet 12 = .ok (.bipush 8, 2) := by decide +kernel
theorem dX11_sheet_14 : decode cX11_sheet 14 = .ok (.if_icmp .eq 22, 3) := by decide +kernel
theorem dX11_sheet_17 : decode cX11_sheet 17 = .ok (.iload_n 2, 1) := by decide +kernel
theorem dX11_sheet_18 : decode cX11_sheet 18 = .ok (.bipush 16, 2) := by decide +kernel
theorem dX11_sheet_20 : decode cX11_sheet 20 = .ok (.if_icmp .eq 16, 3) := by decide +kernel
theorem dX11_sheet_23 : decode cX11_sheet 23 = .ok (.iload_n 2, 1) := by decide +kernel
theorem dX11_sheet_24 : decode cX11_sheet 24 = .ok (.bipush 32, 2) := by decide +kernel
theorem dX11_sheet_26 : decode cX11_sheet 26 = .ok (.if_icmp .eq 10, 3) := by decide +kernel
theorem dX11_sheet_29 : decode cX11_sheet 29 = .ok (.aload_n 0, 1) := by decide +kernel
theorem dX11_sheet_30 : decode cX11_sheet 30 = .ok (.ldc 81, 2) := by decide +kernel
theorem dX11_sheet_32 : decode cX11_sheet 32 = .ok (.invokevirtual 82, 3) := by decide +kernel
theorem dX11_sheet_35 : decode cX11_sheet 35 = .ok (.ireturn, 1) := by decide +kernel
theorem dX11_sheet_36 : decode cX11_sheet 36 = .ok (.iload_n 2, 1) := by decide +kernel
theorem dX11_sheet_37 : decode cX11_sheet 37 = .ok (.ifCond .eq 14, 3) := by decide +kernel
theorem dX11_sheet_40 : decode cX11_sheet 40 = .ok (.iload_n 3, 1) := by decide +kernel
theorem dX11_sheet_41 : decode cX11_sheet 41 = .ok (.ifCond .ge 10, 3) := by decide +kernel
theorem dX11_sheet_44 : decode cX11_sheet 44 = .ok (.aload_n 0, 1) := by decide +kernel
theorem dX11_sheet_45 : decode cX11_sheet 45 = .ok (.ldc 169, 2) := by decide +kernel
theorem dX11_sheet_47 : decode cX11_sheet 47 = .ok (.invokevirtual 82, 3) := by decide +kernel
theorem dX11_sheet_50 : decode cX11_sheet 50 = .ok (.ireturn, 1) := by decide +kernel
theorem dX11_sheet_51 : decode cX11_sheet 51 = .ok (.iload_n 2, 1) := by decide +kernel
theorem dX11_sheet_52 : decode cX11_sheet 52 = .ok (.ifCond .eq 16, 3) := by decide +kernel
theorem dX11_sheet_55 : decode cX11_sheet 55 = .ok (.iload_n 3, 1) := by decide +kernel
theorem dX11_sheet_56 : decode cX11_sheet 56 = .ok (.bipush 40, 2) := by decide +kernel
theorem dX11_sheet_58 : decode cX11_sheet 58 = .ok (.if_icmp .le 10, 3) := by decide +kernel
theorem dX11_sheet_61 : decode cX11_sheet 61 = .ok (.aload_n 0, 1) := by decide +kernel
theorem dX11_sheet_62 : decode cX11_sheet 62 = .ok (.ldc 81, 2) := by decide +kernel
theorem dX11_sheet_64 : decode cX11_sheet 64 = .ok (.invokevirtual 82, 3) := by decide +kernel
theorem dX11_sheet_67 : decode cX11_sheet 67 = .ok (.ireturn, 1) := by decide +kernel
theorem dX11_sheet_68 : decode cX11_sheet 68 = .ok (.aload_n 0, 1) := by decide +kernel
theorem dX11_sheet_69 : decode cX11_sheet 69 = .ok (.getfield 64, 3) := by decide +kernel
theorem dX11_sheet_72 : decode cX11_sheet 72 = .ok (.iload_n 1, 1) := by decide +kernel
theorem dX11_sheet_73 : decode cX11_sheet 73 = .ok (.aaload, 1) := by decide +kernel
theorem dX11_sheet_74 : decode cX11_sheet 74 = .ok (.iconst 0, 1) := by decide +kernel
theorem dX11_sheet_75 : decode cX11_sheet 75 = .ok (.invokestatic 279, 3) := by decide +kernel
theorem dX11_sheet_78 : decode cX11_sheet 78 = .ok (.aload_n 0, 1) := by decide +kernel
theorem dX11_sheet_79 : decode cX11_sheet 79 = .ok (.getfield 67, 3) := by decide +kernel
theorem dX11_sheet_82 : decode cX11_sheet 82 = .ok (.iload_n 1, 1) := by decide +kernel
theorem dX11_sheet_83 : decode cX11_sheet 83 = .ok (.iload_n 2, 1) := by decide +kernel
theorem dX11_sheet_84 : decode cX11_sheet 84 = .ok (.iastore, 1) := by decide +kernel
theorem dX11_sheet_85 : decode cX11_sheet 85 = .ok (.aload_n 0, 1) := by decide +kernel
theorem dX11_sheet_86 : decode cX11_sheet 86 = .ok (.getfield 71, 3) := by decide +kernel
theorem dX11_sheet_89 : decode cX11_sheet 89 = .ok (.iload_n 1, 1) := by decide +kernel
theorem dX11_sheet_90 : decode cX11_sheet 90 = .ok (.iload_n 2, 1) := by decide +kernel
theorem dX11_sheet_91 : decode cX11_sheet 91 = .ok (.ifCond .ne 7, 3) := by decide +kernel
theorem dX11_sheet_94 : decode cX11_sheet 94 = .ok (.iconst 0, 1) := by decide +kernel
theorem dX11_sheet_95 : decode cX11_sheet 95 = .ok (.goto 4, 3) := by decide +kernel
theorem dX11_sheet_98 : decode cX11_sheet 98 = .ok (.iload_n 3, 1) := by decide +kernel
theorem dX11_sheet_99 : decode cX11_sheet 99 = .ok (.iastore, 1) := by decide +kernel
theorem dX11_sheet_100 : decode cX11_sheet 100 = .ok (.iconst 1, 1) := by decide +kernel
theorem dX11_sheet_101 : decode cX11_sheet 101 = .ok (.ireturn, 1) := by decide +kernel
theorem dX11_put_0 : decode cX11_put 0 = .ok (.iload_n 1, 1) := by decide +kernel
theorem dX11_put_1 : decode cX11_put 1 = .ok (.invokestatic 230, 3) := by decide +kernel
theorem dX11_put_4 : decode cX11_put 4 = .ok (.ifCond .ne 10, 3) := by decide +kernel
theorem dX11_put_7 : decode cX11_put 7 = .ok (.aload_n 0, 1) := by decide +kernel
theorem dX11_put_8 : decode cX11_put 8 = .ok (.ldc 81, 2) := by decide +kernel
theorem dX11_put_10 : decode cX11_put 10 = .ok (.invokevirtual 82, 3) := by decide +kernel
theorem dX11_put_13 : decode cX11_put 13 = .ok (.ireturn, 1) := by decide +kernel
theorem dX11_put_14 : decode cX11_put 14 = .ok (.aload_n 0, 1) := by decide +kernel
theorem dX11_put_15 : decode cX11_put 15 = .ok (.iload_n 1, 1) := by decide +kernel
theorem dX11_put_16 : decode cX11_put 16 = .ok (.invokevirtual 233, 3) := by decide +kernel
theorem dX11_put_19 : decode cX11_put 19 = .ok (.ifCond .eq 10, 3) := by decide +kernel
theorem dX11_put_22 : decode cX11_put 22 = .ok (.aload_n 0, 1) := by decide +kernel
theorem dX11_put_23 : decode cX11_put 23 = .ok (.ldc 223, 2) := by decide +kernel
theorem dX11_put_25 : decode cX11_put 25 = .ok (.invokevirtual 82, 3) := by decide +kernel
theorem dX11_put_28 : decode cX11_put 28 = .ok (.ireturn, 1) := by decide +kernel
theorem dX11_put_29 : decode cX11_put 29 = .ok (.aload_n 0, 1) := by decide +kernel
theorem dX11_put_30 : decode cX11_put 30 = .ok (.iload_n 1, 1) := by decide +kernel
theorem dX11_put_31 : decode cX11_put 31 = .ok (.iload_n 2, 1) := by decide +kernel
theorem dX11_put_32 : decode cX11_put 32 = .ok (.iconst 1, 1) := by decide +kernel
theorem dX11_put_33 : decode cX11_put 33 = .ok (.invokevirtual 285, 3) := by decide +kernel
theorem dX11_put_36 : decode cX11_put 36 = .ok (.ifCond .ne 10, 3) := by decide +kernel
theorem dX11_put_39 : decode cX11_put 39 = .ok (.aload_n 0, 1) := by decide +kernel
theorem dX11_put_40 : decode cX11_put 40 = .ok (.ldc 81, 2) := by decide +kernel
theorem dX11_put_42 : decode cX11_put 42 = .ok (.invokevirtual 82, 3) := by decide +kernel
theorem dX11_put_45 : decode cX11_put 45 = .ok (.ireturn, 1) := by decide +kernel
theorem dX11_put_46 : decode cX11_put 46 = .ok (.aload_n 0, 1) := by decide +kernel
theorem dX11_put_47 : decode cX11_put 47 = .ok (.getfield 64, 3) := by decide +kernel
theorem dX11_put_50 : decode cX11_put 50 = .ok (.iload_n 1, 1) := by decide +kernel
theorem dX11_put_51 : decode cX11_put 51 = .ok (.aaload, 1) := by decide +kernel
theorem dX11_put_52 : decode cX11_put 52 = .ok (.iload_n 2, 1) := by decide +kernel
theorem dX11_put_53 : decode cX11_put 53 = .ok (.aload_n 0, 1) := by decide +kernel
theorem dX11_put_54 : decode cX11_put 54 = .ok (.getfield 67, 3) := by decide +kernel
theorem dX11_put_57 : decode cX11_put 57 = .ok (.iload_n 1, 1) := by decide +kernel
theorem dX11_put_58 : decode cX11_put 58 = .ok (.iaload, 1) := by decide +kernel
theorem dX11_put_59 : decode cX11_put 59 = .ok (.iload_n 3, 1) := by decide +kernel
theorem dX11_put_60 : decode cX11_put 60 = .ok (.invokestatic 288, 3) := by decide +kernel
theorem dX11_put_63 : decode cX11_put 63 = .ok (.iastore, 1) := by decide +kernel
theorem dX11_put_64 : decode cX11_put 64 = .ok (.iconst 1, 1) := by decide +kernel
theorem dX11_put_65 : decode cX11_put 65 = .ok (.ireturn, 1) := by decide +kernel
theorem dX11_move_0 : decode cX11_move 0 = .ok (.iload_n 1, 1) := by decide +kernel
theorem dX11_move_1 : decode cX11_move 1 = .ok (.invokestatic 230, 3) := by decide +kernel
theorem dX11_move_4 : decode cX11_move 4 = .ok (.ifCond .eq 10, 3) := by decide +kernel
theorem dX11_move_7 : decode cX11_move 7 = .ok (.iload_n 3, 1) := by decide +kernel
theorem dX11_move_8 : decode cX11_move 8 = .ok (.invokestatic 230, 3) := by decide +kernel
theorem dX11_move_11 : decode cX11_move 11 = .ok (.ifCond .ne 10, 3) := by decide +kernel
theorem dX11_move_14 : decode cX11_move 14 = .ok (.aload_n 0, 1) := by decide +kernel
theorem dX11_move_15 : decode cX11_move 15 = .ok (.ldc 81, 2) := by decide +kernel
theorem dX11_move_17 : decode cX11_move 17 = .ok (.invokevirtual 82, 3) := by decide +kernel
theorem dX11_move_20 : decode cX11_move 20 = .ok (.ireturn, 1) := by decide +kernel
theorem dX11_move_21 : decode cX11_move 21 = .ok (.aload_n 0, 1) := by decide +kernel
theorem dX11_move_22 : decode cX11_move 22 = .ok (.iload_n 1, 1) := by decide +kernel
theorem dX11_move_23 : decode cX11_move 23 = .ok (.invokevirtual 233, 3) := by decide +kernel
theorem dX11_move_26 : decode cX11_move 26 = .ok (.ifCond .ne 11, 3) := by decide +kernel
theorem dX11_move_29 : decode cX11_move 29 = .ok (.aload_n 0, 1) := by decide +kernel
theorem dX11_move_30 : decode cX11_move 30 = .ok (.iload_n 3, 1) := by decide +kernel
theorem dX11_move_31 : decode cX11_move 31 = .ok (.invokevirtual 233, 3) := by decide +kernel
theorem dX11_move_34 : decode cX11_move 34 = .ok (.ifCond .eq 10, 3) := by decide +kernel
theorem dX11_move_37 : decode cX11_move 37 = .ok (.aload_n 0, 1) := by decide +kernel
theorem dX11_move_38 : decode cX11_move 38 = .ok (.ldc 223, 2) := by decide +kernel
theorem dX11_move_40 : decode cX11_move 40 = .ok (.invokevirtual 82, 3) := by decide +kernel
theorem dX11_move_43 : decode cX11_move 43 = .ok (.ireturn, 1) := by decide +kernel
theorem dX11_move_44 : decode cX11_move 44 = .ok (.aload_n 0, 1) := by decide +kernel
theorem dX11_move_45 : decode cX11_move 45 = .ok (.getfield 67, 3) := by decide +kernel
theorem dX11_move_48 : decode cX11_move 48 = .ok (.iload_n 1, 1) := by decide +kernel
theorem dX11_move_49 : decode cX11_move 49 = .ok (.iaload, 1) := by decide +kernel
theorem dX11_move_50 : decode cX11_move 50 = .ok (.aload_n 0, 1) := by decide +kernel
theorem dX11_move_51 : decode cX11_move 51 = .ok (.getfield 67, 3) := by decide +kernel
theorem dX11_move_54 : decode cX11_move 54 = .ok (.iload_n 3, 1) := by decide +kernel
theorem dX11_move_55 : decode cX11_move 55 = .ok (.iaload, 1) := by decide +kernel
theorem dX11_move_56 : decode cX11_move 56 = .ok (.if_icmp .eq 10, 3) := by decide +kernel
theorem dX11_move_59 : decode cX11_move 59 = .ok (.aload_n 0, 1) := by decide +kernel
theorem dX11_move_60 : decode cX11_move 60 = .ok (.ldc 173, 2) := by decide +kernel
theorem dX11_move_62 : decode cX11_move 62 = .ok (.invokevirtual 82, 3) := by decide +kernel
theorem dX11_move_65 : decode cX11_move 65 = .ok (.ireturn, 1) := by decide +kernel
theorem dX11_move_66 : decode cX11_move 66 = .ok (.aload_n 0, 1) := by decide +kernel
theorem dX11_move_67 : decode cX11_move 67 = .ok (.iload_n 1, 1) := by decide +kernel
theorem dX11_move_68 : decode cX11_move 68 = .ok (.iload_n 2, 1) := by decide +kernel
theorem dX11_move_69 : decode cX11_move 69 = .ok (.iload 5, 2) := by decide +kernel
theorem dX11_move_71 : decode cX11_move 71 = .ok (.invokevirtual 285, 3) := by decide +kernel
theorem dX11_move_74 : decode cX11_move 74 = .ok (.ifCond .eq 15, 3) := by decide +kernel
theorem dX11_move_77 : decode cX11_move 77 = .ok (.aload_n 0, 1) := by decide +kernel
theorem dX11_move_78 : decode cX11_move 78 = .ok (.iload_n 3, 1) := by decide +kernel
theorem dX11_move_79 : decode cX11_move 79 = .ok (.iload 4, 2) := by decide +kernel
theorem dX11_move_81 : decode cX11_move 81 = .ok (.iload 5, 2) := by decide +kernel
theorem dX11_move_83 : decode cX11_move 83 = .ok (.invokevirtual 285, 3) := by decide +kernel
theorem dX11_move_86 : decode cX11_move 86 = .ok (.ifCond .ne 10, 3) := by decide +kernel
theorem dX11_move_89 : decode cX11_move 89 = .ok (.aload_n 0, 1) := by decide +kernel
theorem dX11_move_90 : decode cX11_move 90 = .ok (.ldc 81, 2) := by decide +kernel
theorem dX11_move_92 : decode cX11_move 92 = .ok (.invokevirtual 82, 3) := by decide +kernel
theorem dX11_move_95 : decode cX11_move 95 = .ok (.ireturn, 1) := by decide +kernel
theorem dX11_move_96 : decode cX11_move 96 = .ok (.aload_n 0, 1) := by decide +kernel
theorem dX11_move_97 : decode cX11_move 97 = .ok (.getfield 64, 3) := by decide +kernel
theorem dX11_move_100 : decode cX11_move 100 = .ok (.iload_n 1, 1) := by decide +kernel
theorem dX11_move_101 : decode cX11_move 101 = .ok (.aaload, 1) := by decide +kernel
theorem dX11_move_102 : decode cX11_move 102 = .ok (.iload_n 2, 1) := by decide +kernel
theorem dX11_move_103 : decode cX11_move 103 = .ok (.aload_n 0, 1) := by decide +kernel
theorem dX11_move_104 : decode cX11_move 104 = .ok (.getfield 64, 3) := by decide +kernel
theorem dX11_move_107 : decode cX11_move 107 = .ok (.iload_n 3, 1) := by decide +kernel
theorem dX11_move_108 : decode cX11_move 108 = .ok (.aaload, 1) := by decide +kernel
theorem dX11_move_109 : decode cX11_move 109 = .ok (.iload 4, 2) := by decide +kernel
theorem dX11_move_111 : decode cX11_move 111 = .ok (.iload 5, 2) := by decide +kernel
theorem dX11_move_113 : decode cX11_move 113 = .ok (.invokestatic 291, 3) := by decide +kernel
theorem dX11_move_116 : decode cX11_move 116 = .ok (.iload 5, 2) := by decide +kernel
theorem dX11_move_118 : decode cX11_move 118 = .ok (.ireturn, 1) := by decide +kernel
theorem dX11_suns_0 : decode cX11_suns 0 = .ok (.iload_n 1, 1) := by decide +kernel
theorem dX11_suns_1 : decode cX11_suns 1 = .ok (.invokestatic 230, 3) := by decide +kernel
theorem dX11_suns_4 : decode cX11_suns 4 = .ok (.ifCond .ne 10, 3) := by decide +kernel
theorem dX11_suns_7 : decode cX11_suns 7 = .ok (.aload_n 0, 1) := by decide +kernel
theorem dX11_suns_8 : decode cX11_suns 8 = .ok (.ldc 81, 2) := by decide +kernel
theorem dX11_suns_10 : decode cX11_suns 10 = .ok (.invokevirtual 82, 3) := by decide +kernel
theorem dX11_suns_13 : decode cX11_suns 13 = .ok (.ireturn, 1) := by decide +kernel
theorem dX11_suns_14 : decode cX11_suns 14 = .ok (.aload_n 0, 1) := by decide +kernel
theorem dX11_suns_15 : decode cX11_suns 15 = .ok (.iload_n 1, 1) := by decide +kernel
theorem dX11_suns_16 : decode cX11_suns 16 = .ok (.invokevirtual 233, 3) := by decide +kernel
theorem dX11_suns_19 : decode cX11_suns 19 = .ok (.ifCond .eq 10, 3) := by decide +kernel
theorem dX11_suns_22 : decode cX11_suns 22 = .ok (.aload_n 0, 1) := by decide +kernel
theorem dX11_suns_23 : decode cX11_suns 23 = .ok (.ldc 223, 2) := by decide +kernel
theorem dX11_suns_25 : decode cX11_suns 25 = .ok (.invokevirtual 82, 3) := by decide +kernel
theorem dX11_suns_28 : decode cX11_suns 28 = .ok (.ireturn, 1) := by decide +kernel
theorem dX11_suns_29 : decode cX11_suns 29 = .ok (.aload_n 0, 1) := by decide +kernel
theorem dX11_suns_30 : decode cX11_suns 30 = .ok (.getfield 71, 3) := by decide +kernel
theorem dX11_suns_33 : decode cX11_suns 33 = .ok (.iload_n 1, 1) := by decide +kernel
theorem dX11_suns_34 : decode cX11_suns 34 = .ok (.iaload, 1) := by decide +kernel
theorem dX11_suns_35 : decode cX11_suns 35 = .ok (.bipush 16, 2) := by decide +kernel
theorem dX11_suns_37 : decode cX11_suns 37 = .ok (.invokestatic 297, 3) := by decide +kernel
theorem dX11_suns_40 : decode cX11_suns 40 = .ok (.istore_n 2, 1) := by decide +kernel
theorem dX11_suns_41 : decode cX11_suns 41 = .ok (.iconst 0, 1) := by decide +kernel
theorem dX11_suns_42 : decode cX11_suns 42 = .ok (.istore_n 3, 1) := by decide +kernel
theorem dX11_suns_43 : decode cX11_suns 43 = .ok (.iload_n 3, 1) := by decide +kernel
theorem dX11_suns_44 : decode cX11_suns 44 = .ok (.iload_n 2, 1) := by decide +kernel
theorem dX11_suns_45 : decode cX11_suns 45 = .ok (.if_icmp .ge 43, 3) := by decide +kernel
theorem dX11_suns_48 : decode cX11_suns 48 = .ok (.aload_n 0, 1) := by decide +kernel
theorem dX11_suns_49 : decode cX11_suns 49 = .ok (.getfield 64, 3) := by decide +kernel
theorem dX11_suns_52 : decode cX11_suns 52 = .ok (.iload_n 1, 1) := by decide +kernel
theorem dX11_suns_53 : decode cX11_suns 53 = .ok (.aaload, 1) := by decide +kernel
theorem dX11_suns_54 : decode cX11_suns 54 = .ok (.iload_n 3, 1) := by decide +kernel
theorem dX11_suns_55 : decode cX11_suns 55 = .ok (.iaload, 1) := by decide +kernel
theorem dX11_suns_56 : decode cX11_suns 56 = .ok (.istore 4, 2) := by decide +kernel
theorem dX11_suns_58 : decode cX11_suns 58 = .ok (.iload 4, 2) := by decide +kernel
theorem dX11_suns_60 : decode cX11_suns 60 = .ok (.iconst 0, 1) := by decide +kernel
theorem dX11_suns_61 : decode cX11_suns 61 = .ok (.bipush 9, 2) := by decide +kernel
theorem dX11_suns_63 : decode cX11_suns 63 = .ok (.invokestatic 86, 3) := by decide +kernel
theorem dX11_suns_66 : decode cX11_suns 66 = .ok (.ifCond .ne 5, 3) := by decide +kernel
theorem dX11_suns_69 : decode cX11_suns 69 = .ok (.iload_n 3, 1) := by decide +kernel
theorem dX11_suns_70 : decode cX11_suns 70 = .ok (.ireturn, 1) := by decide +kernel
theorem dX11_suns_71 : decode cX11_suns 71 = .ok (.aload_n 0, 1) := by decide +kernel
theorem dX11_suns_72 : decode cX11_suns 72 = .ok (.getfield 35, 3) := by decide +kernel
theorem dX11_suns_75 : decode cX11_suns 75 = .ok (.getfield 90, 3) := by decide +kernel
theorem dX11_suns_78 : decode cX11_suns 78 = .ok (.iload_n 3, 1) := by decide +kernel
theorem dX11_suns_79 : decode cX11_suns 79 = .ok (.iload 4, 2) := by decide +kernel
theorem dX11_suns_81 : decode cX11_suns 81 = .ok (.iastore, 1) := by decide +kernel
theorem dX11_suns_82 : decode cX11_suns 82 = .ok (.iinc 3 1, 3) := by decide +kernel
theorem dX11_suns_85 : decode cX11_suns 85 = .ok (.goto (-42), 3) := by decide +kernel
theorem dX11_suns_88 : decode cX11_suns 88 = .ok (.iload_n 2, 1) := by decide +kernel
theorem dX11_suns_89 : decode cX11_suns 89 = .ok (.ireturn, 1) := by decide +kernel
theorem dX11_judge_0 : decode cX11_judge 0 = .ok (.iload_n 1, 1) := by decide +kernel
theorem dX11_judge_1 : decode cX11_judge 1 = .ok (.invokestatic 230, 3) := by decide +kernel
theorem dX11_judge_4 : decode cX11_judge 4 = .ok (.ifCond .ne 10, 3) := by decide +kernel
theorem dX11_judge_7 : decode cX11_judge 7 = .ok (.aload_n 0, 1) := by decide +kernel
theorem dX11_judge_8 : decode cX11_judge 8 = .ok (.ldc 81, 2) := by decide +kernel
theorem dX11_judge_10 : decode cX11_judge 10 = .ok (.invokevirtual 82, 3) := by decide +kernel
theorem dX11_judge_13 : decode cX11_judge 13 = .ok (.ireturn, 1) := by decide +kernel
theorem dX11_judge_14 : decode cX11_judge 14 = .ok (.aload_n 0, 1) := by decide +kernel
theorem dX11_judge_15 : decode cX11_judge 15 = .ok (.iload_n 1, 1) := by decide +kernel
theorem dX11_judge_16 : decode cX11_judge 16 = .ok (.invokevirtual 233, 3) := by decide +kernel
theorem dX11_judge_19 : decode cX11_judge 19 = .ok (.ifCond .eq 10, 3) := by decide +kernel
theorem dX11_judge_22 : decode cX11_judge 22 = .ok (.aload_n 0, 1) := by decide +kernel
theorem dX11_judge_23 : decode cX11_judge 23 = .ok (.ldc 223, 2) := by decide +kernel
theorem dX11_judge_25 : decode cX11_judge 25 = .ok (.invokevirtual 82, 3) := by decide +kernel
theorem dX11_judge_28 : decode cX11_judge 28 = .ok (.ireturn, 1) := by decide +kernel
theorem dX11_judge_29 : decode cX11_judge 29 = .ok (.aload_n 0, 1) := by decide +kernel
theorem dX11_judge_30 : decode cX11_judge 30 = .ok (.getfield 71, 3) := by decide +kernel
theorem dX11_judge_33 : decode cX11_judge 33 = .ok (.iload_n 1, 1) := by decide +kernel
theorem dX11_judge_34 : decode cX11_judge 34 = .ok (.iaload, 1) := by decide +kernel
theorem dX11_judge_35 : decode cX11_judge 35 = .ok (.aload_n 0, 1) := by decide +kernel
theorem dX11_judge_36 : decode cX11_judge 36 = .ok (.getfield 35, 3) := by decide +kernel
theorem dX11_judge_39 : decode cX11_judge 39 = .ok (.getfield 116, 3) := by decide +kernel
theorem dX11_judge_42 : decode cX11_judge 42 = .ok (.invokestatic 297, 3) := by decide +kernel
theorem dX11_judge_45 : decode cX11_judge 45 = .ok (.istore_n 2, 1) := by decide +kernel
theorem dX11_judge_46 : decode cX11_judge 46 = .ok (.iconst 0, 1) := by decide +kernel
theorem dX11_judge_47 : decode cX11_judge 47 = .ok (.istore_n 3, 1) := by decide +kernel
theorem dX11_judge_48 : decode cX11_judge 48 = .ok (.iload_n 3, 1) := by decide +kernel
theorem dX11_judge_49 : decode cX11_judge 49 = .ok (.iload_n 2, 1) := by decide +kernel
theorem dX11_judge_50 : decode cX11_judge 50 = .ok (.if_icmp .ge 31, 3) := by decide +kernel
theorem dX11_judge_53 : decode cX11_judge 53 = .ok (.aload_n 0, 1) := by decide +kernel
theorem dX11_judge_54 : decode cX11_judge 54 = .ok (.getfield 64, 3) := by decide +kernel
theorem dX11_judge_57 : decode cX11_judge 57 = .ok (.iload_n 1, 1) := by decide +kernel
theorem dX11_judge_58 : decode cX11_judge 58 = .ok (.aaload, 1) := by decide +kernel
theorem dX11_judge_59 : decode cX11_judge 59 = .ok (.iload_n 3, 1) := by decide +kernel
theorem dX11_judge_60 : decode cX11_judge 60 = .ok (.iaload, 1) := by decide +kernel
theorem dX11_judge_61 : decode cX11_judge 61 = .ok (.aload_n 0, 1) := by decide +kernel
theorem dX11_judge_62 : decode cX11_judge 62 = .ok (.getfield 35, 3) := by decide +kernel
theorem dX11_judge_65 : decode cX11_judge 65 = .ok (.getfield 133, 3) := by decide +kernel
theorem dX11_judge_68 : decode cX11_judge 68 = .ok (.iload_n 3, 1) := by decide +kernel
theorem dX11_judge_69 : decode cX11_judge 69 = .ok (.iaload, 1) := by decide +kernel
theorem dX11_judge_70 : decode cX11_judge 70 = .ok (.if_icmp .eq 5, 3) := by decide +kernel
theorem dX11_judge_73 : decode cX11_judge 73 = .ok (.iload_n 3, 1) := by decide +kernel
theorem dX11_judge_74 : decode cX11_judge 74 = .ok (.ireturn, 1) := by decide +kernel
theorem dX11_judge_75 : decode cX11_judge 75 = .ok (.iinc 3 1, 3) := by decide +kernel
theorem dX11_judge_78 : decode cX11_judge 78 = .ok (.goto (-30), 3) := by decide +kernel
theorem dX11_judge_81 : decode cX11_judge 81 = .ok (.aload_n 0, 1) := by decide +kernel
theorem dX11_judge_82 : decode cX11_judge 82 = .ok (.getfield 71, 3) := by decide +kernel
theorem dX11_judge_85 : decode cX11_judge 85 = .ok (.iload_n 1, 1) := by decide +kernel
theorem dX11_judge_86 : decode cX11_judge 86 = .ok (.iaload, 1) := by decide +kernel
theorem dX11_judge_87 : decode cX11_judge 87 = .ok (.aload_n 0, 1) := by decide +kernel
theorem dX11_judge_88 : decode cX11_judge 88 = .ok (.getfield 35, 3) := by decide +kernel
theorem dX11_judge_91 : decode cX11_judge 91 = .ok (.getfield 116, 3) := by decide +kernel
theorem dX11_judge_94 : decode cX11_judge 94 = .ok (.if_icmp .ne 7, 3) := by decide +kernel
theorem dX11_judge_97 : decode cX11_judge 97 = .ok (.iconst (-1), 1) := by decide +kernel
theorem dX11_judge_98 : decode cX11_judge 98 = .ok (.goto 4, 3) := by decide +kernel
theorem dX11_judge_101 : decode cX11_judge 101 = .ok (.iload_n 2, 1) := by decide +kernel
theorem dX11_judge_102 : decode cX11_judge 102 = .ok (.ireturn, 1) := by decide +kernel
theorem dX11_image_0 : decode cX11_image 0 = .ok (.aload_n 0, 1) := by decide +kernel
theorem dX11_image_1 : decode cX11_image 1 = .ok (.getfield 42, 3) := by decide +kernel
theorem dX11_image_4 : decode cX11_image 4 = .ok (.aload_n 0, 1) := by decide +kernel
theorem dX11_image_5 : decode cX11_image 5 = .ok (.getfield 35, 3) := by decide +kernel
theorem dX11_image_8 : decode cX11_image 8 = .ok (.invokevirtual 302, 3) := by decide +kernel
theorem dX11_image_11 : decode cX11_image 11 = .ok (.aload_n 0, 1) := by decide +kernel
theorem dX11_image_12 : decode cX11_image 12 = .ok (.getfield 52, 3) := by decide +kernel
theorem dX11_image_15 : decode cX11_image 15 = .ok (.aload_n 0, 1) := by decide +kernel
theorem dX11_image_16 : decode cX11_image 16 = .ok (.getfield 48, 3) := by decide +kernel
theorem dX11_image_19 : decode cX11_image 19 = .ok (.invokevirtual 306, 3) := by decide +kernel
theorem dX11_image_22 : decode cX11_image 22 = .ok (.aload_n 0, 1) := by decide +kernel
theorem dX11_image_23 : decode cX11_image 23 = .ok (.dup, 1) := by decide +kernel
theorem dX11_image_24 : decode cX11_image 24 = .ok (.getfield 308, 3) := by decide +kernel
theorem dX11_image_27 : decode cX11_image 27 = .ok (.iconst 1, 1) := by decide +kernel
theorem dX11_image_28 : decode cX11_image 28 = .ok (.iadd, 1) := by decide +kernel
theorem dX11_image_29 : decode cX11_image 29 = .ok (.putfield 308, 3) := by decide +kernel
theorem dX11_image_32 : decode cX11_image 32 = .ok (.aload_n 0, 1) := by decide +kernel
theorem dX11_image_33 : decode cX11_image 33 = .ok (.getfield 308, 3) := by decide +kernel
theorem dX11_image_36 : decode cX11_image 36 = .ok (.ireturn, 1) := by decide +kernel
theorem dX11_restore_0 : decode cX11_restore 0 = .ok (.aload_n 0, 1) := by decide +kernel
theorem dX11_restore_1 : decode cX11_restore 1 = .ok (.getfield 308, 3) := by decide +kernel
theorem dX11_restore_4 : decode cX11_restore 4 = .ok (.ifCond .ne 10, 3) := by decide +kernel
theorem dX11_restore_7 : decode cX11_restore 7 = .ok (.aload_n 0, 1) := by decide +kernel
theorem dX11_restore_8 : decode cX11_restore 8 = .ok (.ldc 223, 2) := by decide +kernel
theorem dX11_restore_10 : decode cX11_restore 10 = .ok (.invokevirtual 82, 3) := by decide +kernel
theorem dX11_restore_13 : decode cX11_restore 13 = .ok (.ireturn, 1) := by decide +kernel
theorem dX11_restore_14 : decode cX11_restore 14 = .ok (.aload_n 0, 1) := by decide +kernel
theorem dX11_restore_15 : decode cX11_restore 15 = .ok (.getfield 35, 3) := by decide +kernel
theorem dX11_restore_18 : decode cX11_restore 18 = .ok (.aload_n 0, 1) := by decide +kernel
theorem dX11_restore_19 : decode cX11_restore 19 = .ok (.getfield 42, 3) := by decide +kernel
theorem dX11_restore_22 : decode cX11_restore 22 = .ok (.invokevirtual 302, 3) := by decide +kernel
theorem dX11_restore_25 : decode cX11_restore 25 = .ok (.aload_n 0, 1) := by decide +kernel
theorem dX11_restore_26 : decode cX11_restore 26 = .ok (.getfield 48, 3) := by decide +kernel
theorem dX11_restore_29 : decode cX11_restore 29 = .ok (.aload_n 0, 1) := by decide +kernel
theorem dX11_restore_30 : decode cX11_restore 30 = .ok (.getfield 52, 3) := by decide +kernel
theorem dX11_restore_33 : decode cX11_restore 33 = .ok (.invokevirtual 306, 3) := by decide +kernel
theorem dX11_restore_36 : decode cX11_restore 36 = .ok (.aload_n 0, 1) := by decide +kernel
theorem dX11_restore_37 : decode cX11_restore 37 = .ok (.getfield 35, 3) := by decide +kernel
theorem dX11_restore_40 : decode cX11_restore 40 = .ok (.getfield 202, 3) := by decide +kernel
theorem dX11_restore_43 : decode cX11_restore 43 = .ok (.ireturn, 1) := by decide +kernel
theorem dX11_tell_0 : decode cX11_tell 0 = .ok (.aload_n 0, 1) := by decide +kernel
theorem dX11_tell_1 : decode cX11_tell 1 = .ok (.getfield 48, 3) := by decide +kernel
theorem dX11_tell_4 : decode cX11_tell 4 = .ok (.getfield 311, 3) := by decide +kernel
theorem dX11_tell_7 : decode cX11_tell 7 = .ok (.bipush 20, 2) := by decide +kernel
theorem dX11_tell_9 : decode cX11_tell 9 = .ok (.if_icmp .lt 10, 3) := by decide +kernel
theorem dX11_tell_12 : decode cX11_tell 12 = .ok (.aload_n 0, 1) := by decide +kernel
theorem dX11_tell_13 : decode cX11_tell 13 = .ok (.ldc 119, 2) := by decide +kernel
theorem dX11_tell_15 : decode cX11_tell 15 = .ok (.invokevirtual 82, 3) := by decide +kernel
theorem dX11_tell_18 : decode cX11_tell 18 = .ok (.ireturn, 1) := by decide +kernel
theorem dX11_tell_19 : decode cX11_tell 19 = .ok (.aload_n 0, 1) := by decide +kernel
theorem dX11_tell_20 : decode cX11_tell 20 = .ok (.getfield 48, 3) := by decide +kernel
theorem dX11_tell_23 : decode cX11_tell 23 = .ok (.iload_n 1, 1) := by decide +kernel
theorem dX11_tell_24 : decode cX11_tell 24 = .ok (.invokevirtual 314, 3) := by decide +kernel
theorem dX11_tell_27 : decode cX11_tell 27 = .ok (.aload_n 0, 1) := by decide +kernel
theorem dX11_tell_28 : decode cX11_tell 28 = .ok (.getfield 48, 3) := by decide +kernel
theorem dX11_tell_31 : decode cX11_tell 31 = .ok (.getfield 311, 3) := by decide +kernel
theorem dX11_tell_34 : decode cX11_tell 34 = .ok (.ireturn, 1) := by decide +kernel
theorem dX11_check_0 : decode cX11_check 0 = .ok (.aload_n 0, 1) := by decide +kernel
theorem dX11_check_1 : decode cX11_check 1 = .ok (.getfield 48, 3) := by decide +kernel
theorem dX11_check_4 : decode cX11_check 4 = .ok (.getfield 311, 3) := by decide +kernel
theorem dX11_check_7 : decode cX11_check 7 = .ok (.istore_n 1, 1) := by decide +kernel
theorem dX11_check_8 : decode cX11_check 8 = .ok (.aload_n 0, 1) := by decide +kernel
theorem dX11_check_9 : decode cX11_check 9 = .ok (.getfield 48, 3) := by decide +kernel
theorem dX11_check_12 : decode cX11_check 12 = .ok (.iconst 0, 1) := by decide +kernel
theorem dX11_check_13 : decode cX11_check 13 = .ok (.putfield 311, 3) := by decide +kernel
theorem dX11_check_16 : decode cX11_check 16 = .ok (.aload_n 0, 1) := by decide +kernel
theorem dX11_check_17 : decode cX11_check 17 = .ok (.invokevirtual 217, 3) := by decide +kernel
theorem dX11_check_20 : decode cX11_check 20 = .ok (.iconst 0, 1) := by decide +kernel
theorem dX11_check_21 : decode cX11_check 21 = .ok (.istore_n 2, 1) := by decide +kernel
theorem dX11_check_22 : decode cX11_check 22 = .ok (.iload_n 2, 1) := by decide +kernel
theorem dX11_check_23 : decode cX11_check 23 = .ok (.iload_n 1, 1) := by decide +kernel
theorem dX11_check_24 : decode cX11_check 24 = .ok (.if_icmp .ge 49, 3) := by decide +kernel
theorem dX11_check_27 : decode cX11_check 27 = .ok (.iload_n 2, 1) := by decide +kernel
theorem dX11_check_28 : decode cX11_check 28 = .ok (.bipush 20, 2) := by decide +kernel
theorem dX11_check_30 : decode cX11_check 30 = .ok (.if_icmp .ge 43, 3) := by decide +kernel
theorem dX11_check_33 : decode cX11_check 33 = .ok (.aload_n 0, 1) := by decide +kernel
theorem dX11_check_34 : decode cX11_check 34 = .ok (.getfield 39, 3) := by decide +kernel
theorem dX11_check_37 : decode cX11_check 37 = .ok (.aload_n 0, 1) := by decide +kernel
theorem dX11_check_38 : decode cX11_check 38 = .ok (.getfield 48, 3) := by decide +kernel
theorem dX11_check_41 : decode cX11_check 41 = .ok (.invokevirtual 213, 3) := by decide +kernel
theorem dX11_check_44 : decode cX11_check 44 = .ok (.aload_n 0, 1) := by decide +kernel
theorem dX11_check_45 : decode cX11_check 45 = .ok (.getfield 39, 3) := by decide +kernel
theorem dX11_check_48 : decode cX11_check 48 = .ok (.getfield 110, 3) := by decide +kernel
theorem dX11_check_51 : decode cX11_check 51 = .ok (.aload_n 0, 1) := by decide +kernel
theorem dX11_check_52 : decode cX11_check 52 = .ok (.getfield 48, 3) := by decide +kernel
theorem dX11_check_55 : decode cX11_check 55 = .ok (.getfield 317, 3) := by decide +kernel
theorem dX11_check_58 : decode cX11_check 58 = .ok (.iload_n 2, 1) := by decide +kernel
theorem dX11_check_59 : decode cX11_check 59 = .ok (.iaload, 1) := by decide +kernel
theorem dX11_check_60 : decode cX11_check 60 = .ok (.if_icmp .eq 7, 3) := by decide +kernel
theorem dX11_check_63 : decode cX11_check 63 = .ok (.iconst 1, 1) := by decide +kernel
theorem dX11_check_64 : decode cX11_check 64 = .ok (.iload_n 2, 1) := by decide +kernel
theorem dX11_check_65 : decode cX11_check 65 = .ok (.iadd, 1) := by decide +kernel
theorem dX11_check_66 : decode cX11_check 66 = .ok (.ireturn, 1) := by decide +kernel
theorem dX11_check_67 : decode cX11_check 67 = .ok (.iinc 2 1, 3) := by decide +kernel
theorem dX11_check_70 : decode cX11_check 70 = .ok (.goto (-48), 3) := by decide +kernel
theorem dX11_check_73 : decode cX11_check 73 = .ok (.iconst 0, 1) := by decide +kernel
theorem dX11_check_74 : decode cX11_check 74 = .ok (.ireturn, 1) := by decide +kernel
theorem dX11_count_0 : decode cX11_count 0 = .ok (.iload_n 1, 1) := by decide +kernel
theorem dX11_count_1 : decode cX11_count 1 = .ok (.tableswitch 162 0 10 #[59, 67, 75, 83, 91, 99, 112, 130, 138, 146, 154], 59) := by decide +kernel
theorem dX11_count_60 : decode cX11_count 60 = .ok (.aload_n 0, 1) := by decide +kernel
theorem dX11_count_61 : decode cX11_count 61 = .ok (.getfield 35, 3) := by decide +kernel
theorem dX11_count_64 : decode cX11_count 64 = .ok (.getfield 116, 3) := by decide +kernel
theorem dX11_count_67 : decode cX11_count 67 = .ok (.ireturn, 1) := by decide +kernel
theorem dX11_count_68 : decode cX11_count 68 = .ok (.aload_n 0, 1) := by decide +kernel
theorem dX11_count_69 : decode cX11_count 69 = .ok (.getfield 35, 3) := by decide +kernel
theorem dX11_count_72 : decode cX11_count 72 = .ok (.getfield 202, 3) := by decide +kernel
theorem dX11_count_75 : decode cX11_count 75 = .ok (.ireturn, 1) := by decide +kernel
theorem dX11_count_76 : decode cX11_count 76 = .ok (.aload_n 0, 1) := by decide +kernel
theorem dX11_count_77 : decode cX11_count 77 = .ok (.getfield 35, 3) := by decide +kernel
theorem dX11_count_80 : decode cX11_count 80 = .ok (.getfield 102, 3) := by decide +kernel
theorem dX11_count_83 : decode cX11_count 83 = .ok (.ireturn, 1) := by decide +kernel
theorem dX11_count_84 : decode cX11_count 84 = .ok (.aload_n 0, 1) := by decide +kernel
theorem dX11_count_85 : decode cX11_count 85 = .ok (.getfield 35, 3) := by decide +kernel
theorem dX11_count_88 : decode cX11_count 88 = .ok (.getfield 106, 3) := by decide +kernel
theorem dX11_count_91 : decode cX11_count 91 = .ok (.ireturn, 1) := by decide +kernel
theorem dX11_count_92 : decode cX11_count 92 = .ok (.aload_n 0, 1) := by decide +kernel
theorem dX11_count_93 : decode cX11_count 93 = .ok (.getfield 35, 3) := by decide +kernel
theorem dX11_count_96 : decode cX11_count 96 = .ok (.getfield 110, 3) := by decide +kernel
theorem dX11_count_99 : decode cX11_count 99 = .ok (.ireturn, 1) := by decide +kernel
theorem dX11_count_100 : decode cX11_count 100 = .ok (.aload_n 0, 1) := by decide +kernel
theorem dX11_count_101 : decode cX11_count 101 = .ok (.getfield 35, 3) := by decide +kernel
theorem dX11_count_104 : decode cX11_count 104 = .ok (.getfield 90, 3) := by decide +kernel
theorem dX11_count_107 : decode cX11_count 107 = .ok (.bipush 16, 2) := by decide +kernel
theorem dX11_count_109 : decode cX11_count 109 = .ok (.invokestatic 320, 3) := by decide +kernel
theorem dX11_count_112 : decode cX11_count 112 = .ok (.ireturn, 1) := by decide +kernel
theorem dX11_count_113 : decode cX11_count 113 = .ok (.aload_n 0, 1) := by decide +kernel
theorem dX11_count_114 : decode cX11_count 114 = .ok (.getfield 35, 3) := by decide +kernel
theorem dX11_count_117 : decode cX11_count 117 = .ok (.getfield 142, 3) := by decide +kernel
theorem dX11_count_120 : decode cX11_count 120 = .ok (.aload_n 0, 1) := by decide +kernel
theorem dX11_count_121 : decode cX11_count 121 = .ok (.getfield 35, 3) := by decide +kernel
theorem dX11_count_124 : decode cX11_count 124 = .ok (.getfield 116, 3) := by decide +kernel
theorem dX11_count_127 : decode cX11_count 127 = .ok (.invokestatic 320, 3) := by decide +kernel
theorem dX11_count_130 : decode cX11_count 130 = .ok (.ireturn, 1) := by decide +kernel
theorem dX11_count_131 : decode cX11_count 131 = .ok (.aload_n 0, 1) := by decide +kernel
theorem dX11_count_132 : decode cX11_count 132 = .ok (.getfield 48, 3) := by decide +kernel
theorem dX11_count_135 : decode cX11_count 135 = .ok (.getfield 174, 3) := by decide +kernel
theorem dX11_count_138 : decode cX11_count 138 = .ok (.ireturn, 1) := by decide +kernel
theorem dX11_count_139 : decode cX11_count 139 = .ok (.aload_n 0, 1) := by decide +kernel
theorem dX11_count_140 : decode cX11_count 140 = .ok (.getfield 48, 3) := by decide +kernel
theorem dX11_count_143 : decode cX11_count 143 = .ok (.getfield 311, 3) := by decide +kernel
theorem dX11_count_146 : decode cX11_count 146 = .ok (.ireturn, 1) := by decide +kernel
theorem dX11_count_147 : decode cX11_count 147 = .ok (.aload_n 0, 1) := by decide +kernel
theorem dX11_count_148 : decode cX11_count 148 = .ok (.getfield 58, 3) := by decide +kernel
theorem dX11_count_151 : decode cX11_count 151 = .ok (.getfield 273, 3) := by decide +kernel
theorem dX11_count_154 : decode cX11_count 154 = .ok (.ireturn, 1) := by decide +kernel
theorem dX11_count_155 : decode cX11_count 155 = .ok (.aload_n 0, 1) := by decide +kernel
theorem dX11_count_156 : decode cX11_count 156 = .ok (.getfield 48, 3) := by decide +kernel
theorem dX11_count_159 : decode cX11_count 159 = .ok (.getfield 250, 3) := by decide +kernel
theorem dX11_count_162 : decode cX11_count 162 = .ok (.ireturn, 1) := by decide +kernel
theorem dX11_count_163 : decode cX11_count 163 = .ok (.aload_n 0, 1) := by decide +kernel
theorem dX11_count_164 : decode cX11_count 164 = .ok (.ldc 81, 2) := by decide +kernel
theorem dX11_count_166 : decode cX11_count 166 = .ok (.invokevirtual 82, 3) := by decide +kernel
theorem dX11_count_169 : decode cX11_count 169 = .ok (.ireturn, 1) := by decide +kernel
theorem dX11_told_0 : decode cX11_told 0 = .ok (.iload_n 1, 1) := by decide +kernel
theorem dX11_told_1 : decode cX11_told 1 = .ok (.iconst 1, 1) := by decide +kernel
theorem dX11_told_2 : decode cX11_told 2 = .ok (.iconst 5, 1) := by decide +kernel
theorem dX11_told_3 : decode cX11_told 3 = .ok (.invokestatic 86, 3) := by decide +kernel
theorem dX11_told_6 : decode cX11_told 6 = .ok (.ifCond .eq 12, 3) := by decide +kernel
theorem dX11_told_9 : decode cX11_told 9 = .ok (.aload_n 0, 1) := by decide +kernel
theorem dX11_told_10 : decode cX11_told 10 = .ok (.getfield 74, 3) := by decide +kernel
theorem dX11_told_13 : decode cX11_told 13 = .ok (.iload_n 1, 1) := by decide +kernel
theorem dX11_told_14 : decode cX11_told 14 = .ok (.iaload, 1) := by decide +kernel
theorem dX11_told_15 : decode cX11_told 15 = .ok (.goto 9, 3) := by decide +kernel
theorem dX11_told_18 : decode cX11_told 18 = .ok (.aload_n 0, 1) := by decide +kernel
theorem dX11_told_19 : decode cX11_told 19 = .ok (.ldc 81, 2) := by decide +kernel
theorem dX11_told_21 : decode cX11_told 21 = .ok (.invokevirtual 82, 3) := by decide +kernel
theorem dX11_told_24 : decode cX11_told 24 = .ok (.ireturn, 1) := by decide +kernel
theorem dX11_error_0 : decode cX11_error 0 = .ok (.ldc_w 323, 3) := by decide +kernel
theorem dX11_error_3 : decode cX11_error 3 = .ok (.iload_n 1, 1) := by decide +kernel
theorem dX11_error_4 : decode cX11_error 4 = .ok (.isub, 1) := by decide +kernel
theorem dX11_error_5 : decode cX11_error 5 = .ok (.istore_n 2, 1) := by decide +kernel
theorem dX11_error_6 : decode cX11_error 6 = .ok (.iload_n 2, 1) := by decide +kernel
theorem dX11_error_7 : decode cX11_error 7 = .ok (.iconst 1, 1) := by decide +kernel
theorem dX11_error_8 : decode cX11_error 8 = .ok (.iconst 5, 1) := by decide +kernel
theorem dX11_error_9 : decode cX11_error 9 = .ok (.invokestatic 86, 3) := by decide +kernel
theorem dX11_error_12 : decode cX11_error 12 = .ok (.ifCond .eq 13, 3) := by decide +kernel
theorem dX11_error_15 : decode cX11_error 15 = .ok (.aload_n 0, 1) := by decide +kernel
theorem dX11_error_16 : decode cX11_error 16 = .ok (.getfield 74, 3) := by decide +kernel
theorem dX11_error_19 : decode cX11_error 19 = .ok (.iload_n 2, 1) := by decide +kernel
theorem dX11_error_20 : decode cX11_error 20 = .ok (.dup2, 1) := by decide +kernel
theorem dX11_error_21 : decode cX11_error 21 = .ok (.iaload, 1) := by decide +kernel
theorem dX11_error_22 : decode cX11_error 22 = .ok (.iconst 1, 1) := by decide +kernel
theorem dX11_error_23 : decode cX11_error 23 = .ok (.iadd, 1) := by decide +kernel
theorem dX11_error_24 : decode cX11_error 24 = .ok (.iastore, 1) := by decide +kernel
theorem dX11_error_25 : decode cX11_error 25 = .ok (.iload_n 1, 1) := by decide +kernel
theorem dX11_error_26 : decode cX11_error 26 = .ok (.ireturn, 1) := by decide +kernel
theorem dX11_think_0 : decode cX11_think 0 = .ok (.aload_n 0, 1) := by decide +kernel
theorem dX11_think_1 : decode cX11_think 1 = .ok (.getfield 39, 3) := by decide +kernel
theorem dX11_think_4 : decode cX11_think 4 = .ok (.aload_n 0, 1) := by decide +kernel
theorem dX11_think_5 : decode cX11_think 5 = .ok (.getfield 35, 3) := by decide +kernel
theorem dX11_think_8 : decode cX11_think 8 = .ok (.invokevirtual 302, 3) := by decide +kernel
theorem dX11_think_11 : decode cX11_think 11 = .ok (.return_, 1) := by decide +kernel
theorem dX11_liesAsTold_0 : decode cX11_liesAsTold 0 = .ok (.iconst 0, 1) := by decide +kernel
theorem dX11_liesAsTold_1 : decode cX11_liesAsTold 1 = .ok (.istore_n 3, 1) := by decide +kernel
theorem dX11_liesAsTold_2 : decode cX11_liesAsTold 2 = .ok (.iload_n 3, 1) := by decide +kernel
theorem dX11_liesAsTold_3 : decode cX11_liesAsTold 3 = .ok (.aload_n 0, 1) := by decide +kernel
theorem dX11_liesAsTold_4 : decode cX11_liesAsTold 4 = .ok (.getfield 71, 3) := by decide +kernel
theorem dX11_liesAsTold_7 : decode cX11_liesAsTold 7 = .ok (.iload_n 2, 1) := by decide +kernel
theorem dX11_liesAsTold_8 : decode cX11_liesAsTold 8 = .ok (.iaload, 1) := by decide +kernel
theorem dX11_liesAsTold_9 : decode cX11_liesAsTold 9 = .ok (.if_icmp .ge 48, 3) := by decide +kernel
theorem dX11_liesAsTold_12 : decode cX11_liesAsTold 12 = .ok (.iload_n 3, 1) := by decide +kernel
theorem dX11_liesAsTold_13 : decode cX11_liesAsTold 13 = .ok (.bipush 40, 2) := by decide +kernel
theorem dX11_liesAsTold_15 : decode cX11_liesAsTold 15 = .ok (.if_icmp .ge 42, 3) := by decide +kernel
theorem dX11_liesAsTold_18 : decode cX11_liesAsTold 18 = .ok (.aload_n 0, 1) := by decide +kernel
theorem dX11_liesAsTold_19 : decode cX11_liesAsTold 19 = .ok (.getfield 39, 3) := by decide +kernel
theorem dX11_liesAsTold_22 : decode cX11_liesAsTold 22 = .ok (.aload_n 0, 1) := by decide +kernel
theorem dX11_liesAsTold_23 : decode cX11_liesAsTold 23 = .ok (.getfield 48, 3) := by decide +kernel
theorem dX11_liesAsTold_26 : decode cX11_liesAsTold 26 = .ok (.invokevirtual 213, 3) := by decide +kernel
theorem dX11_liesAsTold_29 : decode cX11_liesAsTold 29 = .ok (.aload_n 0, 1) := by decide +kernel
theorem dX11_liesAsTold_30 : decode cX11_liesAsTold 30 = .ok (.getfield 39, 3) := by decide +kernel
theorem dX11_liesAsTold_33 : decode cX11_liesAsTold 33 = .ok (.getfield 139, 3) := by decide +kernel
theorem dX11_liesAsTold_36 : decode cX11_liesAsTold 36 = .ok (.iload_n 1, 1) := by decide +kernel
theorem dX11_liesAsTold_37 : decode cX11_liesAsTold 37 = .ok (.iaload, 1) := by decide +kernel
theorem dX11_liesAsTold_38 : decode cX11_liesAsTold 38 = .ok (.aload_n 0, 1) := by decide +kernel
theorem dX11_liesAsTold_39 : decode cX11_liesAsTold 39 = .ok (.getfield 64, 3) := by decide +kernel
theorem dX11_liesAsTold_42 : decode cX11_liesAsTold 42 = .ok (.iload_n 2, 1) := by decide +kernel
theorem dX11_liesAsTold_43 : decode cX11_liesAsTold 43 = .ok (.aaload, 1) := by decide +kernel
theorem dX11_liesAsTold_44 : decode cX11_liesAsTold 44 = .ok (.iload_n 3, 1) := by decide +kernel
theorem dX11_liesAsTold_45 : decode cX11_liesAsTold 45 = .ok (.iaload, 1) := by decide +kernel
theorem dX11_liesAsTold_46 : decode cX11_liesAsTold 46 = .ok (.if_icmp .eq 5, 3) := by decide +kernel
theorem dX11_liesAsTold_49 : decode cX11_liesAsTold 49 = .ok (.iconst 0, 1) := by decide +kernel
theorem dX11_liesAsTold_50 : decode cX11_liesAsTold 50 = .ok (.ireturn, 1) := by decide +kernel
theorem dX11_liesAsTold_51 : decode cX11_liesAsTold 51 = .ok (.iinc 3 1, 3) := by decide +kernel
theorem dX11_liesAsTold_54 : decode cX11_liesAsTold 54 = .ok (.goto (-52), 3) := by decide +kernel
theorem dX11_liesAsTold_57 : decode cX11_liesAsTold 57 = .ok (.iconst 1, 1) := by decide +kernel
theorem dX11_liesAsTold_58 : decode cX11_liesAsTold 58 = .ok (.ireturn, 1) := by decide +kernel
theorem dX11_isHeir_0 : decode cX11_isHeir 0 = .ok (.iload_n 1, 1) := by decide +kernel
theorem dX11_isHeir_1 : decode cX11_isHeir 1 = .ok (.ifCond .lt 24, 3) := by decide +kernel
theorem dX11_isHeir_4 : decode cX11_isHeir 4 = .ok (.iload_n 1, 1) := by decide +kernel
theorem dX11_isHeir_5 : decode cX11_isHeir 5 = .ok (.aload_n 0, 1) := by decide +kernel
theorem dX11_isHeir_6 : decode cX11_isHeir 6 = .ok (.getfield 35, 3) := by decide +kernel
theorem dX11_isHeir_9 : decode cX11_isHeir 9 = .ok (.getfield 116, 3) := by decide +kernel
theorem dX11_isHeir_12 : decode cX11_isHeir 12 = .ok (.if_icmp .ge 13, 3) := by decide +kernel
theorem dX11_isHeir_15 : decode cX11_isHeir 15 = .ok (.iload_n 1, 1) := by decide +kernel
theorem dX11_isHeir_16 : decode cX11_isHeir 16 = .ok (.bipush 8, 2) := by decide +kernel
theorem dX11_isHeir_18 : decode cX11_isHeir 18 = .ok (.if_icmp .ge 7, 3) := by decide +kernel
theorem dX11_isHeir_21 : decode cX11_isHeir 21 = .ok (.iconst 1, 1) := by decide +kernel
theorem dX11_isHeir_22 : decode cX11_isHeir 22 = .ok (.goto 4, 3) := by decide +kernel
theorem dX11_isHeir_25 : decode cX11_isHeir 25 = .ok (.iconst 0, 1) := by decide +kernel
theorem dX11_isHeir_26 : decode cX11_isHeir 26 = .ok (.ireturn, 1) := by decide +kernel
theorem dX11_isSetOfHeirs_0 : decode cX11_isSetOfHeirs 0 = .ok (.iload_n 1, 1) := by decide +kernel
theorem dX11_isSetOfHeirs_1 : decode cX11_isSetOfHeirs 1 = .ok (.ifCond .lt 20, 3) := by decide +kernel
theorem dX11_isSetOfHeirs_4 : decode cX11_isSetOfHeirs 4 = .ok (.iload_n 1, 1) := by decide +kernel
theorem dX11_isSetOfHeirs_5 : decode cX11_isSetOfHeirs 5 = .ok (.iconst 1, 1) := by decide +kernel
theorem dX11_isSetOfHeirs_6 : decode cX11_isSetOfHeirs 6 = .ok (.aload_n 0, 1) := by decide +kernel
theorem dX11_isSetOfHeirs_7 : decode cX11_isSetOfHeirs 7 = .ok (.getfield 35, 3) := by decide +kernel
theorem dX11_isSetOfHeirs_10 : decode cX11_isSetOfHeirs 10 = .ok (.getfield 116, 3) := by decide +kernel
theorem dX11_isSetOfHeirs_13 : decode cX11_isSetOfHeirs 13 = .ok (.ishl, 1) := by decide +kernel
theorem dX11_isSetOfHeirs_14 : decode cX11_isSetOfHeirs 14 = .ok (.if_icmp .ge 7, 3) := by decide +kernel
theorem dX11_isSetOfHeirs_17 : decode cX11_isSetOfHeirs 17 = .ok (.iconst 1, 1) := by decide +kernel
theorem dX11_isSetOfHeirs_18 : decode cX11_isSetOfHeirs 18 = .ok (.goto 4, 3) := by decide +kernel
theorem dX11_isSetOfHeirs_21 : decode cX11_isSetOfHeirs 21 = .ok (.iconst 0, 1) := by decide +kernel
theorem dX11_isSetOfHeirs_22 : decode cX11_isSetOfHeirs 22 = .ok (.ireturn, 1) := by decide +kernel
theorem dX11_isMissing_0 : decode cX11_isMissing 0 = .ok (.aload_n 0, 1) := by decide +kernel
theorem dX11_isMissing_1 : decode cX11_isMissing 1 = .ok (.getfield 67, 3) := by decide +kernel
theorem dX11_isMissing_4 : decode cX11_isMissing 4 = .ok (.iload_n 1, 1) := by decide +kernel
theorem dX11_isMissing_5 : decode cX11_isMissing 5 = .ok (.iaload, 1) := by decide +kernel
theorem dX11_isMissing_6 : decode cX11_isMissing 6 = .ok (.ifCond .ne 7, 3) := by decide +kernel
theorem dX11_isMissing_9 : decode cX11_isMissing 9 = .ok (.iconst 1, 1) := by decide +kernel
theorem dX11_isMissing_10 : decode cX11_isMissing 10 = .ok (.goto 4, 3) := by decide +kernel
theorem dX11_isMissing_13 : decode cX11_isMissing 13 = .ok (.iconst 0, 1) := by decide +kernel
theorem dX11_isMissing_14 : decode cX11_isMissing 14 = .ok (.ireturn, 1) := by decide +kernel
theorem dX11_stand_0 : decode cX11_stand 0 = .ok (.iload_n 3, 1) := by decide +kernel
theorem dX11_stand_1 : decode cX11_stand 1 = .ok (.ifCond .lt 33, 3) := by decide +kernel
theorem dX11_stand_4 : decode cX11_stand 4 = .ok (.iload_n 2, 1) := by decide +kernel
theorem dX11_stand_5 : decode cX11_stand 5 = .ok (.ifCond .lt 29, 3) := by decide +kernel
theorem dX11_stand_8 : decode cX11_stand 8 = .ok (.iload_n 3, 1) := by decide +kernel
theorem dX11_stand_9 : decode cX11_stand 9 = .ok (.aload_n 0, 1) := by decide +kernel
theorem dX11_stand_10 : decode cX11_stand 10 = .ok (.getfield 71, 3) := by decide +kernel
theorem dX11_stand_13 : decode cX11_stand 13 = .ok (.iload_n 1, 1) := by decide +kernel
theorem dX11_stand_14 : decode cX11_stand 14 = .ok (.iaload, 1) := by decide +kernel
theorem dX11_stand_15 : decode cX11_stand 15 = .ok (.if_icmp .gt 19, 3) := by decide +kernel
theorem dX11_stand_18 : decode cX11_stand 18 = .ok (.iload_n 2, 1) := by decide +kernel
theorem dX11_stand_19 : decode cX11_stand 19 = .ok (.aload_n 0, 1) := by decide +kernel
theorem dX11_stand_20 : decode cX11_stand 20 = .ok (.getfield 71, 3) := by decide +kernel
theorem dX11_stand_23 : decode cX11_stand 23 = .ok (.iload_n 1, 1) := by decide +kernel
theorem dX11_stand_24 : decode cX11_stand 24 = .ok (.iaload, 1) := by decide +kernel
theorem dX11_stand_25 : decode cX11_stand 25 = .ok (.iload_n 3, 1) := by decide +kernel
theorem dX11_stand_26 : decode cX11_stand 26 = .ok (.isub, 1) := by decide +kernel
theorem dX11_stand_27 : decode cX11_stand 27 = .ok (.if_icmp .gt 7, 3) := by decide +kernel
theorem dX11_stand_30 : decode cX11_stand 30 = .ok (.iconst 1, 1) := by decide +kernel
theorem dX11_stand_31 : decode cX11_stand 31 = .ok (.goto 4, 3) := by decide +kernel
theorem dX11_stand_34 : decode cX11_stand 34 = .ok (.iconst 0, 1) := by decide +kernel
theorem dX11_stand_35 : decode cX11_stand 35 = .ok (.ireturn, 1) := by decide +kernel
theorem dX11_lowestBits_0 : decode cX11_lowestBits 0 = .ok (.iload_n 0, 1) := by decide +kernel
theorem dX11_lowestBits_1 : decode cX11_lowestBits 1 = .ok (.bipush 8, 2) := by decide +kernel
theorem dX11_lowestBits_3 : decode cX11_lowestBits 3 = .ok (.if_icmp .ne 8, 3) := by decide +kernel
theorem dX11_lowestBits_6 : decode cX11_lowestBits 6 = .ok (.iload_n 1, 1) := by decide +kernel
theorem dX11_lowestBits_7 : decode cX11_lowestBits 7 = .ok (.i2b, 1) := by decide +kernel
theorem dX11_lowestBits_8 : decode cX11_lowestBits 8 = .ok (.goto 15, 3) := by decide +kernel
theorem dX11_lowestBits_11 : decode cX11_lowestBits 11 = .ok (.iload_n 0, 1) := by decide +kernel
theorem dX11_lowestBits_12 : decode cX11_lowestBits 12 = .ok (.bipush 16, 2) := by decide +kernel
theorem dX11_lowestBits_14 : decode cX11_lowestBits 14 = .ok (.if_icmp .ne 8, 3) := by decide +kernel
theorem dX11_lowestBits_17 : decode cX11_lowestBits 17 = .ok (.iload_n 1, 1) := by decide +kernel
theorem dX11_lowestBits_18 : decode cX11_lowestBits 18 = .ok (.i2s, 1) := by decide +kernel
theorem dX11_lowestBits_19 : decode cX11_lowestBits 19 = .ok (.goto 4, 3) := by decide +kernel
theorem dX11_lowestBits_22 : decode cX11_lowestBits 22 = .ok (.iload_n 1, 1) := by decide +kernel
theorem dX11_lowestBits_23 : decode cX11_lowestBits 23 = .ok (.ireturn, 1) := by decide +kernel
theorem dX11_isOfHeir_0 : decode cX11_isOfHeir 0 = .ok (.iload_n 0, 1) := by decide +kernel
theorem dX11_isOfHeir_1 : decode cX11_isOfHeir 1 = .ok (.tableswitch 53 0 3 #[31, 36, 31, 44], 31) := by decide +kernel
theorem dX11_isOfHeir_32 : decode cX11_isOfHeir 32 = .ok (.iload_n 1, 1) := by decide +kernel
theorem dX11_isOfHeir_33 : decode cX11_isOfHeir 33 = .ok (.invokestatic 77, 3) := by decide +kernel
theorem dX11_isOfHeir_36 : decode cX11_isOfHeir 36 = .ok (.ireturn, 1) := by decide +kernel
theorem dX11_isOfHeir_37 : decode cX11_isOfHeir 37 = .ok (.iload_n 1, 1) := by decide +kernel
theorem dX11_isOfHeir_38 : decode cX11_isOfHeir 38 = .ok (.iconst 0, 1) := by decide +kernel
theorem dX11_isOfHeir_39 : decode cX11_isOfHeir 39 = .ok (.bipush 99, 2) := by decide +kernel
theorem dX11_isOfHeir_41 : decode cX11_isOfHeir 41 = .ok (.invokestatic 86, 3) := by decide +kernel
theorem dX11_isOfHeir_44 : decode cX11_isOfHeir 44 = .ok (.ireturn, 1) := by decide +kernel
theorem dX11_isOfHeir_45 : decode cX11_isOfHeir 45 = .ok (.iload_n 1, 1) := by decide +kernel
theorem dX11_isOfHeir_46 : decode cX11_isOfHeir 46 = .ok (.iconst 0, 1) := by decide +kernel
theorem dX11_isOfHeir_47 : decode cX11_isOfHeir 47 = .ok (.sipush 9999, 3) := by decide +kernel
theorem dX11_isOfHeir_50 : decode cX11_isOfHeir 50 = .ok (.invokestatic 86, 3) := by decide +kernel
theorem dX11_isOfHeir_53 : decode cX11_isOfHeir 53 = .ok (.ireturn, 1) := by decide +kernel
theorem dX11_isOfHeir_54 : decode cX11_isOfHeir 54 = .ok (.iconst 0, 1) := by decide +kernel
theorem dX11_isOfHeir_55 : decode cX11_isOfHeir 55 = .ok (.ireturn, 1) := by decide +kernel
theorem dX11_isSill_0 : decode cX11_isSill 0 = .ok (.iload_n 0, 1) := by decide +kernel
theorem dX11_isSill_1 : decode cX11_isSill 1 = .ok (.iconst 0, 1) := by decide +kernel
theorem dX11_isSill_2 : decode cX11_isSill 2 = .ok (.bipush 15, 2) := by decide +kernel
theorem dX11_isSill_4 : decode cX11_isSill 4 = .ok (.invokestatic 86, 3) := by decide +kernel
theorem dX11_isSill_7 : decode cX11_isSill 7 = .ok (.ireturn, 1) := by decide +kernel
theorem dX11_isSheet_0 : decode cX11_isSheet 0 = .ok (.iload_n 0, 1) := by decide +kernel
theorem dX11_isSheet_1 : decode cX11_isSheet 1 = .ok (.iconst 0, 1) := by decide +kernel
theorem dX11_isSheet_2 : decode cX11_isSheet 2 = .ok (.iconst 3, 1) := by decide +kernel
theorem dX11_isSheet_3 : decode cX11_isSheet 3 = .ok (.invokestatic 86, 3) := by decide +kernel
theorem dX11_isSheet_6 : decode cX11_isSheet 6 = .ok (.ireturn, 1) := by decide +kernel
theorem dX11_isKindAndNumber_0 : decode cX11_isKindAndNumber 0 = .ok (.iload_n 0, 1) := by decide +kernel
theorem dX11_isKindAndNumber_1 : decode cX11_isKindAndNumber 1 = .ok (.iconst 0, 1) := by decide +kernel
theorem dX11_isKindAndNumber_2 : decode cX11_isKindAndNumber 2 = .ok (.bipush 69, 2) := by decide +kernel
theorem dX11_isKindAndNumber_4 : decode cX11_isKindAndNumber 4 = .ok (.invokestatic 86, 3) := by decide +kernel
theorem dX11_isKindAndNumber_7 : decode cX11_isKindAndNumber 7 = .ok (.ireturn, 1) := by decide +kernel
theorem dX11_within_0 : decode cX11_within 0 = .ok (.iload_n 0, 1) := by decide +kernel
theorem dX11_within_1 : decode cX11_within 1 = .ok (.iload_n 1, 1) := by decide +kernel
theorem dX11_within_2 : decode cX11_within 2 = .ok (.if_icmp .lt 12, 3) := by decide +kernel
theorem dX11_within_5 : decode cX11_within 5 = .ok (.iload_n 0, 1) := by decide +kernel
theorem dX11_within_6 : decode cX11_within 6 = .ok (.iload_n 2, 1) := by decide +kernel
theorem dX11_within_7 : decode cX11_within 7 = .ok (.if_icmp .gt 7, 3) := by decide +kernel
theorem dX11_within_10 : decode cX11_within 10 = .ok (.iconst 1, 1) := by decide +kernel
theorem dX11_within_11 : decode cX11_within 11 = .ok (.goto 4, 3) := by decide +kernel
theorem dX11_within_14 : decode cX11_within 14 = .ok (.iconst 0, 1) := by decide +kernel
theorem dX11_within_15 : decode cX11_within 15 = .ok (.ireturn, 1) := by decide +kernel
theorem dX11_isOrIsUnder_0 : decode cX11_isOrIsUnder 0 = .ok (.iload_n 0, 1) := by decide +kernel
theorem dX11_isOrIsUnder_1 : decode cX11_isOrIsUnder 1 = .ok (.istore_n 2, 1) := by decide +kernel
theorem dX11_isOrIsUnder_2 : decode cX11_isOrIsUnder 2 = .ok (.iconst 0, 1) := by decide +kernel
theorem dX11_isOrIsUnder_3 : decode cX11_isOrIsUnder 3 = .ok (.istore_n 3, 1) := by decide +kernel
theorem dX11_isOrIsUnder_4 : decode cX11_isOrIsUnder 4 = .ok (.iload_n 3, 1) := by decide +kernel
theorem dX11_isOrIsUnder_5 : decode cX11_isOrIsUnder 5 = .ok (.bipush 7, 2) := by decide +kernel
theorem dX11_isOrIsUnder_7 : decode cX11_isOrIsUnder 7 = .ok (.if_icmp .ge 32, 3) := by decide +kernel
theorem dX11_isOrIsUnder_10 : decode cX11_isOrIsUnder 10 = .ok (.iload_n 2, 1) := by decide +kernel
theorem dX11_isOrIsUnder_11 : decode cX11_isOrIsUnder 11 = .ok (.iconst 0, 1) := by decide +kernel
theorem dX11_isOrIsUnder_12 : decode cX11_isOrIsUnder 12 = .ok (.bipush 6, 2) := by decide +kernel
theorem dX11_isOrIsUnder_14 : decode cX11_isOrIsUnder 14 = .ok (.invokestatic 86, 3) := by decide +kernel
theorem dX11_isOrIsUnder_17 : decode cX11_isOrIsUnder 17 = .ok (.ifCond .eq 22, 3) := by decide +kernel
theorem dX11_isOrIsUnder_20 : decode cX11_isOrIsUnder 20 = .ok (.iload_n 2, 1) := by decide +kernel
theorem dX11_isOrIsUnder_21 : decode cX11_isOrIsUnder 21 = .ok (.iload_n 1, 1) := by decide +kernel
theorem dX11_isOrIsUnder_22 : decode cX11_isOrIsUnder 22 = .ok (.if_icmp .ne 5, 3) := by decide +kernel
theorem dX11_isOrIsUnder_25 : decode cX11_isOrIsUnder 25 = .ok (.iconst 1, 1) := by decide +kernel
theorem dX11_isOrIsUnder_26 : decode cX11_isOrIsUnder 26 = .ok (.ireturn, 1) := by decide +kernel
theorem dX11_isOrIsUnder_27 : decode cX11_isOrIsUnder 27 = .ok (.getstatic 324, 3) := by decide +kernel
theorem dX11_isOrIsUnder_30 : decode cX11_isOrIsUnder 30 = .ok (.iload_n 2, 1) := by decide +kernel
theorem dX11_isOrIsUnder_31 : decode cX11_isOrIsUnder 31 = .ok (.iaload, 1) := by decide +kernel
theorem dX11_isOrIsUnder_32 : decode cX11_isOrIsUnder 32 = .ok (.istore_n 2, 1) := by decide +kernel
theorem dX11_isOrIsUnder_33 : decode cX11_isOrIsUnder 33 = .ok (.iinc 3 1, 3) := by decide +kernel
theorem dX11_isOrIsUnder_36 : decode cX11_isOrIsUnder 36 = .ok (.goto (-32), 3) := by decide +kernel
theorem dX11_isOrIsUnder_39 : decode cX11_isOrIsUnder 39 = .ok (.iconst 0, 1) := by decide +kernel
theorem dX11_isOrIsUnder_40 : decode cX11_isOrIsUnder 40 = .ok (.ireturn, 1) := by decide +kernel
theorem dX11_leastOf_0 : decode cX11_leastOf 0 = .ok (.iconst 0, 1) := by decide +kernel
theorem dX11_leastOf_1 : decode cX11_leastOf 1 = .ok (.istore_n 1, 1) := by decide +kernel
theorem dX11_leastOf_2 : decode cX11_leastOf 2 = .ok (.iload_n 1, 1) := by decide +kernel
theorem dX11_leastOf_3 : decode cX11_leastOf 3 = .ok (.bipush 8, 2) := by decide +kernel
theorem dX11_leastOf_5 : decode cX11_leastOf 5 = .ok (.if_icmp .ge 17, 3) := by decide +kernel
theorem dX11_leastOf_8 : decode cX11_leastOf 8 = .ok (.iload_n 0, 1) := by decide +kernel
theorem dX11_leastOf_9 : decode cX11_leastOf 9 = .ok (.iload_n 1, 1) := by decide +kernel
theorem dX11_leastOf_10 : decode cX11_leastOf 10 = .ok (.ishr, 1) := by decide +kernel
theorem dX11_leastOf_11 : decode cX11_leastOf 11 = .ok (.iconst 1, 1) := by decide +kernel
theorem dX11_leastOf_12 : decode cX11_leastOf 12 = .ok (.iand, 1) := by decide +kernel
theorem dX11_leastOf_13 : decode cX11_leastOf 13 = .ok (.ifCond .ne 9, 3) := by decide +kernel
theorem dX11_leastOf_16 : decode cX11_leastOf 16 = .ok (.iinc 1 1, 3) := by decide +kernel
theorem dX11_leastOf_19 : decode cX11_leastOf 19 = .ok (.goto (-17), 3) := by decide +kernel
theorem dX11_leastOf_22 : decode cX11_leastOf 22 = .ok (.iload_n 1, 1) := by decide +kernel
theorem dX11_leastOf_23 : decode cX11_leastOf 23 = .ok (.ireturn, 1) := by decide +kernel
theorem dX11_greatestDivisor_0 : decode cX11_greatestDivisor 0 = .ok (.iload_n 1, 1) := by decide +kernel
theorem dX11_greatestDivisor_1 : decode cX11_greatestDivisor 1 = .ok (.istore_n 2, 1) := by decide +kernel
theorem dX11_greatestDivisor_2 : decode cX11_greatestDivisor 2 = .ok (.iload_n 2, 1) := by decide +kernel
theorem dX11_greatestDivisor_3 : decode cX11_greatestDivisor 3 = .ok (.iconst 1, 1) := by decide +kernel
theorem dX11_greatestDivisor_4 : decode cX11_greatestDivisor 4 = .ok (.if_icmp .le 23, 3) := by decide +kernel
theorem dX11_greatestDivisor_7 : decode cX11_greatestDivisor 7 = .ok (.iload_n 0, 1) := by decide +kernel
theorem dX11_greatestDivisor_8 : decode cX11_greatestDivisor 8 = .ok (.iload_n 2, 1) := by decide +kernel
theorem dX11_greatestDivisor_9 : decode cX11_greatestDivisor 9 = .ok (.irem, 1) := by decide +kernel
theorem dX11_greatestDivisor_10 : decode cX11_greatestDivisor 10 = .ok (.ifCond .ne 11, 3) := by decide +kernel
theorem dX11_greatestDivisor_13 : decode cX11_greatestDivisor 13 = .ok (.iload_n 1, 1) := by decide +kernel
theorem dX11_greatestDivisor_14 : decode cX11_greatestDivisor 14 = .ok (.iload_n 2, 1) := by decide +kernel
theorem dX11_greatestDivisor_15 : decode cX11_greatestDivisor 15 = .ok (.irem, 1) := by decide +kernel
theorem dX11_greatestDivisor_16 : decode cX11_greatestDivisor 16 = .ok (.ifCond .ne 5, 3) := by decide +kernel
theorem dX11_greatestDivisor_19 : decode cX11_greatestDivisor 19 = .ok (.iload_n 2, 1) := by decide +kernel
theorem dX11_greatestDivisor_20 : decode cX11_greatestDivisor 20 = .ok (.ireturn, 1) := by decide +kernel
theorem dX11_greatestDivisor_21 : decode cX11_greatestDivisor 21 = .ok (.iinc 2 (-1), 3) := by decide +kernel
theorem dX11_greatestDivisor_24 : decode cX11_greatestDivisor 24 = .ok (.goto (-22), 3) := by decide +kernel
theorem dX11_greatestDivisor_27 : decode cX11_greatestDivisor 27 = .ok (.iconst 1, 1) := by decide +kernel
theorem dX11_greatestDivisor_28 : decode cX11_greatestDivisor 28 = .ok (.ireturn, 1) := by decide +kernel
theorem dX11_sumOf_0 : decode cX11_sumOf 0 = .ok (.iconst 0, 1) := by decide +kernel
theorem dX11_sumOf_1 : decode cX11_sumOf 1 = .ok (.istore_n 2, 1) := by decide +kernel
theorem dX11_sumOf_2 : decode cX11_sumOf 2 = .ok (.iconst 0, 1) := by decide +kernel
theorem dX11_sumOf_3 : decode cX11_sumOf 3 = .ok (.istore_n 3, 1) := by decide +kernel
theorem dX11_sumOf_4 : decode cX11_sumOf 4 = .ok (.iload_n 3, 1) := by decide +kernel
theorem dX11_sumOf_5 : decode cX11_sumOf 5 = .ok (.iload_n 1, 1) := by decide +kernel
theorem dX11_sumOf_6 : decode cX11_sumOf 6 = .ok (.if_icmp .ge 21, 3) := by decide +kernel
theorem dX11_sumOf_9 : decode cX11_sumOf 9 = .ok (.iload_n 3, 1) := by decide +kernel
theorem dX11_sumOf_10 : decode cX11_sumOf 10 = .ok (.aload_n 0, 1) := by decide +kernel
theorem dX11_sumOf_11 : decode cX11_sumOf 11 = .ok (.arraylength, 1) := by decide +kernel
theorem dX11_sumOf_12 : decode cX11_sumOf 12 = .ok (.if_icmp .ge 15, 3) := by decide +kernel
theorem dX11_sumOf_15 : decode cX11_sumOf 15 = .ok (.iload_n 2, 1) := by decide +kernel
theorem dX11_sumOf_16 : decode cX11_sumOf 16 = .ok (.aload_n 0, 1) := by decide +kernel
theorem dX11_sumOf_17 : decode cX11_sumOf 17 = .ok (.iload_n 3, 1) := by decide +kernel
theorem dX11_sumOf_18 : decode cX11_sumOf 18 = .ok (.iaload, 1) := by decide +kernel
theorem dX11_sumOf_19 : decode cX11_sumOf 19 = .ok (.iadd, 1) := by decide +kernel
theorem dX11_sumOf_20 : decode cX11_sumOf 20 = .ok (.istore_n 2, 1) := by decide +kernel
theorem dX11_sumOf_21 : decode cX11_sumOf 21 = .ok (.iinc 3 1, 3) := by decide +kernel
theorem dX11_sumOf_24 : decode cX11_sumOf 24 = .ok (.goto (-20), 3) := by decide +kernel
theorem dX11_sumOf_27 : decode cX11_sumOf 27 = .ok (.iload_n 2, 1) := by decide +kernel
theorem dX11_sumOf_28 : decode cX11_sumOf 28 = .ok (.ireturn, 1) := by decide +kernel
end
section
theorem dX12_init_0 : decode cX12_init 0 = .ok (.aload_n 0, 1) := by decide +kernel
theorem dX12_init_1 : decode cX12_init 1 = .ok (.invokespecial 1, 3) := by decide +kernel
theorem dX12_init_4 : decode cX12_init 4 = .ok (.aload_n 0, 1) := by decide +kernel
theorem dX12_init_5 : decode cX12_init 5 = .ok (.sipush 260, 3) := by decide +kernel
theorem dX12_init_8 : decode cX12_init 8 = .ok (.newarray .int, 2) := by decide +kernel
theorem dX12_init_10 : decode cX12_init 10 = .ok (.putfield 7, 3) := by decide +kernel
theorem dX12_init_13 : decode cX12_init 13 = .ok (.aload_n 0, 1) := by decide +kernel
theorem dX12_init_14 : decode cX12_init 14 = .ok (.sipush 260, 3) := by decide +kernel
theorem dX12_init_17 : decode cX12_init 17 = .ok (.newarray .int, 2) := by decide +kernel
theorem dX12_init_19 : decode cX12_init 19 = .ok (.putfield 13, 3) := by decide +kernel
theorem dX12_init_22 : decode cX12_init 22 = .ok (.aload_n 0, 1) := by decide +kernel
theorem dX12_init_23 : decode cX12_init 23 = .ok (.bipush 88, 2) := by decide +kernel
theorem dX12_init_25 : decode cX12_init 25 = .ok (.newarray .int, 2) := by decide +kernel
theorem dX12_init_27 : decode cX12_init 27 = .ok (.putfield 16, 3) := by decide +kernel
theorem dX12_init_30 : decode cX12_init 30 = .ok (.aload_n 0, 1) := by decide +kernel
theorem dX12_init_31 : decode cX12_init 31 = .ok (.bipush 6, 2) := by decide +kernel
theorem dX12_init_33 : decode cX12_init 33 = .ok (.newarray .int, 2) := by decide +kernel
theorem dX12_init_35 : decode cX12_init 35 = .ok (.putfield 19, 3) := by decide +kernel
theorem dX12_init_38 : decode cX12_init 38 = .ok (.aload_n 0, 1) := by decide +kernel
theorem dX12_init_39 : decode cX12_init 39 = .ok (.iconst 3, 1) := by decide +kernel
theorem dX12_init_40 : decode cX12_init 40 = .ok (.newarray .int, 2) := by decide +kernel
theorem dX12_init_42 : decode cX12_init 42 = .ok (.putfield 22, 3) := by decide +kernel
theorem dX12_init_45 : decode cX12_init 45 = .ok (.aload_n 0, 1) := by decide +kernel
theorem dX12_init_46 : decode cX12_init 46 = .ok (.bipush 60, 2) := by decide +kernel
theorem dX12_init_48 : decode cX12_init 48 = .ok (.newarray .int, 2) := by decide +kernel
theorem dX12_init_50 : decode cX12_init 50 = .ok (.putfield 25, 3) := by decide +kernel
theorem dX12_init_53 : decode cX12_init 53 = .ok (.aload_n 0, 1) := by decide +kernel
theorem dX12_init_54 : decode cX12_init 54 = .ok (.bipush 60, 2) := by decide +kernel
theorem dX12_init_56 : decode cX12_init 56 = .ok (.newarray .int, 2) := by decide +kernel
theorem dX12_init_58 : decode cX12_init 58 = .ok (.putfield 28, 3) := by decide +kernel
theorem dX12_init_61 : decode cX12_init 61 = .ok (.aload_n 0, 1) := by decide +kernel
theorem dX12_init_62 : decode cX12_init 62 = .ok (.bipush 40, 2) := by decide +kernel
theorem dX12_init_64 : decode cX12_init 64 = .ok (.newarray .int, 2) := by decide +kernel
theorem dX12_init_66 : decode cX12_init 66 = .ok (.putfield 31, 3) := by decide +kernel
theorem dX12_init_69 : decode cX12_init 69 = .ok (.aload_n 0, 1) := by decide +kernel
theorem dX12_init_70 : decode cX12_init 70 = .ok (.iconst 4, 1) := by decide +kernel
theorem dX12_init_71 : decode cX12_init 71 = .ok (.newarray .int, 2) := by decide +kernel
theorem dX12_init_73 : decode cX12_init 73 = .ok (.putfield 34, 3) := by decide +kernel
theorem dX12_init_76 : decode cX12_init 76 = .ok (.aload_n 0, 1) := by decide +kernel
theorem dX12_init_77 : decode cX12_init 77 = .ok (.iconst 4, 1) := by decide +kernel
theorem dX12_init_78 : decode cX12_init 78 = .ok (.newarray .int, 2) := by decide +kernel
theorem dX12_init_80 : decode cX12_init 80 = .ok (.putfield 37, 3) := by decide +kernel
theorem dX12_init_83 : decode cX12_init 83 = .ok (.aload_n 0, 1) := by decide +kernel
theorem dX12_init_84 : decode cX12_init 84 = .ok (.sipush 160, 3) := by decide +kernel
theorem dX12_init_87 : decode cX12_init 87 = .ok (.newarray .int, 2) := by decide +kernel
theorem dX12_init_89 : decode cX12_init 89 = .ok (.putfield 40, 3) := by decide +kernel
theorem dX12_init_92 : decode cX12_init 92 = .ok (.aload_n 0, 1) := by decide +kernel
theorem dX12_init_93 : decode cX12_init 93 = .ok (.bipush 40, 2) := by decide +kernel
theorem dX12_init_95 : decode cX12_init 95 = .ok (.newarray .int, 2) := by decide +kernel
theorem dX12_init_97 : decode cX12_init 97 = .ok (.putfield 43, 3) := by decide +kernel
theorem dX12_init_100 : decode cX12_init 100 = .ok (.aload_n 0, 1) := by decide +kernel
theorem dX12_init_101 : decode cX12_init 101 = .ok (.getfield 7, 3) := by decide +kernel
theorem dX12_init_104 : decode cX12_init 104 = .ok (.iconst 2, 1) := by decide +kernel
theorem dX12_init_105 : decode cX12_init 105 = .ok (.iconst 1, 1) := by decide +kernel
theorem dX12_init_106 : decode cX12_init 106 = .ok (.iastore, 1) := by decide +kernel
theorem dX12_init_107 : decode cX12_init 107 = .ok (.aload_n 0, 1) := by decide +kernel
theorem dX12_init_108 : decode cX12_init 108 = .ok (.getfield 7, 3) := by decide +kernel
theorem dX12_init_111 : decode cX12_init 111 = .ok (.iconst 3, 1) := by decide +kernel
theorem dX12_init_112 : decode cX12_init 112 = .ok (.bipush 7, 2) := by decide +kernel
theorem dX12_init_114 : decode cX12_init 114 = .ok (.iastore, 1) := by decide +kernel
theorem dX12_init_115 : decode cX12_init 115 = .ok (.aload_n 0, 1) := by decide +kernel
theorem dX12_init_116 : decode cX12_init 116 = .ok (.getfield 7, 3) := by decide +kernel
theorem dX12_init_119 : decode cX12_init 119 = .ok (.iconst 5, 1) := by decide +kernel
theorem dX12_init_120 : decode cX12_init 120 = .ok (.iconst 1, 1) := by decide +kernel
theorem dX12_init_121 : decode cX12_init 121 = .ok (.iastore, 1) := by decide +kernel
theorem dX12_init_122 : decode cX12_init 122 = .ok (.iconst 0, 1) := by decide +kernel
theorem dX12_init_123 : decode cX12_init 123 = .ok (.istore_n 1, 1) := by decide +kernel
theorem dX12_init_124 : decode cX12_init 124 = .ok (.iload_n 1, 1) := by decide +kernel
theorem dX12_init_125 : decode cX12_init 125 = .ok (.bipush 16, 2) := by decide +kernel
theorem dX12_init_127 : decode cX12_init 127 = .ok (.if_icmp .ge 34, 3) := by decide +kernel
theorem dX12_init_130 : decode cX12_init 130 = .ok (.aload_n 0, 1) := by decide +kernel
theorem dX12_init_131 : decode cX12_init 131 = .ok (.getfield 7, 3) := by decide +kernel
theorem dX12_init_134 : decode cX12_init 134 = .ok (.bipush 8, 2) := by decide +kernel
theorem dX12_init_136 : decode cX12_init 136 = .ok (.iload_n 1, 1) := by decide +kernel
theorem dX12_init_137 : decode cX12_init 137 = .ok (.iadd, 1) := by decide +kernel
theorem dX12_init_138 : decode cX12_init 138 = .ok (.iconst 3, 1) := by decide +kernel
theorem dX12_init_139 : decode cX12_init 139 = .ok (.iastore, 1) := by decide +kernel
theorem dX12_init_140 : decode cX12_init 140 = .ok (.aload_n 0, 1) := by decide +kernel
theorem dX12_init_141 : decode cX12_init 141 = .ok (.getfield 7, 3) := by decide +kernel
theorem dX12_init_144 : decode cX12_init 144 = .ok (.bipush 24, 2) := by decide +kernel
theorem dX12_init_146 : decode cX12_init 146 = .ok (.iload_n 1, 1) := by decide +kernel
theorem dX12_init_147 : decode cX12_init 147 = .ok (.iadd, 1) := by decide +kernel
theorem dX12_init_148 : decode cX12_init 148 = .ok (.iload_n 1, 1) := by decide +kernel
theorem dX12_init_149 : decode cX12_init 149 = .ok (.iconst 1, 1) := by decide +kernel
theorem dX12_init_150 : decode cX12_init 150 = .ok (.iadd, 1) := by decide +kernel
theorem dX12_init_151 : decode cX12_init 151 = .ok (.bipush 16, 2) := by decide +kernel
theorem dX12_init_153 : decode cX12_init 153 = .ok (.irem, 1) := by decide +kernel
theorem dX12_init_154 : decode cX12_init 154 = .ok (.iastore, 1) := by decide +kernel
theorem dX12_init_155 : decode cX12_init 155 = .ok (.iinc 1 1, 3) := by decide +kernel
theorem dX12_init_158 : decode cX12_init 158 = .ok (.goto (-34), 3) := by decide +kernel
theorem dX12_init_161 : decode cX12_init 161 = .ok (.return_, 1) := by decide +kernel
theorem dX12_finds_0 : decode cX12_finds 0 = .ok (.aload_n 0, 1) := by decide +kernel
theorem dX12_finds_1 : decode cX12_finds 1 = .ok (.getfield 19, 3) := by decide +kernel
theorem dX12_finds_4 : decode cX12_finds 4 = .ok (.iload_n 1, 1) := by decide +kernel
theorem dX12_finds_5 : decode cX12_finds 5 = .ok (.dup2, 1) := by decide +kernel
theorem dX12_finds_6 : decode cX12_finds 6 = .ok (.iaload, 1) := by decide +kernel
theorem dX12_finds_7 : decode cX12_finds 7 = .ok (.iconst 1, 1) := by decide +kernel
theorem dX12_finds_8 : decode cX12_finds 8 = .ok (.iadd, 1) := by decide +kernel
theorem dX12_finds_9 : decode cX12_finds 9 = .ok (.iastore, 1) := by decide +kernel
theorem dX12_finds_10 : decode cX12_finds 10 = .ok (.ldc 46, 2) := by decide +kernel
theorem dX12_finds_12 : decode cX12_finds 12 = .ok (.iload_n 1, 1) := by decide +kernel
theorem dX12_finds_13 : decode cX12_finds 13 = .ok (.isub, 1) := by decide +kernel
theorem dX12_finds_14 : decode cX12_finds 14 = .ok (.ireturn, 1) := by decide +kernel
theorem dX12_in_0 : decode cX12_in 0 = .ok (.lload_n 0, 1) := by decide +kernel
theorem dX12_in_1 : decode cX12_in 1 = .ok (.lload_n 2, 1) := by decide +kernel
theorem dX12_in_2 : decode cX12_in 2 = .ok (.lcmp, 1) := by decide +kernel
theorem dX12_in_3 : decode cX12_in 3 = .ok (.ifCond .lt 14, 3) := by decide +kernel
theorem dX12_in_6 : decode cX12_in 6 = .ok (.lload_n 0, 1) := by decide +kernel
theorem dX12_in_7 : decode cX12_in 7 = .ok (.lload 4, 2) := by decide +kernel
theorem dX12_in_9 : decode cX12_in 9 = .ok (.lcmp, 1) := by decide +kernel
theorem dX12_in_10 : decode cX12_in 10 = .ok (.ifCond .gt 7, 3) := by decide +kernel
theorem dX12_in_13 : decode cX12_in 13 = .ok (.iconst 1, 1) := by decide +kernel
theorem dX12_in_14 : decode cX12_in 14 = .ok (.goto 4, 3) := by decide +kernel
theorem dX12_in_17 : decode cX12_in 17 = .ok (.iconst 0, 1) := by decide +kernel
theorem dX12_in_18 : decode cX12_in 18 = .ok (.ireturn, 1) := by decide +kernel
theorem dX12_held_0 : decode cX12_held 0 = .ok (.iload_n 0, 1) := by decide +kernel
theorem dX12_held_1 : decode cX12_held 1 = .ok (.iload_n 1, 1) := by decide +kernel
theorem dX12_held_2 : decode cX12_held 2 = .ok (.if_icmp .ge 7, 3) := by decide +kernel
theorem dX12_held_5 : decode cX12_held 5 = .ok (.iload_n 1, 1) := by decide +kernel
theorem dX12_held_6 : decode cX12_held 6 = .ok (.goto 13, 3) := by decide +kernel
theorem dX12_held_9 : decode cX12_held 9 = .ok (.iload_n 0, 1) := by decide +kernel
theorem dX12_held_10 : decode cX12_held 10 = .ok (.iload_n 2, 1) := by decide +kernel
theorem dX12_held_11 : decode cX12_held 11 = .ok (.if_icmp .le 7, 3) := by decide +kernel
theorem dX12_held_14 : decode cX12_held 14 = .ok (.iload_n 2, 1) := by decide +kernel
theorem dX12_held_15 : decode cX12_held 15 = .ok (.goto 4, 3) := by decide +kernel
theorem dX12_held_18 : decode cX12_held 18 = .ok (.iload_n 0, 1) := by decide +kernel
theorem dX12_held_19 : decode cX12_held 19 = .ok (.ireturn, 1) := by decide +kernel
theorem dX12_isHeir_0 : decode cX12_isHeir 0 = .ok (.iload_n 1, 1) := by decide +kernel
theorem dX12_isHeir_1 : decode cX12_isHeir 1 = .ok (.i2l, 1) := by decide +kernel
theorem dX12_isHeir_2 : decode cX12_isHeir 2 = .ok (.lconst 0, 1) := by decide +kernel
theorem dX12_isHeir_3 : decode cX12_isHeir 3 = .ok (.aload_n 0, 1) := by decide +kernel
theorem dX12_isHeir_4 : decode cX12_isHeir 4 = .ok (.getfield 7, 3) := by decide +kernel
theorem dX12_isHeir_7 : decode cX12_isHeir 7 = .ok (.iconst 0, 1) := by decide +kernel
theorem dX12_isHeir_8 : decode cX12_isHeir 8 = .ok (.iaload, 1) := by decide +kernel
theorem dX12_isHeir_9 : decode cX12_isHeir 9 = .ok (.iconst 1, 1) := by decide +kernel
theorem dX12_isHeir_10 : decode cX12_isHeir 10 = .ok (.isub, 1) := by decide +kernel
theorem dX12_isHeir_11 : decode cX12_isHeir 11 = .ok (.i2l, 1) := by decide +kernel
theorem dX12_isHeir_12 : decode cX12_isHeir 12 = .ok (.invokestatic 47, 3) := by decide +kernel
theorem dX12_isHeir_15 : decode cX12_isHeir 15 = .ok (.ireturn, 1) := by decide +kernel
theorem dX12_isSill_0 : decode cX12_isSill 0 = .ok (.iload_n 0, 1) := by decide +kernel
theorem dX12_isSill_1 : decode cX12_isSill 1 = .ok (.i2l, 1) := by decide +kernel
theorem dX12_isSill_2 : decode cX12_isSill 2 = .ok (.lconst 0, 1) := by decide +kernel
theorem dX12_isSill_3 : decode cX12_isSill 3 = .ok (.ldc2_w 51, 3) := by decide +kernel
theorem dX12_isSill_6 : decode cX12_isSill 6 = .ok (.invokestatic 47, 3) := by decide +kernel
theorem dX12_isSill_9 : decode cX12_isSill 9 = .ok (.ireturn, 1) := by decide +kernel
theorem dX12_of_0 : decode cX12_of 0 = .ok (.aload_n 0, 1) := by decide +kernel
theorem dX12_of_1 : decode cX12_of 1 = .ok (.getfield 7, 3) := by decide +kernel
theorem dX12_of_4 : decode cX12_of 4 = .ok (.bipush 40, 2) := by decide +kernel
theorem dX12_of_6 : decode cX12_of 6 = .ok (.bipush 6, 2) := by decide +kernel
theorem dX12_of_8 : decode cX12_of 8 = .ok (.iload_n 1, 1) := by decide +kernel
theorem dX12_of_9 : decode cX12_of 9 = .ok (.imul, 1) := by decide +kernel
theorem dX12_of_10 : decode cX12_of 10 = .ok (.iadd, 1) := by decide +kernel
theorem dX12_of_11 : decode cX12_of 11 = .ok (.iload_n 2, 1) := by decide +kernel
theorem dX12_of_12 : decode cX12_of 12 = .ok (.iadd, 1) := by decide +kernel
theorem dX12_of_13 : decode cX12_of 13 = .ok (.iaload, 1) := by decide +kernel
theorem dX12_of_14 : decode cX12_of 14 = .ok (.ireturn, 1) := by decide +kernel
theorem dX12_sets_0 : decode cX12_sets 0 = .ok (.aload_n 0, 1) := by decide +kernel
theorem dX12_sets_1 : decode cX12_sets 1 = .ok (.getfield 7, 3) := by decide +kernel
theorem dX12_sets_4 : decode cX12_sets 4 = .ok (.bipush 40, 2) := by decide +kernel
theorem dX12_sets_6 : decode cX12_sets 6 = .ok (.bipush 6, 2) := by decide +kernel
theorem dX12_sets_8 : decode cX12_sets 8 = .ok (.iload_n 1, 1) := by decide +kernel
theorem dX12_sets_9 : decode cX12_sets 9 = .ok (.imul, 1) := by decide +kernel
theorem dX12_sets_10 : decode cX12_sets 10 = .ok (.iadd, 1) := by decide +kernel
theorem dX12_sets_11 : decode cX12_sets 11 = .ok (.iload_n 2, 1) := by decide +kernel
theorem dX12_sets_12 : decode cX12_sets 12 = .ok (.iadd, 1) := by decide +kernel
theorem dX12_sets_13 : decode cX12_sets 13 = .ok (.iload_n 3, 1) := by decide +kernel
theorem dX12_sets_14 : decode cX12_sets 14 = .ok (.iastore, 1) := by decide +kernel
theorem dX12_sets_15 : decode cX12_sets 15 = .ok (.return_, 1) := by decide +kernel
theorem dX12_above_0 : decode cX12_above 0 = .ok (.iload_n 0, 1) := by decide +kernel
theorem dX12_above_1 : decode cX12_above 1 = .ok (.iconst 3, 1) := by decide +kernel
theorem dX12_above_2 : decode cX12_above 2 = .ok (.if_icmp .le 9, 3) := by decide +kernel
theorem dX12_above_5 : decode cX12_above 5 = .ok (.iload_n 0, 1) := by decide +kernel
theorem dX12_above_6 : decode cX12_above 6 = .ok (.iconst 3, 1) := by decide +kernel
theorem dX12_above_7 : decode cX12_above 7 = .ok (.isub, 1) := by decide +kernel
theorem dX12_above_8 : decode cX12_above 8 = .ok (.goto 4, 3) := by decide +kernel
theorem dX12_above_11 : decode cX12_above 11 = .ok (.iconst 0, 1) := by decide +kernel
theorem dX12_above_12 : decode cX12_above 12 = .ok (.ireturn, 1) := by decide +kernel
theorem dX12_keepAside_0 : decode cX12_keepAside 0 = .ok (.iconst 0, 1) := by decide +kernel
theorem dX12_keepAside_1 : decode cX12_keepAside 1 = .ok (.istore_n 1, 1) := by decide +kernel
theorem dX12_keepAside_2 : decode cX12_keepAside 2 = .ok (.iload_n 1, 1) := by decide +kernel
theorem dX12_keepAside_3 : decode cX12_keepAside 3 = .ok (.bipush 88, 2) := by decide +kernel
theorem dX12_keepAside_5 : decode cX12_keepAside 5 = .ok (.if_icmp .ge 21, 3) := by decide +kernel
theorem dX12_keepAside_8 : decode cX12_keepAside 8 = .ok (.aload_n 0, 1) := by decide +kernel
theorem dX12_keepAside_9 : decode cX12_keepAside 9 = .ok (.getfield 16, 3) := by decide +kernel
theorem dX12_keepAside_12 : decode cX12_keepAside 12 = .ok (.iload_n 1, 1) := by decide +kernel
theorem dX12_keepAside_13 : decode cX12_keepAside 13 = .ok (.aload_n 0, 1) := by decide +kernel
theorem dX12_keepAside_14 : decode cX12_keepAside 14 = .ok (.getfield 7, 3) := by decide +kernel
theorem dX12_keepAside_17 : decode cX12_keepAside 17 = .ok (.iload_n 1, 1) := by decide +kernel
theorem dX12_keepAside_18 : decode cX12_keepAside 18 = .ok (.iaload, 1) := by decide +kernel
theorem dX12_keepAside_19 : decode cX12_keepAside 19 = .ok (.iastore, 1) := by decide +kernel
theorem dX12_keepAside_20 : decode cX12_keepAside 20 = .ok (.iinc 1 1, 3) := by decide +kernel
theorem dX12_keepAside_23 : decode cX12_keepAside 23 = .ok (.goto (-21), 3) := by decide +kernel
theorem dX12_keepAside_26 : decode cX12_keepAside 26 = .ok (.return_, 1) := by decide +kernel
theorem dX12_putBack_0 : decode cX12_putBack 0 = .ok (.iconst 0, 1) := by decide +kernel
theorem dX12_putBack_1 : decode cX12_putBack 1 = .ok (.istore_n 1, 1) := by decide +kernel
theorem dX12_putBack_2 : decode cX12_putBack 2 = .ok (.iload_n 1, 1) := by decide +kernel
theorem dX12_putBack_3 : decode cX12_putBack 3 = .ok (.bipush 88, 2) := by decide +kernel
theorem dX12_putBack_5 : decode cX12_putBack 5 = .ok (.if_icmp .ge 21, 3) := by decide +kernel
theorem dX12_putBack_8 : decode cX12_putBack 8 = .ok (.aload_n 0, 1) := by decide +kernel
theorem dX12_putBack_9 : decode cX12_putBack 9 = .ok (.getfield 7, 3) := by decide +kernel
theorem dX12_putBack_12 : decode cX12_putBack 12 = .ok (.iload_n 1, 1) := by decide +kernel
theorem dX12_putBack_13 : decode cX12_putBack 13 = .ok (.aload_n 0, 1) := by decide +kernel
theorem dX12_putBack_14 : decode cX12_putBack 14 = .ok (.getfield 16, 3) := by decide +kernel
theorem dX12_putBack_17 : decode cX12_putBack 17 = .ok (.iload_n 1, 1) := by decide +kernel
theorem dX12_putBack_18 : decode cX12_putBack 18 = .ok (.iaload, 1) := by decide +kernel
theorem dX12_putBack_19 : decode cX12_putBack 19 = .ok (.iastore, 1) := by decide +kernel
theorem dX12_putBack_20 : decode cX12_putBack 20 = .ok (.iinc 1 1, 3) := by decide +kernel
theorem dX12_putBack_23 : decode cX12_putBack 23 = .ok (.goto (-21), 3) := by decide +kernel
theorem dX12_putBack_26 : decode cX12_putBack 26 = .ok (.return_, 1) := by decide +kernel
theorem dX12_here_0 : decode cX12_here 0 = .ok (.aload_n 0, 1) := by decide +kernel
theorem dX12_here_1 : decode cX12_here 1 = .ok (.getfield 53, 3) := by decide +kernel
theorem dX12_here_4 : decode cX12_here 4 = .ok (.aload_n 0, 1) := by decide +kernel
theorem dX12_here_5 : decode cX12_here 5 = .ok (.getfield 57, 3) := by decide +kernel
theorem dX12_here_8 : decode cX12_here 8 = .ok (.if_icmp .ge 27, 3) := by decide +kernel
theorem dX12_here_11 : decode cX12_here 11 = .ok (.aload_n 0, 1) := by decide +kernel
theorem dX12_here_12 : decode cX12_here 12 = .ok (.getfield 60, 3) := by decide +kernel
theorem dX12_here_15 : decode cX12_here 15 = .ok (.ifCond .ge 20, 3) := by decide +kernel
theorem dX12_here_18 : decode cX12_here 18 = .ok (.aload_n 0, 1) := by decide +kernel
theorem dX12_here_19 : decode cX12_here 19 = .ok (.getfield 7, 3) := by decide +kernel
theorem dX12_here_22 : decode cX12_here 22 = .ok (.aload_n 0, 1) := by decide +kernel
theorem dX12_here_23 : decode cX12_here 23 = .ok (.getfield 63, 3) := by decide +kernel
theorem dX12_here_26 : decode cX12_here 26 = .ok (.aload_n 0, 1) := by decide +kernel
theorem dX12_here_27 : decode cX12_here 27 = .ok (.getfield 53, 3) := by decide +kernel
theorem dX12_here_30 : decode cX12_here 30 = .ok (.iadd, 1) := by decide +kernel
theorem dX12_here_31 : decode cX12_here 31 = .ok (.iaload, 1) := by decide +kernel
theorem dX12_here_32 : decode cX12_here 32 = .ok (.goto 4, 3) := by decide +kernel
theorem dX12_here_35 : decode cX12_here 35 = .ok (.iconst (-1), 1) := by decide +kernel
theorem dX12_here_36 : decode cX12_here 36 = .ok (.ireturn, 1) := by decide +kernel
theorem dX12_wrong_0 : decode cX12_wrong 0 = .ok (.aload_n 0, 1) := by decide +kernel
theorem dX12_wrong_1 : decode cX12_wrong 1 = .ok (.aload_n 0, 1) := by decide +kernel
theorem dX12_wrong_2 : decode cX12_wrong 2 = .ok (.getfield 60, 3) := by decide +kernel
theorem dX12_wrong_5 : decode cX12_wrong 5 = .ok (.ifCond .ge 10, 3) := by decide +kernel
theorem dX12_wrong_8 : decode cX12_wrong 8 = .ok (.aload_n 0, 1) := by decide +kernel
theorem dX12_wrong_9 : decode cX12_wrong 9 = .ok (.getfield 53, 3) := by decide +kernel
theorem dX12_wrong_12 : decode cX12_wrong 12 = .ok (.goto 7, 3) := by decide +kernel
theorem dX12_wrong_15 : decode cX12_wrong 15 = .ok (.aload_n 0, 1) := by decide +kernel
theorem dX12_wrong_16 : decode cX12_wrong 16 = .ok (.getfield 60, 3) := by decide +kernel
theorem dX12_wrong_19 : decode cX12_wrong 19 = .ok (.putfield 60, 3) := by decide +kernel
theorem dX12_wrong_22 : decode cX12_wrong 22 = .ok (.return_, 1) := by decide +kernel
theorem dX12_takes_0 : decode cX12_takes 0 = .ok (.aload_n 0, 1) := by decide +kernel
theorem dX12_takes_1 : decode cX12_takes 1 = .ok (.invokevirtual 66, 3) := by decide +kernel
theorem dX12_takes_4 : decode cX12_takes 4 = .ok (.iload_n 1, 1) := by decide +kernel
theorem dX12_takes_5 : decode cX12_takes 5 = .ok (.if_icmp .eq 5, 3) := by decide +kernel
theorem dX12_takes_8 : decode cX12_takes 8 = .ok (.iconst 0, 1) := by decide +kernel
theorem dX12_takes_9 : decode cX12_takes 9 = .ok (.ireturn, 1) := by decide +kernel
theorem dX12_takes_10 : decode cX12_takes 10 = .ok (.aload_n 0, 1) := by decide +kernel
theorem dX12_takes_11 : decode cX12_takes 11 = .ok (.dup, 1) := by decide +kernel
theorem dX12_takes_12 : decode cX12_takes 12 = .ok (.getfield 53, 3) := by decide +kernel
theorem dX12_takes_15 : decode cX12_takes 15 = .ok (.iconst 1, 1) := by decide +kernel
theorem dX12_takes_16 : decode cX12_takes 16 = .ok (.iadd, 1) := by decide +kernel
theorem dX12_takes_17 : decode cX12_takes 17 = .ok (.putfield 53, 3) := by decide +kernel
theorem dX12_takes_20 : decode cX12_takes 20 = .ok (.iconst 1, 1) := by decide +kernel
theorem dX12_takes_21 : decode cX12_takes 21 = .ok (.ireturn, 1) := by decide +kernel
theorem dX12_nameOf_0 : decode cX12_nameOf 0 = .ok (.iload_n 1, 1) := by decide +kernel
theorem dX12_nameOf_1 : decode cX12_nameOf 1 = .ok (.aload_n 0, 1) := by decide +kernel
theorem dX12_nameOf_2 : decode cX12_nameOf 2 = .ok (.getfield 70, 3) := by decide +kernel
theorem dX12_nameOf_5 : decode cX12_nameOf 5 = .ok (.ifCond .eq 8, 3) := by decide +kernel
theorem dX12_nameOf_8 : decode cX12_nameOf 8 = .ok (.bipush 108, 2) := by decide +kernel
theorem dX12_nameOf_10 : decode cX12_nameOf 10 = .ok (.goto 5, 3) := by decide +kernel
theorem dX12_nameOf_13 : decode cX12_nameOf 13 = .ok (.bipush 99, 2) := by decide +kernel
theorem dX12_nameOf_15 : decode cX12_nameOf 15 = .ok (.if_icmp .ne 7, 3) := by decide +kernel
theorem dX12_nameOf_18 : decode cX12_nameOf 18 = .ok (.iconst 0, 1) := by decide +kernel
theorem dX12_nameOf_19 : decode cX12_nameOf 19 = .ok (.goto 48, 3) := by decide +kernel
theorem dX12_nameOf_22 : decode cX12_nameOf 22 = .ok (.iload_n 1, 1) := by decide +kernel
theorem dX12_nameOf_23 : decode cX12_nameOf 23 = .ok (.aload_n 0, 1) := by decide +kernel
theorem dX12_nameOf_24 : decode cX12_nameOf 24 = .ok (.getfield 70, 3) := by decide +kernel
theorem dX12_nameOf_27 : decode cX12_nameOf 27 = .ok (.ifCond .eq 8, 3) := by decide +kernel
theorem dX12_nameOf_30 : decode cX12_nameOf 30 = .ok (.bipush 115, 2) := by decide +kernel
theorem dX12_nameOf_32 : decode cX12_nameOf 32 = .ok (.goto 5, 3) := by decide +kernel
theorem dX12_nameOf_35 : decode cX12_nameOf 35 = .ok (.bipush 100, 2) := by decide +kernel
theorem dX12_nameOf_37 : decode cX12_nameOf 37 = .ok (.if_icmp .ne 7, 3) := by decide +kernel
theorem dX12_nameOf_40 : decode cX12_nameOf 40 = .ok (.iconst 1, 1) := by decide +kernel
theorem dX12_nameOf_41 : decode cX12_nameOf 41 = .ok (.goto 26, 3) := by decide +kernel
theorem dX12_nameOf_44 : decode cX12_nameOf 44 = .ok (.iload_n 1, 1) := by decide +kernel
theorem dX12_nameOf_45 : decode cX12_nameOf 45 = .ok (.aload_n 0, 1) := by decide +kernel
theorem dX12_nameOf_46 : decode cX12_nameOf 46 = .ok (.getfield 70, 3) := by decide +kernel
theorem dX12_nameOf_49 : decode cX12_nameOf 49 = .ok (.ifCond .eq 8, 3) := by decide +kernel
theorem dX12_nameOf_52 : decode cX12_nameOf 52 = .ok (.bipush 100, 2) := by decide +kernel
theorem dX12_nameOf_54 : decode cX12_nameOf 54 = .ok (.goto 5, 3) := by decide +kernel
theorem dX12_nameOf_57 : decode cX12_nameOf 57 = .ok (.bipush 112, 2) := by decide +kernel
theorem dX12_nameOf_59 : decode cX12_nameOf 59 = .ok (.if_icmp .ne 7, 3) := by decide +kernel
theorem dX12_nameOf_62 : decode cX12_nameOf 62 = .ok (.iconst 2, 1) := by decide +kernel
theorem dX12_nameOf_63 : decode cX12_nameOf 63 = .ok (.goto 4, 3) := by decide +kernel
theorem dX12_nameOf_66 : decode cX12_nameOf 66 = .ok (.iconst (-1), 1) := by decide +kernel
theorem dX12_nameOf_67 : decode cX12_nameOf 67 = .ok (.ireturn, 1) := by decide +kernel
theorem dX12_lay_0 : decode cX12_lay 0 = .ok (.aload_n 0, 1) := by decide +kernel
theorem dX12_lay_1 : decode cX12_lay 1 = .ok (.getfield 60, 3) := by decide +kernel
theorem dX12_lay_4 : decode cX12_lay 4 = .ok (.ifCond .ge 23, 3) := by decide +kernel
theorem dX12_lay_7 : decode cX12_lay 7 = .ok (.aload_n 0, 1) := by decide +kernel
theorem dX12_lay_8 : decode cX12_lay 8 = .ok (.getfield 25, 3) := by decide +kernel
theorem dX12_lay_11 : decode cX12_lay 11 = .ok (.aload_n 0, 1) := by decide +kernel
theorem dX12_lay_12 : decode cX12_lay 12 = .ok (.getfield 74, 3) := by decide +kernel
theorem dX12_lay_15 : decode cX12_lay 15 = .ok (.iload_n 1, 1) := by decide +kernel
theorem dX12_lay_16 : decode cX12_lay 16 = .ok (.iastore, 1) := by decide +kernel
theorem dX12_lay_17 : decode cX12_lay 17 = .ok (.aload_n 0, 1) := by decide +kernel
theorem dX12_lay_18 : decode cX12_lay 18 = .ok (.dup, 1) := by decide +kernel
theorem dX12_lay_19 : decode cX12_lay 19 = .ok (.getfield 74, 3) := by decide +kernel
theorem dX12_lay_22 : decode cX12_lay 22 = .ok (.iconst 1, 1) := by decide +kernel
theorem dX12_lay_23 : decode cX12_lay 23 = .ok (.iadd, 1) := by decide +kernel
theorem dX12_lay_24 : decode cX12_lay 24 = .ok (.putfield 74, 3) := by decide +kernel
theorem dX12_lay_27 : decode cX12_lay 27 = .ok (.return_, 1) := by decide +kernel
theorem dX12_either_0 : decode cX12_either 0 = .ok (.aload_n 0, 1) := by decide +kernel
theorem dX12_either_1 : decode cX12_either 1 = .ok (.invokevirtual 77, 3) := by decide +kernel
theorem dX12_either_4 : decode cX12_either 4 = .ok (.aload_n 0, 1) := by decide +kernel
theorem dX12_either_5 : decode cX12_either 5 = .ok (.bipush 124, 2) := by decide +kernel
theorem dX12_either_7 : decode cX12_either 7 = .ok (.invokevirtual 80, 3) := by decide +kernel
theorem dX12_either_10 : decode cX12_either 10 = .ok (.ifCond .eq 17, 3) := by decide +kernel
theorem dX12_either_13 : decode cX12_either 13 = .ok (.aload_n 0, 1) := by decide +kernel
theorem dX12_either_14 : decode cX12_either 14 = .ok (.invokevirtual 77, 3) := by decide +kernel
theorem dX12_either_17 : decode cX12_either 17 = .ok (.aload_n 0, 1) := by decide +kernel
theorem dX12_either_18 : decode cX12_either 18 = .ok (.sipush 20124, 3) := by decide +kernel
theorem dX12_either_21 : decode cX12_either 21 = .ok (.invokevirtual 84, 3) := by decide +kernel
theorem dX12_either_24 : decode cX12_either 24 = .ok (.goto (-20), 3) := by decide +kernel
theorem dX12_either_27 : decode cX12_either 27 = .ok (.return_, 1) := by decide +kernel
theorem dX12_both_0 : decode cX12_both 0 = .ok (.aload_n 0, 1) := by decide +kernel
theorem dX12_both_1 : decode cX12_both 1 = .ok (.invokevirtual 88, 3) := by decide +kernel
theorem dX12_both_4 : decode cX12_both 4 = .ok (.aload_n 0, 1) := by decide +kernel
theorem dX12_both_5 : decode cX12_both 5 = .ok (.bipush 38, 2) := by decide +kernel
theorem dX12_both_7 : decode cX12_both 7 = .ok (.invokevirtual 80, 3) := by decide +kernel
theorem dX12_both_10 : decode cX12_both 10 = .ok (.ifCond .eq 17, 3) := by decide +kernel
theorem dX12_both_13 : decode cX12_both 13 = .ok (.aload_n 0, 1) := by decide +kernel
theorem dX12_both_14 : decode cX12_both 14 = .ok (.invokevirtual 88, 3) := by decide +kernel
theorem dX12_both_17 : decode cX12_both 17 = .ok (.aload_n 0, 1) := by decide +kernel
theorem dX12_both_18 : decode cX12_both 18 = .ok (.sipush 20038, 3) := by decide +kernel
theorem dX12_both_21 : decode cX12_both 21 = .ok (.invokevirtual 84, 3) := by decide +kernel
theorem dX12_both_24 : decode cX12_both 24 = .ok (.goto (-20), 3) := by decide +kernel
theorem dX12_both_27 : decode cX12_both 27 = .ok (.return_, 1) := by decide +kernel
theorem dX12_compared_0 : decode cX12_compared 0 = .ok (.aload_n 0, 1) := by decide +kernel
theorem dX12_compared_1 : decode cX12_compared 1 = .ok (.invokevirtual 91, 3) := by decide +kernel
theorem dX12_compared_4 : decode cX12_compared 4 = .ok (.aload_n 0, 1) := by decide +kernel
theorem dX12_compared_5 : decode cX12_compared 5 = .ok (.invokevirtual 66, 3) := by decide +kernel
theorem dX12_compared_8 : decode cX12_compared 8 = .ok (.istore_n 1, 1) := by decide +kernel
theorem dX12_compared_9 : decode cX12_compared 9 = .ok (.iload_n 1, 1) := by decide +kernel
theorem dX12_compared_10 : decode cX12_compared 10 = .ok (.bipush 60, 2) := by decide +kernel
theorem dX12_compared_12 : decode cX12_compared 12 = .ok (.if_icmp .eq 15, 3) := by decide +kernel
theorem dX12_compared_15 : decode cX12_compared 15 = .ok (.iload_n 1, 1) := by decide +kernel
theorem dX12_compared_16 : decode cX12_compared 16 = .ok (.bipush 61, 2) := by decide +kernel
theorem dX12_compared_18 : decode cX12_compared 18 = .ok (.if_icmp .eq 9, 3) := by decide +kernel
theorem dX12_compared_21 : decode cX12_compared 21 = .ok (.iload_n 1, 1) := by decide +kernel
theorem dX12_compared_22 : decode cX12_compared 22 = .ok (.bipush 62, 2) := by decide +kernel
theorem dX12_compared_24 : decode cX12_compared 24 = .ok (.if_icmp .ne 26, 3) := by decide +kernel
theorem dX12_compared_27 : decode cX12_compared 27 = .ok (.aload_n 0, 1) := by decide +kernel
theorem dX12_compared_28 : decode cX12_compared 28 = .ok (.dup, 1) := by decide +kernel
theorem dX12_compared_29 : decode cX12_compared 29 = .ok (.getfield 53, 3) := by decide +kernel
theorem dX12_compared_32 : decode cX12_compared 32 = .ok (.iconst 1, 1) := by decide +kernel
theorem dX12_compared_33 : decode cX12_compared 33 = .ok (.iadd, 1) := by decide +kernel
theorem dX12_compared_34 : decode cX12_compared 34 = .ok (.putfield 53, 3) := by decide +kernel
theorem dX12_compared_37 : decode cX12_compared 37 = .ok (.aload_n 0, 1) := by decide +kernel
theorem dX12_compared_38 : decode cX12_compared 38 = .ok (.invokevirtual 91, 3) := by decide +kernel
theorem dX12_compared_41 : decode cX12_compared 41 = .ok (.aload_n 0, 1) := by decide +kernel
theorem dX12_compared_42 : decode cX12_compared 42 = .ok (.sipush 20000, 3) := by decide +kernel
theorem dX12_compared_45 : decode cX12_compared 45 = .ok (.iload_n 1, 1) := by decide +kernel
theorem dX12_compared_46 : decode cX12_compared 46 = .ok (.iadd, 1) := by decide +kernel
theorem dX12_compared_47 : decode cX12_compared 47 = .ok (.invokevirtual 84, 3) := by decide +kernel
theorem dX12_compared_50 : decode cX12_compared 50 = .ok (.return_, 1) := by decide +kernel
theorem dX12_sum_0 : decode cX12_sum 0 = .ok (.aload_n 0, 1) := by decide +kernel
theorem dX12_sum_1 : decode cX12_sum 1 = .ok (.invokevirtual 94, 3) := by decide +kernel
theorem dX12_sum_4 : decode cX12_sum 4 = .ok (.aload_n 0, 1) := by decide +kernel
theorem dX12_sum_5 : decode cX12_sum 5 = .ok (.invokevirtual 66, 3) := by decide +kernel
theorem dX12_sum_8 : decode cX12_sum 8 = .ok (.bipush 43, 2) := by decide +kernel
theorem dX12_sum_10 : decode cX12_sum 10 = .ok (.if_icmp .eq 12, 3) := by decide +kernel
theorem dX12_sum_13 : decode cX12_sum 13 = .ok (.aload_n 0, 1) := by decide +kernel
theorem dX12_sum_14 : decode cX12_sum 14 = .ok (.invokevirtual 66, 3) := by decide +kernel
theorem dX12_sum_17 : decode cX12_sum 17 = .ok (.bipush 45, 2) := by decide +kernel
theorem dX12_sum_19 : decode cX12_sum 19 = .ok (.if_icmp .ne 34, 3) := by decide +kernel
theorem dX12_sum_22 : decode cX12_sum 22 = .ok (.aload_n 0, 1) := by decide +kernel
theorem dX12_sum_23 : decode cX12_sum 23 = .ok (.invokevirtual 66, 3) := by decide +kernel
theorem dX12_sum_26 : decode cX12_sum 26 = .ok (.istore_n 1, 1) := by decide +kernel
theorem dX12_sum_27 : decode cX12_sum 27 = .ok (.aload_n 0, 1) := by decide +kernel
theorem dX12_sum_28 : decode cX12_sum 28 = .ok (.dup, 1) := by decide +kernel
theorem dX12_sum_29 : decode cX12_sum 29 = .ok (.getfield 53, 3) := by decide +kernel
theorem dX12_sum_32 : decode cX12_sum 32 = .ok (.iconst 1, 1) := by decide +kernel
theorem dX12_sum_33 : decode cX12_sum 33 = .ok (.iadd, 1) := by decide +kernel
theorem dX12_sum_34 : decode cX12_sum 34 = .ok (.putfield 53, 3) := by decide +kernel
theorem dX12_sum_37 : decode cX12_sum 37 = .ok (.aload_n 0, 1) := by decide +kernel
theorem dX12_sum_38 : decode cX12_sum 38 = .ok (.invokevirtual 94, 3) := by decide +kernel
theorem dX12_sum_41 : decode cX12_sum 41 = .ok (.aload_n 0, 1) := by decide +kernel
theorem dX12_sum_42 : decode cX12_sum 42 = .ok (.sipush 20000, 3) := by decide +kernel
theorem dX12_sum_45 : decode cX12_sum 45 = .ok (.iload_n 1, 1) := by decide +kernel
theorem dX12_sum_46 : decode cX12_sum 46 = .ok (.iadd, 1) := by decide +kernel
theorem dX12_sum_47 : decode cX12_sum 47 = .ok (.invokevirtual 84, 3) := by decide +kernel
theorem dX12_sum_50 : decode cX12_sum 50 = .ok (.goto (-46), 3) := by decide +kernel
theorem dX12_sum_53 : decode cX12_sum 53 = .ok (.return_, 1) := by decide +kernel
theorem dX12_product_0 : decode cX12_product 0 = .ok (.aload_n 0, 1) := by decide +kernel
theorem dX12_product_1 : decode cX12_product 1 = .ok (.invokevirtual 97, 3) := by decide +kernel
theorem dX12_product_4 : decode cX12_product 4 = .ok (.aload_n 0, 1) := by decide +kernel
theorem dX12_product_5 : decode cX12_product 5 = .ok (.invokevirtual 66, 3) := by decide +kernel
theorem dX12_product_8 : decode cX12_product 8 = .ok (.bipush 42, 2) := by decide +kernel
theorem dX12_product_10 : decode cX12_product 10 = .ok (.if_icmp .eq 21, 3) := by decide +kernel
theorem dX12_product_13 : decode cX12_product 13 = .ok (.aload_n 0, 1) := by decide +kernel
theorem dX12_product_14 : decode cX12_product 14 = .ok (.invokevirtual 66, 3) := by decide +kernel
theorem dX12_product_17 : decode cX12_product 17 = .ok (.bipush 47, 2) := by decide +kernel
theorem dX12_product_19 : decode cX12_product 19 = .ok (.if_icmp .eq 12, 3) := by decide +kernel
theorem dX12_product_22 : decode cX12_product 22 = .ok (.aload_n 0, 1) := by decide +kernel
theorem dX12_product_23 : decode cX12_product 23 = .ok (.invokevirtual 66, 3) := by decide +kernel
theorem dX12_product_26 : decode cX12_product 26 = .ok (.bipush 37, 2) := by decide +kernel
theorem dX12_product_28 : decode cX12_product 28 = .ok (.if_icmp .ne 34, 3) := by decide +kernel
theorem dX12_product_31 : decode cX12_product 31 = .ok (.aload_n 0, 1) := by decide +kernel
theorem dX12_product_32 : decode cX12_product 32 = .ok (.invokevirtual 66, 3) := by decide +kernel
theorem dX12_product_35 : decode cX12_product 35 = .ok (.istore_n 1, 1) := by decide +kernel
theorem dX12_product_36 : decode cX12_product 36 = .ok (.aload_n 0, 1) := by decide +kernel
theorem dX12_product_37 : decode cX12_product 37 = .ok (.dup, 1) := by decide +kernel
theorem dX12_product_38 : decode cX12_product 38 = .ok (.getfield 53, 3) := by decide +kernel
theorem dX12_product_41 : decode cX12_product 41 = .ok (.iconst 1, 1) := by decide +kernel
theorem dX12_product_42 : decode cX12_product 42 = .ok (.iadd, 1) := by decide +kernel
theorem dX12_product_43 : decode cX12_product 43 = .ok (.putfield 53, 3) := by decide +kernel
theorem dX12_product_46 : decode cX12_product 46 = .ok (.aload_n 0, 1) := by decide +kernel
theorem dX12_product_47 : decode cX12_product 47 = .ok (.invokevirtual 97, 3) := by decide +kernel
theorem dX12_product_50 : decode cX12_product 50 = .ok (.aload_n 0, 1) := by decide +kernel
theorem dX12_product_51 : decode cX12_product 51 = .ok (.sipush 20000, 3) := by decide +kernel
theorem dX12_product_54 : decode cX12_product 54 = .ok (.iload_n 1, 1) := by decide +kernel
theorem dX12_product_55 : decode cX12_product 55 = .ok (.iadd, 1) := by decide +kernel
theorem dX12_product_56 : decode cX12_product 56 = .ok (.invokevirtual 84, 3) := by decide +kernel
theorem dX12_product_59 : decode cX12_product 59 = .ok (.goto (-55), 3) := by decide +kernel
theorem dX12_product_62 : decode cX12_product 62 = .ok (.return_, 1) := by decide +kernel
theorem dX12_opens_0 : decode cX12_opens 0 = .ok (.aload_n 0, 1) := by decide +kernel
theorem dX12_opens_1 : decode cX12_opens 1 = .ok (.getfield 100, 3) := by decide +kernel
theorem dX12_opens_4 : decode cX12_opens 4 = .ok (.iconst 5, 1) := by decide +kernel
theorem dX12_opens_5 : decode cX12_opens 5 = .ok (.if_icmp .ne 8, 3) := by decide +kernel
theorem dX12_opens_8 : decode cX12_opens 8 = .ok (.aload_n 0, 1) := by decide +kernel
theorem dX12_opens_9 : decode cX12_opens 9 = .ok (.invokevirtual 103, 3) := by decide +kernel
theorem dX12_opens_12 : decode cX12_opens 12 = .ok (.return_, 1) := by decide +kernel
theorem dX12_opens_13 : decode cX12_opens 13 = .ok (.aload_n 0, 1) := by decide +kernel
theorem dX12_opens_14 : decode cX12_opens 14 = .ok (.dup, 1) := by decide +kernel
theorem dX12_opens_15 : decode cX12_opens 15 = .ok (.getfield 100, 3) := by decide +kernel
theorem dX12_opens_18 : decode cX12_opens 18 = .ok (.iconst 1, 1) := by decide +kernel
theorem dX12_opens_19 : decode cX12_opens 19 = .ok (.iadd, 1) := by decide +kernel
theorem dX12_opens_20 : decode cX12_opens 20 = .ok (.putfield 100, 3) := by decide +kernel
theorem dX12_opens_23 : decode cX12_opens 23 = .ok (.aload_n 0, 1) := by decide +kernel
theorem dX12_opens_24 : decode cX12_opens 24 = .ok (.dup, 1) := by decide +kernel
theorem dX12_opens_25 : decode cX12_opens 25 = .ok (.getfield 53, 3) := by decide +kernel
theorem dX12_opens_28 : decode cX12_opens 28 = .ok (.iconst 1, 1) := by decide +kernel
theorem dX12_opens_29 : decode cX12_opens 29 = .ok (.iadd, 1) := by decide +kernel
theorem dX12_opens_30 : decode cX12_opens 30 = .ok (.putfield 53, 3) := by decide +kernel
theorem dX12_opens_33 : decode cX12_opens 33 = .ok (.iload_n 1, 1) := by decide +kernel
theorem dX12_opens_34 : decode cX12_opens 34 = .ok (.bipush 33, 2) := by decide +kernel
theorem dX12_opens_36 : decode cX12_opens 36 = .ok (.if_icmp .ne 17, 3) := by decide +kernel
theorem dX12_opens_39 : decode cX12_opens 39 = .ok (.aload_n 0, 1) := by decide +kernel
theorem dX12_opens_40 : decode cX12_opens 40 = .ok (.invokevirtual 97, 3) := by decide +kernel
theorem dX12_opens_43 : decode cX12_opens 43 = .ok (.aload_n 0, 1) := by decide +kernel
theorem dX12_opens_44 : decode cX12_opens 44 = .ok (.sipush 20033, 3) := by decide +kernel
theorem dX12_opens_47 : decode cX12_opens 47 = .ok (.invokevirtual 84, 3) := by decide +kernel
theorem dX12_opens_50 : decode cX12_opens 50 = .ok (.goto 20, 3) := by decide +kernel
theorem dX12_opens_53 : decode cX12_opens 53 = .ok (.aload_n 0, 1) := by decide +kernel
theorem dX12_opens_54 : decode cX12_opens 54 = .ok (.invokevirtual 106, 3) := by decide +kernel
theorem dX12_opens_57 : decode cX12_opens 57 = .ok (.aload_n 0, 1) := by decide +kernel
theorem dX12_opens_58 : decode cX12_opens 58 = .ok (.bipush 41, 2) := by decide +kernel
theorem dX12_opens_60 : decode cX12_opens 60 = .ok (.invokevirtual 80, 3) := by decide +kernel
theorem dX12_opens_63 : decode cX12_opens 63 = .ok (.ifCond .ne 7, 3) := by decide +kernel
theorem dX12_opens_66 : decode cX12_opens 66 = .ok (.aload_n 0, 1) := by decide +kernel
theorem dX12_opens_67 : decode cX12_opens 67 = .ok (.invokevirtual 103, 3) := by decide +kernel
theorem dX12_opens_70 : decode cX12_opens 70 = .ok (.aload_n 0, 1) := by decide +kernel
theorem dX12_opens_71 : decode cX12_opens 71 = .ok (.dup, 1) := by decide +kernel
theorem dX12_opens_72 : decode cX12_opens 72 = .ok (.getfield 100, 3) := by decide +kernel
theorem dX12_opens_75 : decode cX12_opens 75 = .ok (.iconst 1, 1) := by decide +kernel
theorem dX12_opens_76 : decode cX12_opens 76 = .ok (.isub, 1) := by decide +kernel
theorem dX12_opens_77 : decode cX12_opens 77 = .ok (.putfield 100, 3) := by decide +kernel
theorem dX12_opens_80 : decode cX12_opens 80 = .ok (.return_, 1) := by decide +kernel
theorem dX12_unit_0 : decode cX12_unit 0 = .ok (.aload_n 0, 1) := by decide +kernel
theorem dX12_unit_1 : decode cX12_unit 1 = .ok (.invokevirtual 66, 3) := by decide +kernel
theorem dX12_unit_4 : decode cX12_unit 4 = .ok (.istore_n 1, 1) := by decide +kernel
theorem dX12_unit_5 : decode cX12_unit 5 = .ok (.iload_n 1, 1) := by decide +kernel
theorem dX12_unit_6 : decode cX12_unit 6 = .ok (.bipush 33, 2) := by decide +kernel
theorem dX12_unit_8 : decode cX12_unit 8 = .ok (.if_icmp .eq 9, 3) := by decide +kernel
theorem dX12_unit_11 : decode cX12_unit 11 = .ok (.iload_n 1, 1) := by decide +kernel
theorem dX12_unit_12 : decode cX12_unit 12 = .ok (.bipush 40, 2) := by decide +kernel
theorem dX12_unit_14 : decode cX12_unit 14 = .ok (.if_icmp .ne 9, 3) := by decide +kernel
theorem dX12_unit_17 : decode cX12_unit 17 = .ok (.aload_n 0, 1) := by decide +kernel
theorem dX12_unit_18 : decode cX12_unit 18 = .ok (.iload_n 1, 1) := by decide +kernel
theorem dX12_unit_19 : decode cX12_unit 19 = .ok (.invokevirtual 109, 3) := by decide +kernel
theorem dX12_unit_22 : decode cX12_unit 22 = .ok (.return_, 1) := by decide +kernel
theorem dX12_unit_23 : decode cX12_unit 23 = .ok (.aload_n 0, 1) := by decide +kernel
theorem dX12_unit_24 : decode cX12_unit 24 = .ok (.iload_n 1, 1) := by decide +kernel
theorem dX12_unit_25 : decode cX12_unit 25 = .ok (.invokevirtual 112, 3) := by decide +kernel
theorem dX12_unit_28 : decode cX12_unit 28 = .ok (.istore_n 2, 1) := by decide +kernel
theorem dX12_unit_29 : decode cX12_unit 29 = .ok (.iload_n 2, 1) := by decide +kernel
theorem dX12_unit_30 : decode cX12_unit 30 = .ok (.ifCond .lt 23, 3) := by decide +kernel
theorem dX12_unit_33 : decode cX12_unit 33 = .ok (.aload_n 0, 1) := by decide +kernel
theorem dX12_unit_34 : decode cX12_unit 34 = .ok (.dup, 1) := by decide +kernel
theorem dX12_unit_35 : decode cX12_unit 35 = .ok (.getfield 53, 3) := by decide +kernel
theorem dX12_unit_38 : decode cX12_unit 38 = .ok (.iconst 1, 1) := by decide +kernel
theorem dX12_unit_39 : decode cX12_unit 39 = .ok (.iadd, 1) := by decide +kernel
theorem dX12_unit_40 : decode cX12_unit 40 = .ok (.putfield 53, 3) := by decide +kernel
theorem dX12_unit_43 : decode cX12_unit 43 = .ok (.aload_n 0, 1) := by decide +kernel
theorem dX12_unit_44 : decode cX12_unit 44 = .ok (.sipush 10000, 3) := by decide +kernel
theorem dX12_unit_47 : decode cX12_unit 47 = .ok (.iload_n 2, 1) := by decide +kernel
theorem dX12_unit_48 : decode cX12_unit 48 = .ok (.iadd, 1) := by decide +kernel
theorem dX12_unit_49 : decode cX12_unit 49 = .ok (.invokevirtual 84, 3) := by decide +kernel
theorem dX12_unit_52 : decode cX12_unit 52 = .ok (.return_, 1) := by decide +kernel
theorem dX12_unit_53 : decode cX12_unit 53 = .ok (.iconst 0, 1) := by decide +kernel
theorem dX12_unit_54 : decode cX12_unit 54 = .ok (.istore_n 3, 1) := by decide +kernel
theorem dX12_unit_55 : decode cX12_unit 55 = .ok (.iconst 0, 1) := by decide +kernel
theorem dX12_unit_56 : decode cX12_unit 56 = .ok (.istore 4, 2) := by decide +kernel
theorem dX12_unit_58 : decode cX12_unit 58 = .ok (.iload 4, 2) := by decide +kernel
theorem dX12_unit_60 : decode cX12_unit 60 = .ok (.iconst 4, 1) := by decide +kernel
theorem dX12_unit_61 : decode cX12_unit 61 = .ok (.if_icmp .ge 49, 3) := by decide +kernel
theorem dX12_unit_64 : decode cX12_unit 64 = .ok (.aload_n 0, 1) := by decide +kernel
theorem dX12_unit_65 : decode cX12_unit 65 = .ok (.invokevirtual 66, 3) := by decide +kernel
theorem dX12_unit_68 : decode cX12_unit 68 = .ok (.i2l, 1) := by decide +kernel
theorem dX12_unit_69 : decode cX12_unit 69 = .ok (.ldc2_w 116, 3) := by decide +kernel
theorem dX12_unit_72 : decode cX12_unit 72 = .ok (.ldc2_w 118, 3) := by decide +kernel
theorem dX12_unit_75 : decode cX12_unit 75 = .ok (.invokestatic 47, 3) := by decide +kernel
theorem dX12_unit_78 : decode cX12_unit 78 = .ok (.ifCond .eq 32, 3) := by decide +kernel
theorem dX12_unit_81 : decode cX12_unit 81 = .ok (.bipush 10, 2) := by decide +kernel
theorem dX12_unit_83 : decode cX12_unit 83 = .ok (.iload_n 3, 1) := by decide +kernel
theorem dX12_unit_84 : decode cX12_unit 84 = .ok (.imul, 1) := by decide +kernel
theorem dX12_unit_85 : decode cX12_unit 85 = .ok (.aload_n 0, 1) := by decide +kernel
theorem dX12_unit_86 : decode cX12_unit 86 = .ok (.invokevirtual 66, 3) := by decide +kernel
theorem dX12_unit_89 : decode cX12_unit 89 = .ok (.iadd, 1) := by decide +kernel
theorem dX12_unit_90 : decode cX12_unit 90 = .ok (.bipush 48, 2) := by decide +kernel
theorem dX12_unit_92 : decode cX12_unit 92 = .ok (.isub, 1) := by decide +kernel
theorem dX12_unit_93 : decode cX12_unit 93 = .ok (.istore_n 3, 1) := by decide +kernel
theorem dX12_unit_94 : decode cX12_unit 94 = .ok (.aload_n 0, 1) := by decide +kernel
theorem dX12_unit_95 : decode cX12_unit 95 = .ok (.dup, 1) := by decide +kernel
theorem dX12_unit_96 : decode cX12_unit 96 = .ok (.getfield 53, 3) := by decide +kernel
theorem dX12_unit_99 : decode cX12_unit 99 = .ok (.iconst 1, 1) := by decide +kernel
theorem dX12_unit_100 : decode cX12_unit 100 = .ok (.iadd, 1) := by decide +kernel
theorem dX12_unit_101 : decode cX12_unit 101 = .ok (.putfield 53, 3) := by decide +kernel
theorem dX12_unit_104 : decode cX12_unit 104 = .ok (.iinc 4 1, 3) := by decide +kernel
theorem dX12_unit_107 : decode cX12_unit 107 = .ok (.goto (-49), 3) := by decide +kernel
theorem dX12_unit_110 : decode cX12_unit 110 = .ok (.iload 4, 2) := by decide +kernel
theorem dX12_unit_112 : decode cX12_unit 112 = .ok (.ifCond .ne 7, 3) := by decide +kernel
theorem dX12_unit_115 : decode cX12_unit 115 = .ok (.aload_n 0, 1) := by decide +kernel
theorem dX12_unit_116 : decode cX12_unit 116 = .ok (.invokevirtual 103, 3) := by decide +kernel
theorem dX12_unit_119 : decode cX12_unit 119 = .ok (.aload_n 0, 1) := by decide +kernel
theorem dX12_unit_120 : decode cX12_unit 120 = .ok (.iload_n 3, 1) := by decide +kernel
theorem dX12_unit_121 : decode cX12_unit 121 = .ok (.invokevirtual 84, 3) := by decide +kernel
theorem dX12_unit_124 : decode cX12_unit 124 = .ok (.return_, 1) := by decide +kernel
theorem dX12_reads_0 : decode cX12_reads 0 = .ok (.aload_n 0, 1) := by decide +kernel
theorem dX12_reads_1 : decode cX12_reads 1 = .ok (.iload_n 1, 1) := by decide +kernel
theorem dX12_reads_2 : decode cX12_reads 2 = .ok (.putfield 63, 3) := by decide +kernel
theorem dX12_reads_5 : decode cX12_reads 5 = .ok (.aload_n 0, 1) := by decide +kernel
theorem dX12_reads_6 : decode cX12_reads 6 = .ok (.iconst 0, 1) := by decide +kernel
theorem dX12_reads_7 : decode cX12_reads 7 = .ok (.putfield 53, 3) := by decide +kernel
theorem dX12_reads_10 : decode cX12_reads 10 = .ok (.aload_n 0, 1) := by decide +kernel
theorem dX12_reads_11 : decode cX12_reads 11 = .ok (.iload_n 2, 1) := by decide +kernel
theorem dX12_reads_12 : decode cX12_reads 12 = .ok (.putfield 57, 3) := by decide +kernel
theorem dX12_reads_15 : decode cX12_reads 15 = .ok (.aload_n 0, 1) := by decide +kernel
theorem dX12_reads_16 : decode cX12_reads 16 = .ok (.iconst (-1), 1) := by decide +kernel
theorem dX12_reads_17 : decode cX12_reads 17 = .ok (.putfield 60, 3) := by decide +kernel
theorem dX12_reads_20 : decode cX12_reads 20 = .ok (.aload_n 0, 1) := by decide +kernel
theorem dX12_reads_21 : decode cX12_reads 21 = .ok (.iconst 0, 1) := by decide +kernel
theorem dX12_reads_22 : decode cX12_reads 22 = .ok (.putfield 100, 3) := by decide +kernel
theorem dX12_reads_25 : decode cX12_reads 25 = .ok (.aload_n 0, 1) := by decide +kernel
theorem dX12_reads_26 : decode cX12_reads 26 = .ok (.iconst 0, 1) := by decide +kernel
theorem dX12_reads_27 : decode cX12_reads 27 = .ok (.putfield 74, 3) := by decide +kernel
theorem dX12_reads_30 : decode cX12_reads 30 = .ok (.aload_n 0, 1) := by decide +kernel
theorem dX12_reads_31 : decode cX12_reads 31 = .ok (.iload_n 3, 1) := by decide +kernel
theorem dX12_reads_32 : decode cX12_reads 32 = .ok (.iconst 1, 1) := by decide +kernel
theorem dX12_reads_33 : decode cX12_reads 33 = .ok (.if_icmp .ne 7, 3) := by decide +kernel
theorem dX12_reads_36 : decode cX12_reads 36 = .ok (.iconst 1, 1) := by decide +kernel
theorem dX12_reads_37 : decode cX12_reads 37 = .ok (.goto 4, 3) := by decide +kernel
theorem dX12_reads_40 : decode cX12_reads 40 = .ok (.iconst 0, 1) := by decide +kernel
theorem dX12_reads_41 : decode cX12_reads 41 = .ok (.putfield 70, 3) := by decide +kernel
theorem dX12_reads_44 : decode cX12_reads 44 = .ok (.aload_n 0, 1) := by decide +kernel
theorem dX12_reads_45 : decode cX12_reads 45 = .ok (.invokevirtual 106, 3) := by decide +kernel
theorem dX12_reads_48 : decode cX12_reads 48 = .ok (.aload_n 0, 1) := by decide +kernel
theorem dX12_reads_49 : decode cX12_reads 49 = .ok (.getfield 60, 3) := by decide +kernel
theorem dX12_reads_52 : decode cX12_reads 52 = .ok (.ifCond .ge 18, 3) := by decide +kernel
theorem dX12_reads_55 : decode cX12_reads 55 = .ok (.aload_n 0, 1) := by decide +kernel
theorem dX12_reads_56 : decode cX12_reads 56 = .ok (.getfield 53, 3) := by decide +kernel
theorem dX12_reads_59 : decode cX12_reads 59 = .ok (.aload_n 0, 1) := by decide +kernel
theorem dX12_reads_60 : decode cX12_reads 60 = .ok (.getfield 57, 3) := by decide +kernel
theorem dX12_reads_63 : decode cX12_reads 63 = .ok (.if_icmp .ge 7, 3) := by decide +kernel
theorem dX12_reads_66 : decode cX12_reads 66 = .ok (.aload_n 0, 1) := by decide +kernel
theorem dX12_reads_67 : decode cX12_reads 67 = .ok (.invokevirtual 103, 3) := by decide +kernel
theorem dX12_reads_70 : decode cX12_reads 70 = .ok (.return_, 1) := by decide +kernel
theorem dX12_done_0 : decode cX12_done 0 = .ok (.iload_n 0, 1) := by decide +kernel
theorem dX12_done_1 : decode cX12_done 1 = .ok (.lookupswitch 168 #[(38, 97), (42, 152), (43, 144), (45, 148), (47, 156), (60, 111), (61, 122), (62, 133), (124, 83)], 83) := by decide +kernel
theorem dX12_done_84 : decode cX12_done 84 = .ok (.iload_n 1, 1) := by decide +kernel
theorem dX12_done_85 : decode cX12_done 85 = .ok (.ifCond .ne 7, 3) := by decide +kernel
theorem dX12_done_88 : decode cX12_done 88 = .ok (.iload_n 2, 1) := by decide +kernel
theorem dX12_done_89 : decode cX12_done 89 = .ok (.ifCond .eq 7, 3) := by decide +kernel
theorem dX12_done_92 : decode cX12_done 92 = .ok (.iconst 1, 1) := by decide +kernel
theorem dX12_done_93 : decode cX12_done 93 = .ok (.goto 4, 3) := by decide +kernel
theorem dX12_done_96 : decode cX12_done 96 = .ok (.iconst 0, 1) := by decide +kernel
theorem dX12_done_97 : decode cX12_done 97 = .ok (.ireturn, 1) := by decide +kernel
theorem dX12_done_98 : decode cX12_done 98 = .ok (.iload_n 1, 1) := by decide +kernel
theorem dX12_done_99 : decode cX12_done 99 = .ok (.ifCond .eq 11, 3) := by decide +kernel
theorem dX12_done_102 : decode cX12_done 102 = .ok (.iload_n 2, 1) := by decide +kernel
theorem dX12_done_103 : decode cX12_done 103 = .ok (.ifCond .eq 7, 3) := by decide +kernel
theorem dX12_done_106 : decode cX12_done 106 = .ok (.iconst 1, 1) := by decide +kernel
theorem dX12_done_107 : decode cX12_done 107 = .ok (.goto 4, 3) := by decide +kernel
theorem dX12_done_110 : decode cX12_done 110 = .ok (.iconst 0, 1) := by decide +kernel
theorem dX12_done_111 : decode cX12_done 111 = .ok (.ireturn, 1) := by decide +kernel
theorem dX12_done_112 : decode cX12_done 112 = .ok (.iload_n 1, 1) := by decide +kernel
theorem dX12_done_113 : decode cX12_done 113 = .ok (.iload_n 2, 1) := by decide +kernel
theorem dX12_done_114 : decode cX12_done 114 = .ok (.if_icmp .ge 7, 3) := by decide +kernel
theorem dX12_done_117 : decode cX12_done 117 = .ok (.iconst 1, 1) := by decide +kernel
theorem dX12_done_118 : decode cX12_done 118 = .ok (.goto 4, 3) := by decide +kernel
theorem dX12_done_121 : decode cX12_done 121 = .ok (.iconst 0, 1) := by decide +kernel
theorem dX12_done_122 : decode cX12_done 122 = .ok (.ireturn, 1) := by decide +kernel
theorem dX12_done_123 : decode cX12_done 123 = .ok (.iload_n 1, 1) := by decide +kernel
theorem dX12_done_124 : decode cX12_done 124 = .ok (.iload_n 2, 1) := by decide +kernel
theorem dX12_done_125 : decode cX12_done 125 = .ok (.if_icmp .ne 7, 3) := by decide +kernel
theorem dX12_done_128 : decode cX12_done 128 = .ok (.iconst 1, 1) := by decide +kernel
theorem dX12_done_129 : decode cX12_done 129 = .ok (.goto 4, 3) := by decide +kernel
theorem dX12_done_132 : decode cX12_done 132 = .ok (.iconst 0, 1) := by decide +kernel
theorem dX12_done_133 : decode cX12_done 133 = .ok (.ireturn, 1) := by decide +kernel
theorem dX12_done_134 : decode cX12_done 134 = .ok (.iload_n 1, 1) := by decide +kernel
theorem dX12_done_135 : decode cX12_done 135 = .ok (.iload_n 2, 1) := by decide +kernel
theorem dX12_done_136 : decode cX12_done 136 = .ok (.if_icmp .le 7, 3) := by decide +kernel
theorem dX12_done_139 : decode cX12_done 139 = .ok (.iconst 1, 1) := by decide +kernel
theorem dX12_done_140 : decode cX12_done 140 = .ok (.goto 4, 3) := by decide +kernel
theorem dX12_done_143 : decode cX12_done 143 = .ok (.iconst 0, 1) := by decide +kernel
theorem dX12_done_144 : decode cX12_done 144 = .ok (.ireturn, 1) := by decide +kernel
theorem dX12_done_145 : decode cX12_done 145 = .ok (.iload_n 1, 1) := by decide +kernel
theorem dX12_done_146 : decode cX12_done 146 = .ok (.iload_n 2, 1) := by decide +kernel
theorem dX12_done_147 : decode cX12_done 147 = .ok (.iadd, 1) := by decide +kernel
theorem dX12_done_148 : decode cX12_done 148 = .ok (.ireturn, 1) := by decide +kernel
theorem dX12_done_149 : decode cX12_done 149 = .ok (.iload_n 1, 1) := by decide +kernel
theorem dX12_done_150 : decode cX12_done 150 = .ok (.iload_n 2, 1) := by decide +kernel
theorem dX12_done_151 : decode cX12_done 151 = .ok (.isub, 1) := by decide +kernel
theorem dX12_done_152 : decode cX12_done 152 = .ok (.ireturn, 1) := by decide +kernel
theorem dX12_done_153 : decode cX12_done 153 = .ok (.iload_n 1, 1) := by decide +kernel
theorem dX12_done_154 : decode cX12_done 154 = .ok (.iload_n 2, 1) := by decide +kernel
theorem dX12_done_155 : decode cX12_done 155 = .ok (.imul, 1) := by decide +kernel
theorem dX12_done_156 : decode cX12_done 156 = .ok (.ireturn, 1) := by decide +kernel
theorem dX12_done_157 : decode cX12_done 157 = .ok (.iload_n 2, 1) := by decide +kernel
theorem dX12_done_158 : decode cX12_done 158 = .ok (.ifCond .ne 7, 3) := by decide +kernel
theorem dX12_done_161 : decode cX12_done 161 = .ok (.iconst 0, 1) := by decide +kernel
theorem dX12_done_162 : decode cX12_done 162 = .ok (.goto 6, 3) := by decide +kernel
theorem dX12_done_165 : decode cX12_done 165 = .ok (.iload_n 1, 1) := by decide +kernel
theorem dX12_done_166 : decode cX12_done 166 = .ok (.iload_n 2, 1) := by decide +kernel
theorem dX12_done_167 : decode cX12_done 167 = .ok (.idiv, 1) := by decide +kernel
theorem dX12_done_168 : decode cX12_done 168 = .ok (.ireturn, 1) := by decide +kernel
theorem dX12_done_169 : decode cX12_done 169 = .ok (.iload_n 2, 1) := by decide +kernel
theorem dX12_done_170 : decode cX12_done 170 = .ok (.ifCond .ne 7, 3) := by decide +kernel
theorem dX12_done_173 : decode cX12_done 173 = .ok (.iconst 0, 1) := by decide +kernel
theorem dX12_done_174 : decode cX12_done 174 = .ok (.goto 6, 3) := by decide +kernel
theorem dX12_done_177 : decode cX12_done 177 = .ok (.iload_n 1, 1) := by decide +kernel
theorem dX12_done_178 : decode cX12_done 178 = .ok (.iload_n 2, 1) := by decide +kernel
theorem dX12_done_179 : decode cX12_done 179 = .ok (.irem, 1) := by decide +kernel
theorem dX12_done_180 : decode cX12_done 180 = .ok (.ireturn, 1) := by decide +kernel
theorem dX12_worked_0 : decode cX12_worked 0 = .ok (.iconst 0, 1) := by decide +kernel
theorem dX12_worked_1 : decode cX12_worked 1 = .ok (.istore_n 3, 1) := by decide +kernel
theorem dX12_worked_2 : decode cX12_worked 2 = .ok (.iload_n 1, 1) := by decide +kernel
theorem dX12_worked_3 : decode cX12_worked 3 = .ok (.istore 4, 2) := by decide +kernel
theorem dX12_worked_5 : decode cX12_worked 5 = .ok (.iload 4, 2) := by decide +kernel
theorem dX12_worked_7 : decode cX12_worked 7 = .ok (.iload_n 1, 1) := by decide +kernel
theorem dX12_worked_8 : decode cX12_worked 8 = .ok (.iload_n 2, 1) := by decide +kernel
theorem dX12_worked_9 : decode cX12_worked 9 = .ok (.iadd, 1) := by decide +kernel
theorem dX12_worked_10 : decode cX12_worked 10 = .ok (.if_icmp .ge 131, 3) := by decide +kernel
theorem dX12_worked_13 : decode cX12_worked 13 = .ok (.aload_n 0, 1) := by decide +kernel
theorem dX12_worked_14 : decode cX12_worked 14 = .ok (.getfield 7, 3) := by decide +kernel
theorem dX12_worked_17 : decode cX12_worked 17 = .ok (.iload 4, 2) := by decide +kernel
theorem dX12_worked_19 : decode cX12_worked 19 = .ok (.iaload, 1) := by decide +kernel
theorem dX12_worked_20 : decode cX12_worked 20 = .ok (.istore 5, 2) := by decide +kernel
theorem dX12_worked_22 : decode cX12_worked 22 = .ok (.iload 5, 2) := by decide +kernel
theorem dX12_worked_24 : decode cX12_worked 24 = .ok (.sipush 20000, 3) := by decide +kernel
theorem dX12_worked_27 : decode cX12_worked 27 = .ok (.if_icmp .ge 39, 3) := by decide +kernel
theorem dX12_worked_30 : decode cX12_worked 30 = .ok (.aload_n 0, 1) := by decide +kernel
theorem dX12_worked_31 : decode cX12_worked 31 = .ok (.getfield 28, 3) := by decide +kernel
theorem dX12_worked_34 : decode cX12_worked 34 = .ok (.iload_n 3, 1) := by decide +kernel
theorem dX12_worked_35 : decode cX12_worked 35 = .ok (.iload 5, 2) := by decide +kernel
theorem dX12_worked_37 : decode cX12_worked 37 = .ok (.sipush 10000, 3) := by decide +kernel
theorem dX12_worked_40 : decode cX12_worked 40 = .ok (.if_icmp .ge 8, 3) := by decide +kernel
theorem dX12_worked_43 : decode cX12_worked 43 = .ok (.iload 5, 2) := by decide +kernel
theorem dX12_worked_45 : decode cX12_worked 45 = .ok (.goto 14, 3) := by decide +kernel
theorem dX12_worked_48 : decode cX12_worked 48 = .ok (.aload_n 0, 1) := by decide +kernel
theorem dX12_worked_49 : decode cX12_worked 49 = .ok (.getfield 22, 3) := by decide +kernel
theorem dX12_worked_52 : decode cX12_worked 52 = .ok (.iload 5, 2) := by decide +kernel
theorem dX12_worked_54 : decode cX12_worked 54 = .ok (.sipush 10000, 3) := by decide +kernel
theorem dX12_worked_57 : decode cX12_worked 57 = .ok (.isub, 1) := by decide +kernel
theorem dX12_worked_58 : decode cX12_worked 58 = .ok (.iaload, 1) := by decide +kernel
theorem dX12_worked_59 : decode cX12_worked 59 = .ok (.iastore, 1) := by decide +kernel
theorem dX12_worked_60 : decode cX12_worked 60 = .ok (.iinc 3 1, 3) := by decide +kernel
theorem dX12_worked_63 : decode cX12_worked 63 = .ok (.goto 72, 3) := by decide +kernel
theorem dX12_worked_66 : decode cX12_worked 66 = .ok (.iload 5, 2) := by decide +kernel
theorem dX12_worked_68 : decode cX12_worked 68 = .ok (.sipush 20033, 3) := by decide +kernel
theorem dX12_worked_71 : decode cX12_worked 71 = .ok (.if_icmp .ne 30, 3) := by decide +kernel
theorem dX12_worked_74 : decode cX12_worked 74 = .ok (.aload_n 0, 1) := by decide +kernel
theorem dX12_worked_75 : decode cX12_worked 75 = .ok (.getfield 28, 3) := by decide +kernel
theorem dX12_worked_78 : decode cX12_worked 78 = .ok (.iload_n 3, 1) := by decide +kernel
theorem dX12_worked_79 : decode cX12_worked 79 = .ok (.iconst 1, 1) := by decide +kernel
theorem dX12_worked_80 : decode cX12_worked 80 = .ok (.isub, 1) := by decide +kernel
theorem dX12_worked_81 : decode cX12_worked 81 = .ok (.aload_n 0, 1) := by decide +kernel
theorem dX12_worked_82 : decode cX12_worked 82 = .ok (.getfield 28, 3) := by decide +kernel
theorem dX12_worked_85 : decode cX12_worked 85 = .ok (.iload_n 3, 1) := by decide +kernel
theorem dX12_worked_86 : decode cX12_worked 86 = .ok (.iconst 1, 1) := by decide +kernel
theorem dX12_worked_87 : decode cX12_worked 87 = .ok (.isub, 1) := by decide +kernel
theorem dX12_worked_88 : decode cX12_worked 88 = .ok (.iaload, 1) := by decide +kernel
theorem dX12_worked_89 : decode cX12_worked 89 = .ok (.ifCond .ne 7, 3) := by decide +kernel
theorem dX12_worked_92 : decode cX12_worked 92 = .ok (.iconst 1, 1) := by decide +kernel
theorem dX12_worked_93 : decode cX12_worked 93 = .ok (.goto 4, 3) := by decide +kernel
theorem dX12_worked_96 : decode cX12_worked 96 = .ok (.iconst 0, 1) := by decide +kernel
theorem dX12_worked_97 : decode cX12_worked 97 = .ok (.iastore, 1) := by decide +kernel
theorem dX12_worked_98 : decode cX12_worked 98 = .ok (.goto 37, 3) := by decide +kernel
theorem dX12_worked_101 : decode cX12_worked 101 = .ok (.iinc 3 (-1), 3) := by decide +kernel
theorem dX12_worked_104 : decode cX12_worked 104 = .ok (.aload_n 0, 1) := by decide +kernel
theorem dX12_worked_105 : decode cX12_worked 105 = .ok (.getfield 28, 3) := by decide +kernel
theorem dX12_worked_108 : decode cX12_worked 108 = .ok (.iload_n 3, 1) := by decide +kernel
theorem dX12_worked_109 : decode cX12_worked 109 = .ok (.iconst 1, 1) := by decide +kernel
theorem dX12_worked_110 : decode cX12_worked 110 = .ok (.isub, 1) := by decide +kernel
theorem dX12_worked_111 : decode cX12_worked 111 = .ok (.iload 5, 2) := by decide +kernel
theorem dX12_worked_113 : decode cX12_worked 113 = .ok (.sipush 20000, 3) := by decide +kernel
theorem dX12_worked_116 : decode cX12_worked 116 = .ok (.isub, 1) := by decide +kernel
theorem dX12_worked_117 : decode cX12_worked 117 = .ok (.aload_n 0, 1) := by decide +kernel
theorem dX12_worked_118 : decode cX12_worked 118 = .ok (.getfield 28, 3) := by decide +kernel
theorem dX12_worked_121 : decode cX12_worked 121 = .ok (.iload_n 3, 1) := by decide +kernel
theorem dX12_worked_122 : decode cX12_worked 122 = .ok (.iconst 1, 1) := by decide +kernel
theorem dX12_worked_123 : decode cX12_worked 123 = .ok (.isub, 1) := by decide +kernel
theorem dX12_worked_124 : decode cX12_worked 124 = .ok (.iaload, 1) := by decide +kernel
theorem dX12_worked_125 : decode cX12_worked 125 = .ok (.aload_n 0, 1) := by decide +kernel
theorem dX12_worked_126 : decode cX12_worked 126 = .ok (.getfield 28, 3) := by decide +kernel
theorem dX12_worked_129 : decode cX12_worked 129 = .ok (.iload_n 3, 1) := by decide +kernel
theorem dX12_worked_130 : decode cX12_worked 130 = .ok (.iaload, 1) := by decide +kernel
theorem dX12_worked_131 : decode cX12_worked 131 = .ok (.invokestatic 120, 3) := by decide +kernel
theorem dX12_worked_134 : decode cX12_worked 134 = .ok (.iastore, 1) := by decide +kernel
theorem dX12_worked_135 : decode cX12_worked 135 = .ok (.iinc 4 1, 3) := by decide +kernel
theorem dX12_worked_138 : decode cX12_worked 138 = .ok (.goto (-133), 3) := by decide +kernel
theorem dX12_worked_141 : decode cX12_worked 141 = .ok (.aload_n 0, 1) := by decide +kernel
theorem dX12_worked_142 : decode cX12_worked 142 = .ok (.getfield 28, 3) := by decide +kernel
theorem dX12_worked_145 : decode cX12_worked 145 = .ok (.iconst 0, 1) := by decide +kernel
theorem dX12_worked_146 : decode cX12_worked 146 = .ok (.iaload, 1) := by decide +kernel
theorem dX12_worked_147 : decode cX12_worked 147 = .ok (.ireturn, 1) := by decide +kernel
theorem dX12_feed_0 : decode cX12_feed 0 = .ok (.iload_n 3, 1) := by decide +kernel
theorem dX12_feed_1 : decode cX12_feed 1 = .ok (.i2l, 1) := by decide +kernel
theorem dX12_feed_2 : decode cX12_feed 2 = .ok (.lconst 1, 1) := by decide +kernel
theorem dX12_feed_3 : decode cX12_feed 3 = .ok (.ldc2_w 124, 3) := by decide +kernel
theorem dX12_feed_6 : decode cX12_feed 6 = .ok (.invokestatic 47, 3) := by decide +kernel
theorem dX12_feed_9 : decode cX12_feed 9 = .ok (.ifCond .ne 9, 3) := by decide +kernel
theorem dX12_feed_12 : decode cX12_feed 12 = .ok (.aload_n 0, 1) := by decide +kernel
theorem dX12_feed_13 : decode cX12_feed 13 = .ok (.iconst 1, 1) := by decide +kernel
theorem dX12_feed_14 : decode cX12_feed 14 = .ok (.invokevirtual 126, 3) := by decide +kernel
theorem dX12_feed_17 : decode cX12_feed 17 = .ok (.ireturn, 1) := by decide +kernel
theorem dX12_feed_18 : decode cX12_feed 18 = .ok (.aload_n 0, 1) := by decide +kernel
theorem dX12_feed_19 : decode cX12_feed 19 = .ok (.getfield 7, 3) := by decide +kernel
theorem dX12_feed_22 : decode cX12_feed 22 = .ok (.bipush 6, 2) := by decide +kernel
theorem dX12_feed_24 : decode cX12_feed 24 = .ok (.iaload, 1) := by decide +kernel
theorem dX12_feed_25 : decode cX12_feed 25 = .ok (.iload_n 3, 1) := by decide +kernel
theorem dX12_feed_26 : decode cX12_feed 26 = .ok (.iadd, 1) := by decide +kernel
theorem dX12_feed_27 : decode cX12_feed 27 = .ok (.bipush 50, 2) := by decide +kernel
theorem dX12_feed_29 : decode cX12_feed 29 = .ok (.if_icmp .le 9, 3) := by decide +kernel
theorem dX12_feed_32 : decode cX12_feed 32 = .ok (.aload_n 0, 1) := by decide +kernel
theorem dX12_feed_33 : decode cX12_feed 33 = .ok (.iconst 4, 1) := by decide +kernel
theorem dX12_feed_34 : decode cX12_feed 34 = .ok (.invokevirtual 126, 3) := by decide +kernel
theorem dX12_feed_37 : decode cX12_feed 37 = .ok (.ireturn, 1) := by decide +kernel
theorem dX12_feed_38 : decode cX12_feed 38 = .ok (.iconst 0, 1) := by decide +kernel
theorem dX12_feed_39 : decode cX12_feed 39 = .ok (.istore 4, 2) := by decide +kernel
theorem dX12_feed_41 : decode cX12_feed 41 = .ok (.iload 4, 2) := by decide +kernel
theorem dX12_feed_43 : decode cX12_feed 43 = .ok (.iload_n 3, 1) := by decide +kernel
theorem dX12_feed_44 : decode cX12_feed 44 = .ok (.if_icmp .ge 48, 3) := by decide +kernel
theorem dX12_feed_47 : decode cX12_feed 47 = .ok (.aload_n 0, 1) := by decide +kernel
theorem dX12_feed_48 : decode cX12_feed 48 = .ok (.getfield 7, 3) := by decide +kernel
theorem dX12_feed_51 : decode cX12_feed 51 = .ok (.sipush 210, 3) := by decide +kernel
theorem dX12_feed_54 : decode cX12_feed 54 = .ok (.aload_n 0, 1) := by decide +kernel
theorem dX12_feed_55 : decode cX12_feed 55 = .ok (.getfield 7, 3) := by decide +kernel
theorem dX12_feed_58 : decode cX12_feed 58 = .ok (.bipush 6, 2) := by decide +kernel
theorem dX12_feed_60 : decode cX12_feed 60 = .ok (.iaload, 1) := by decide +kernel
theorem dX12_feed_61 : decode cX12_feed 61 = .ok (.iadd, 1) := by decide +kernel
theorem dX12_feed_62 : decode cX12_feed 62 = .ok (.lload_n 1, 1) := by decide +kernel
theorem dX12_feed_63 : decode cX12_feed 63 = .ok (.bipush 8, 2) := by decide +kernel
theorem dX12_feed_65 : decode cX12_feed 65 = .ok (.iload 4, 2) := by decide +kernel
theorem dX12_feed_67 : decode cX12_feed 67 = .ok (.imul, 1) := by decide +kernel
theorem dX12_feed_68 : decode cX12_feed 68 = .ok (.lshr, 1) := by decide +kernel
theorem dX12_feed_69 : decode cX12_feed 69 = .ok (.ldc2_w 129, 3) := by decide +kernel
theorem dX12_feed_72 : decode cX12_feed 72 = .ok (.land, 1) := by decide +kernel
theorem dX12_feed_73 : decode cX12_feed 73 = .ok (.l2i, 1) := by decide +kernel
theorem dX12_feed_74 : decode cX12_feed 74 = .ok (.iastore, 1) := by decide +kernel
theorem dX12_feed_75 : decode cX12_feed 75 = .ok (.aload_n 0, 1) := by decide +kernel
theorem dX12_feed_76 : decode cX12_feed 76 = .ok (.getfield 7, 3) := by decide +kernel
theorem dX12_feed_79 : decode cX12_feed 79 = .ok (.bipush 6, 2) := by decide +kernel
theorem dX12_feed_81 : decode cX12_feed 81 = .ok (.dup2, 1) := by decide +kernel
theorem dX12_feed_82 : decode cX12_feed 82 = .ok (.iaload, 1) := by decide +kernel
theorem dX12_feed_83 : decode cX12_feed 83 = .ok (.iconst 1, 1) := by decide +kernel
theorem dX12_feed_84 : decode cX12_feed 84 = .ok (.iadd, 1) := by decide +kernel
theorem dX12_feed_85 : decode cX12_feed 85 = .ok (.iastore, 1) := by decide +kernel
theorem dX12_feed_86 : decode cX12_feed 86 = .ok (.iinc 4 1, 3) := by decide +kernel
theorem dX12_feed_89 : decode cX12_feed 89 = .ok (.goto (-48), 3) := by decide +kernel
theorem dX12_feed_92 : decode cX12_feed 92 = .ok (.aload_n 0, 1) := by decide +kernel
theorem dX12_feed_93 : decode cX12_feed 93 = .ok (.getfield 7, 3) := by decide +kernel
theorem dX12_feed_96 : decode cX12_feed 96 = .ok (.bipush 6, 2) := by decide +kernel
theorem dX12_feed_98 : decode cX12_feed 98 = .ok (.iaload, 1) := by decide +kernel
theorem dX12_feed_99 : decode cX12_feed 99 = .ok (.ireturn, 1) := by decide +kernel
theorem dX12_text_0 : decode cX12_text 0 = .ok (.iload_n 1, 1) := by decide +kernel
theorem dX12_text_1 : decode cX12_text 1 = .ok (.i2l, 1) := by decide +kernel
theorem dX12_text_2 : decode cX12_text 2 = .ok (.lconst 0, 1) := by decide +kernel
theorem dX12_text_3 : decode cX12_text 3 = .ok (.lconst 1, 1) := by decide +kernel
theorem dX12_text_4 : decode cX12_text 4 = .ok (.invokestatic 47, 3) := by decide +kernel
theorem dX12_text_7 : decode cX12_text 7 = .ok (.ifCond .ne 9, 3) := by decide +kernel
theorem dX12_text_10 : decode cX12_text 10 = .ok (.aload_n 0, 1) := by decide +kernel
theorem dX12_text_11 : decode cX12_text 11 = .ok (.iconst 1, 1) := by decide +kernel
theorem dX12_text_12 : decode cX12_text 12 = .ok (.invokevirtual 126, 3) := by decide +kernel
theorem dX12_text_15 : decode cX12_text 15 = .ok (.ireturn, 1) := by decide +kernel
theorem dX12_text_16 : decode cX12_text 16 = .ok (.aload_n 0, 1) := by decide +kernel
theorem dX12_text_17 : decode cX12_text 17 = .ok (.getfield 7, 3) := by decide +kernel
theorem dX12_text_20 : decode cX12_text 20 = .ok (.bipush 6, 2) := by decide +kernel
theorem dX12_text_22 : decode cX12_text 22 = .ok (.iaload, 1) := by decide +kernel
theorem dX12_text_23 : decode cX12_text 23 = .ok (.istore_n 2, 1) := by decide +kernel
theorem dX12_text_24 : decode cX12_text 24 = .ok (.aload_n 0, 1) := by decide +kernel
theorem dX12_text_25 : decode cX12_text 25 = .ok (.getfield 7, 3) := by decide +kernel
theorem dX12_text_28 : decode cX12_text 28 = .ok (.bipush 6, 2) := by decide +kernel
theorem dX12_text_30 : decode cX12_text 30 = .ok (.iconst 0, 1) := by decide +kernel
theorem dX12_text_31 : decode cX12_text 31 = .ok (.iastore, 1) := by decide +kernel
theorem dX12_text_32 : decode cX12_text 32 = .ok (.aload_n 0, 1) := by decide +kernel
theorem dX12_text_33 : decode cX12_text 33 = .ok (.sipush 210, 3) := by decide +kernel
theorem dX12_text_36 : decode cX12_text 36 = .ok (.iload_n 2, 1) := by decide +kernel
theorem dX12_text_37 : decode cX12_text 37 = .ok (.iload_n 1, 1) := by decide +kernel
theorem dX12_text_38 : decode cX12_text 38 = .ok (.invokevirtual 131, 3) := by decide +kernel
theorem dX12_text_41 : decode cX12_text 41 = .ok (.aload_n 0, 1) := by decide +kernel
theorem dX12_text_42 : decode cX12_text 42 = .ok (.getfield 60, 3) := by decide +kernel
theorem dX12_text_45 : decode cX12_text 45 = .ok (.ifCond .lt 11, 3) := by decide +kernel
theorem dX12_text_48 : decode cX12_text 48 = .ok (.bipush (-10), 2) := by decide +kernel
theorem dX12_text_50 : decode cX12_text 50 = .ok (.aload_n 0, 1) := by decide +kernel
theorem dX12_text_51 : decode cX12_text 51 = .ok (.getfield 60, 3) := by decide +kernel
theorem dX12_text_54 : decode cX12_text 54 = .ok (.isub, 1) := by decide +kernel
theorem dX12_text_55 : decode cX12_text 55 = .ok (.ireturn, 1) := by decide +kernel
theorem dX12_text_56 : decode cX12_text 56 = .ok (.aload_n 0, 1) := by decide +kernel
theorem dX12_text_57 : decode cX12_text 57 = .ok (.getfield 7, 3) := by decide +kernel
theorem dX12_text_60 : decode cX12_text 60 = .ok (.bipush 88, 2) := by decide +kernel
theorem dX12_text_62 : decode cX12_text 62 = .ok (.iload_n 1, 1) := by decide +kernel
theorem dX12_text_63 : decode cX12_text 63 = .ok (.iadd, 1) := by decide +kernel
theorem dX12_text_64 : decode cX12_text 64 = .ok (.aload_n 0, 1) := by decide +kernel
theorem dX12_text_65 : decode cX12_text 65 = .ok (.getfield 74, 3) := by decide +kernel
theorem dX12_text_68 : decode cX12_text 68 = .ok (.iastore, 1) := by decide +kernel
theorem dX12_text_69 : decode cX12_text 69 = .ok (.iconst 0, 1) := by decide +kernel
theorem dX12_text_70 : decode cX12_text 70 = .ok (.istore_n 3, 1) := by decide +kernel
theorem dX12_text_71 : decode cX12_text 71 = .ok (.iload_n 3, 1) := by decide +kernel
theorem dX12_text_72 : decode cX12_text 72 = .ok (.aload_n 0, 1) := by decide +kernel
theorem dX12_text_73 : decode cX12_text 73 = .ok (.getfield 74, 3) := by decide +kernel
theorem dX12_text_76 : decode cX12_text 76 = .ok (.if_icmp .ge 29, 3) := by decide +kernel
theorem dX12_text_79 : decode cX12_text 79 = .ok (.aload_n 0, 1) := by decide +kernel
theorem dX12_text_80 : decode cX12_text 80 = .ok (.getfield 7, 3) := by decide +kernel
theorem dX12_text_83 : decode cX12_text 83 = .ok (.bipush 110, 2) := by decide +kernel
theorem dX12_text_85 : decode cX12_text 85 = .ok (.bipush 50, 2) := by decide +kernel
theorem dX12_text_87 : decode cX12_text 87 = .ok (.iload_n 1, 1) := by decide +kernel
theorem dX12_text_88 : decode cX12_text 88 = .ok (.imul, 1) := by decide +kernel
theorem dX12_text_89 : decode cX12_text 89 = .ok (.iadd, 1) := by decide +kernel
theorem dX12_text_90 : decode cX12_text 90 = .ok (.iload_n 3, 1) := by decide +kernel
theorem dX12_text_91 : decode cX12_text 91 = .ok (.iadd, 1) := by decide +kernel
theorem dX12_text_92 : decode cX12_text 92 = .ok (.aload_n 0, 1) := by decide +kernel
theorem dX12_text_93 : decode cX12_text 93 = .ok (.getfield 25, 3) := by decide +kernel
theorem dX12_text_96 : decode cX12_text 96 = .ok (.iload_n 3, 1) := by decide +kernel
theorem dX12_text_97 : decode cX12_text 97 = .ok (.iaload, 1) := by decide +kernel
theorem dX12_text_98 : decode cX12_text 98 = .ok (.iastore, 1) := by decide +kernel
theorem dX12_text_99 : decode cX12_text 99 = .ok (.iinc 3 1, 3) := by decide +kernel
theorem dX12_text_102 : decode cX12_text 102 = .ok (.goto (-31), 3) := by decide +kernel
theorem dX12_text_105 : decode cX12_text 105 = .ok (.iconst 1, 1) := by decide +kernel
theorem dX12_text_106 : decode cX12_text 106 = .ok (.ireturn, 1) := by decide +kernel
theorem dX12_textGives_0 : decode cX12_textGives 0 = .ok (.iload_n 2, 1) := by decide +kernel
theorem dX12_textGives_1 : decode cX12_textGives 1 = .ok (.istore 5, 2) := by decide +kernel
theorem dX12_textGives_3 : decode cX12_textGives 3 = .ok (.aload_n 0, 1) := by decide +kernel
theorem dX12_textGives_4 : decode cX12_textGives 4 = .ok (.getfield 7, 3) := by decide +kernel
theorem dX12_textGives_7 : decode cX12_textGives 7 = .ok (.bipush 88, 2) := by decide +kernel
theorem dX12_textGives_9 : decode cX12_textGives 9 = .ok (.iload_n 1, 1) := by decide +kernel
theorem dX12_textGives_10 : decode cX12_textGives 10 = .ok (.iadd, 1) := by decide +kernel
theorem dX12_textGives_11 : decode cX12_textGives 11 = .ok (.iaload, 1) := by decide +kernel
theorem dX12_textGives_12 : decode cX12_textGives 12 = .ok (.ifCond .le 47, 3) := by decide +kernel
theorem dX12_textGives_15 : decode cX12_textGives 15 = .ok (.aload_n 0, 1) := by decide +kernel
theorem dX12_textGives_16 : decode cX12_textGives 16 = .ok (.getfield 22, 3) := by decide +kernel
theorem dX12_textGives_19 : decode cX12_textGives 19 = .ok (.iconst 0, 1) := by decide +kernel
theorem dX12_textGives_20 : decode cX12_textGives 20 = .ok (.iload_n 2, 1) := by decide +kernel
theorem dX12_textGives_21 : decode cX12_textGives 21 = .ok (.iastore, 1) := by decide +kernel
theorem dX12_textGives_22 : decode cX12_textGives 22 = .ok (.aload_n 0, 1) := by decide +kernel
theorem dX12_textGives_23 : decode cX12_textGives 23 = .ok (.getfield 22, 3) := by decide +kernel
theorem dX12_textGives_26 : decode cX12_textGives 26 = .ok (.iconst 1, 1) := by decide +kernel
theorem dX12_textGives_27 : decode cX12_textGives 27 = .ok (.iload_n 3, 1) := by decide +kernel
theorem dX12_textGives_28 : decode cX12_textGives 28 = .ok (.iastore, 1) := by decide +kernel
theorem dX12_textGives_29 : decode cX12_textGives 29 = .ok (.aload_n 0, 1) := by decide +kernel
theorem dX12_textGives_30 : decode cX12_textGives 30 = .ok (.getfield 22, 3) := by decide +kernel
theorem dX12_textGives_33 : decode cX12_textGives 33 = .ok (.iconst 2, 1) := by decide +kernel
theorem dX12_textGives_34 : decode cX12_textGives 34 = .ok (.iload 4, 2) := by decide +kernel
theorem dX12_textGives_36 : decode cX12_textGives 36 = .ok (.iastore, 1) := by decide +kernel
theorem dX12_textGives_37 : decode cX12_textGives 37 = .ok (.aload_n 0, 1) := by decide +kernel
theorem dX12_textGives_38 : decode cX12_textGives 38 = .ok (.bipush 110, 2) := by decide +kernel
theorem dX12_textGives_40 : decode cX12_textGives 40 = .ok (.bipush 50, 2) := by decide +kernel
theorem dX12_textGives_42 : decode cX12_textGives 42 = .ok (.iload_n 1, 1) := by decide +kernel
theorem dX12_textGives_43 : decode cX12_textGives 43 = .ok (.imul, 1) := by decide +kernel
theorem dX12_textGives_44 : decode cX12_textGives 44 = .ok (.iadd, 1) := by decide +kernel
theorem dX12_textGives_45 : decode cX12_textGives 45 = .ok (.aload_n 0, 1) := by decide +kernel
theorem dX12_textGives_46 : decode cX12_textGives 46 = .ok (.getfield 7, 3) := by decide +kernel
theorem dX12_textGives_49 : decode cX12_textGives 49 = .ok (.bipush 88, 2) := by decide +kernel
theorem dX12_textGives_51 : decode cX12_textGives 51 = .ok (.iload_n 1, 1) := by decide +kernel
theorem dX12_textGives_52 : decode cX12_textGives 52 = .ok (.iadd, 1) := by decide +kernel
theorem dX12_textGives_53 : decode cX12_textGives 53 = .ok (.iaload, 1) := by decide +kernel
theorem dX12_textGives_54 : decode cX12_textGives 54 = .ok (.invokevirtual 135, 3) := by decide +kernel
theorem dX12_textGives_57 : decode cX12_textGives 57 = .ok (.istore 5, 2) := by decide +kernel
theorem dX12_textGives_59 : decode cX12_textGives 59 = .ok (.iload 5, 2) := by decide +kernel
theorem dX12_textGives_61 : decode cX12_textGives 61 = .ok (.iconst 0, 1) := by decide +kernel
theorem dX12_textGives_62 : decode cX12_textGives 62 = .ok (.iload_n 1, 1) := by decide +kernel
theorem dX12_textGives_63 : decode cX12_textGives 63 = .ok (.ifCond .ne 8, 3) := by decide +kernel
theorem dX12_textGives_66 : decode cX12_textGives 66 = .ok (.bipush 9, 2) := by decide +kernel
theorem dX12_textGives_68 : decode cX12_textGives 68 = .ok (.goto 5, 3) := by decide +kernel
theorem dX12_textGives_71 : decode cX12_textGives 71 = .ok (.bipush 99, 2) := by decide +kernel
theorem dX12_textGives_73 : decode cX12_textGives 73 = .ok (.invokestatic 139, 3) := by decide +kernel
theorem dX12_textGives_76 : decode cX12_textGives 76 = .ok (.ireturn, 1) := by decide +kernel
theorem dX12_law_0 : decode cX12_law 0 = .ok (.iload_n 1, 1) := by decide +kernel
theorem dX12_law_1 : decode cX12_law 1 = .ok (.i2l, 1) := by decide +kernel
theorem dX12_law_2 : decode cX12_law 2 = .ok (.lconst 0, 1) := by decide +kernel
theorem dX12_law_3 : decode cX12_law 3 = .ok (.lconst 1, 1) := by decide +kernel
theorem dX12_law_4 : decode cX12_law 4 = .ok (.invokestatic 47, 3) := by decide +kernel
theorem dX12_law_7 : decode cX12_law 7 = .ok (.ifCond .eq 15, 3) := by decide +kernel
theorem dX12_law_10 : decode cX12_law 10 = .ok (.aload_n 0, 1) := by decide +kernel
theorem dX12_law_11 : decode cX12_law 11 = .ok (.iload_n 1, 1) := by decide +kernel
theorem dX12_law_12 : decode cX12_law 12 = .ok (.iload_n 2, 1) := by decide +kernel
theorem dX12_law_13 : decode cX12_law 13 = .ok (.iload_n 3, 1) := by decide +kernel
theorem dX12_law_14 : decode cX12_law 14 = .ok (.iload 4, 2) := by decide +kernel
theorem dX12_law_16 : decode cX12_law 16 = .ok (.invokevirtual 142, 3) := by decide +kernel
theorem dX12_law_19 : decode cX12_law 19 = .ok (.goto 8, 3) := by decide +kernel
theorem dX12_law_22 : decode cX12_law 22 = .ok (.aload_n 0, 1) := by decide +kernel
theorem dX12_law_23 : decode cX12_law 23 = .ok (.iconst 1, 1) := by decide +kernel
theorem dX12_law_24 : decode cX12_law 24 = .ok (.invokevirtual 126, 3) := by decide +kernel
theorem dX12_law_27 : decode cX12_law 27 = .ok (.ireturn, 1) := by decide +kernel
theorem dX12_isDust_0 : decode cX12_isDust 0 = .ok (.aload_n 0, 1) := by decide +kernel
theorem dX12_isDust_1 : decode cX12_isDust 1 = .ok (.iload_n 1, 1) := by decide +kernel
theorem dX12_isDust_2 : decode cX12_isDust 2 = .ok (.iconst 3, 1) := by decide +kernel
theorem dX12_isDust_3 : decode cX12_isDust 3 = .ok (.invokevirtual 146, 3) := by decide +kernel
theorem dX12_isDust_6 : decode cX12_isDust 6 = .ok (.ifCond .ne 7, 3) := by decide +kernel
theorem dX12_isDust_9 : decode cX12_isDust 9 = .ok (.iconst 1, 1) := by decide +kernel
theorem dX12_isDust_10 : decode cX12_isDust 10 = .ok (.goto 4, 3) := by decide +kernel
theorem dX12_isDust_13 : decode cX12_isDust 13 = .ok (.iconst 0, 1) := by decide +kernel
theorem dX12_isDust_14 : decode cX12_isDust 14 = .ok (.ireturn, 1) := by decide +kernel
theorem dX12_drifts_0 : decode cX12_drifts 0 = .ok (.aload_n 0, 1) := by decide +kernel
theorem dX12_drifts_1 : decode cX12_drifts 1 = .ok (.getfield 7, 3) := by decide +kernel
theorem dX12_drifts_4 : decode cX12_drifts 4 = .ok (.iconst 1, 1) := by decide +kernel
theorem dX12_drifts_5 : decode cX12_drifts 5 = .ok (.iaload, 1) := by decide +kernel
theorem dX12_drifts_6 : decode cX12_drifts 6 = .ok (.bipush 7, 2) := by decide +kernel
theorem dX12_drifts_8 : decode cX12_drifts 8 = .ok (.irem, 1) := by decide +kernel
theorem dX12_drifts_9 : decode cX12_drifts 9 = .ok (.ifCond .ne 7, 3) := by decide +kernel
theorem dX12_drifts_12 : decode cX12_drifts 12 = .ok (.iconst 0, 1) := by decide +kernel
theorem dX12_drifts_13 : decode cX12_drifts 13 = .ok (.goto 4, 3) := by decide +kernel
theorem dX12_drifts_16 : decode cX12_drifts 16 = .ok (.iload_n 2, 1) := by decide +kernel
theorem dX12_drifts_17 : decode cX12_drifts 17 = .ok (.istore_n 3, 1) := by decide +kernel
theorem dX12_drifts_18 : decode cX12_drifts 18 = .ok (.aload_n 0, 1) := by decide +kernel
theorem dX12_drifts_19 : decode cX12_drifts 19 = .ok (.iload_n 1, 1) := by decide +kernel
theorem dX12_drifts_20 : decode cX12_drifts 20 = .ok (.iconst 0, 1) := by decide +kernel
theorem dX12_drifts_21 : decode cX12_drifts 21 = .ok (.invokevirtual 146, 3) := by decide +kernel
theorem dX12_drifts_24 : decode cX12_drifts 24 = .ok (.tableswitch 89 1 6 #[40, 44, 48, 50, 52, 78], 40) := by decide +kernel
theorem dX12_drifts_64 : decode cX12_drifts 64 = .ok (.iload_n 2, 1) := by decide +kernel
theorem dX12_drifts_65 : decode cX12_drifts 65 = .ok (.iconst 2, 1) := by decide +kernel
theorem dX12_drifts_66 : decode cX12_drifts 66 = .ok (.idiv, 1) := by decide +kernel
theorem dX12_drifts_67 : decode cX12_drifts 67 = .ok (.ireturn, 1) := by decide +kernel
theorem dX12_drifts_68 : decode cX12_drifts 68 = .ok (.iload_n 2, 1) := by decide +kernel
theorem dX12_drifts_69 : decode cX12_drifts 69 = .ok (.iconst 1, 1) := by decide +kernel
theorem dX12_drifts_70 : decode cX12_drifts 70 = .ok (.iadd, 1) := by decide +kernel
theorem dX12_drifts_71 : decode cX12_drifts 71 = .ok (.ireturn, 1) := by decide +kernel
theorem dX12_drifts_72 : decode cX12_drifts 72 = .ok (.iload_n 3, 1) := by decide +kernel
theorem dX12_drifts_73 : decode cX12_drifts 73 = .ok (.ireturn, 1) := by decide +kernel
theorem dX12_drifts_74 : decode cX12_drifts 74 = .ok (.iconst 0, 1) := by decide +kernel
theorem dX12_drifts_75 : decode cX12_drifts 75 = .ok (.ireturn, 1) := by decide +kernel
theorem dX12_drifts_76 : decode cX12_drifts 76 = .ok (.iload_n 2, 1) := by decide +kernel
theorem dX12_drifts_77 : decode cX12_drifts 77 = .ok (.iconst 1, 1) := by decide +kernel
theorem dX12_drifts_78 : decode cX12_drifts 78 = .ok (.iadd, 1) := by decide +kernel
theorem dX12_drifts_79 : decode cX12_drifts 79 = .ok (.aload_n 0, 1) := by decide +kernel
theorem dX12_drifts_80 : decode cX12_drifts 80 = .ok (.getfield 7, 3) := by decide +kernel
theorem dX12_drifts_83 : decode cX12_drifts 83 = .ok (.iconst 1, 1) := by decide +kernel
theorem dX12_drifts_84 : decode cX12_drifts 84 = .ok (.iaload, 1) := by decide +kernel
theorem dX12_drifts_85 : decode cX12_drifts 85 = .ok (.iconst 5, 1) := by decide +kernel
theorem dX12_drifts_86 : decode cX12_drifts 86 = .ok (.irem, 1) := by decide +kernel
theorem dX12_drifts_87 : decode cX12_drifts 87 = .ok (.ifCond .ne 12, 3) := by decide +kernel
theorem dX12_drifts_90 : decode cX12_drifts 90 = .ok (.aload_n 0, 1) := by decide +kernel
theorem dX12_drifts_91 : decode cX12_drifts 91 = .ok (.iload_n 1, 1) := by decide +kernel
theorem dX12_drifts_92 : decode cX12_drifts 92 = .ok (.iconst 1, 1) := by decide +kernel
theorem dX12_drifts_93 : decode cX12_drifts 93 = .ok (.invokevirtual 146, 3) := by decide +kernel
theorem dX12_drifts_96 : decode cX12_drifts 96 = .ok (.goto 4, 3) := by decide +kernel
theorem dX12_drifts_99 : decode cX12_drifts 99 = .ok (.iconst 0, 1) := by decide +kernel
theorem dX12_drifts_100 : decode cX12_drifts 100 = .ok (.iadd, 1) := by decide +kernel
theorem dX12_drifts_101 : decode cX12_drifts 101 = .ok (.ireturn, 1) := by decide +kernel
theorem dX12_drifts_102 : decode cX12_drifts 102 = .ok (.iload_n 3, 1) := by decide +kernel
theorem dX12_drifts_103 : decode cX12_drifts 103 = .ok (.iconst 1, 1) := by decide +kernel
theorem dX12_drifts_104 : decode cX12_drifts 104 = .ok (.if_icmp .ge 7, 3) := by decide +kernel
theorem dX12_drifts_107 : decode cX12_drifts 107 = .ok (.iconst 1, 1) := by decide +kernel
theorem dX12_drifts_108 : decode cX12_drifts 108 = .ok (.goto 4, 3) := by decide +kernel
theorem dX12_drifts_111 : decode cX12_drifts 111 = .ok (.iload_n 3, 1) := by decide +kernel
theorem dX12_drifts_112 : decode cX12_drifts 112 = .ok (.ireturn, 1) := by decide +kernel
theorem dX12_drifts_113 : decode cX12_drifts 113 = .ok (.iload_n 2, 1) := by decide +kernel
theorem dX12_drifts_114 : decode cX12_drifts 114 = .ok (.ireturn, 1) := by decide +kernel
theorem dX12_shines_0 : decode cX12_shines 0 = .ok (.aload_n 0, 1) := by decide +kernel
theorem dX12_shines_1 : decode cX12_shines 1 = .ok (.iload_n 1, 1) := by decide +kernel
theorem dX12_shines_2 : decode cX12_shines 2 = .ok (.iconst 1, 1) := by decide +kernel
theorem dX12_shines_3 : decode cX12_shines 3 = .ok (.invokevirtual 146, 3) := by decide +kernel
theorem dX12_shines_6 : decode cX12_shines 6 = .ok (.istore_n 3, 1) := by decide +kernel
theorem dX12_shines_7 : decode cX12_shines 7 = .ok (.aload_n 0, 1) := by decide +kernel
theorem dX12_shines_8 : decode cX12_shines 8 = .ok (.iload_n 1, 1) := by decide +kernel
theorem dX12_shines_9 : decode cX12_shines 9 = .ok (.iconst 0, 1) := by decide +kernel
theorem dX12_shines_10 : decode cX12_shines 10 = .ok (.invokevirtual 146, 3) := by decide +kernel
theorem dX12_shines_13 : decode cX12_shines 13 = .ok (.tableswitch 89 1 6 #[39, 43, 49, 54, 43, 66], 39) := by decide +kernel
theorem dX12_shines_52 : decode cX12_shines 52 = .ok (.iconst 2, 1) := by decide +kernel
theorem dX12_shines_53 : decode cX12_shines 53 = .ok (.iload_n 2, 1) := by decide +kernel
theorem dX12_shines_54 : decode cX12_shines 54 = .ok (.imul, 1) := by decide +kernel
theorem dX12_shines_55 : decode cX12_shines 55 = .ok (.ireturn, 1) := by decide +kernel
theorem dX12_shines_56 : decode cX12_shines 56 = .ok (.iload_n 2, 1) := by decide +kernel
theorem dX12_shines_57 : decode cX12_shines 57 = .ok (.iload_n 3, 1) := by decide +kernel
theorem dX12_shines_58 : decode cX12_shines 58 = .ok (.iconst 2, 1) := by decide +kernel
theorem dX12_shines_59 : decode cX12_shines 59 = .ok (.irem, 1) := by decide +kernel
theorem dX12_shines_60 : decode cX12_shines 60 = .ok (.iadd, 1) := by decide +kernel
theorem dX12_shines_61 : decode cX12_shines 61 = .ok (.ireturn, 1) := by decide +kernel
theorem dX12_shines_62 : decode cX12_shines 62 = .ok (.bipush 9, 2) := by decide +kernel
theorem dX12_shines_64 : decode cX12_shines 64 = .ok (.iload_n 2, 1) := by decide +kernel
theorem dX12_shines_65 : decode cX12_shines 65 = .ok (.isub, 1) := by decide +kernel
theorem dX12_shines_66 : decode cX12_shines 66 = .ok (.ireturn, 1) := by decide +kernel
theorem dX12_shines_67 : decode cX12_shines 67 = .ok (.iconst 2, 1) := by decide +kernel
theorem dX12_shines_68 : decode cX12_shines 68 = .ok (.iload_n 2, 1) := by decide +kernel
theorem dX12_shines_69 : decode cX12_shines 69 = .ok (.imul, 1) := by decide +kernel
theorem dX12_shines_70 : decode cX12_shines 70 = .ok (.iconst 3, 1) := by decide +kernel
theorem dX12_shines_71 : decode cX12_shines 71 = .ok (.isub, 1) := by decide +kernel
theorem dX12_shines_72 : decode cX12_shines 72 = .ok (.iconst 0, 1) := by decide +kernel
theorem dX12_shines_73 : decode cX12_shines 73 = .ok (.bipush 99, 2) := by decide +kernel
theorem dX12_shines_75 : decode cX12_shines 75 = .ok (.invokestatic 139, 3) := by decide +kernel
theorem dX12_shines_78 : decode cX12_shines 78 = .ok (.ireturn, 1) := by decide +kernel
theorem dX12_shines_79 : decode cX12_shines 79 = .ok (.bipush 9, 2) := by decide +kernel
theorem dX12_shines_81 : decode cX12_shines 81 = .ok (.iload_n 2, 1) := by decide +kernel
theorem dX12_shines_82 : decode cX12_shines 82 = .ok (.isub, 1) := by decide +kernel
theorem dX12_shines_83 : decode cX12_shines 83 = .ok (.aload_n 0, 1) := by decide +kernel
theorem dX12_shines_84 : decode cX12_shines 84 = .ok (.getfield 7, 3) := by decide +kernel
theorem dX12_shines_87 : decode cX12_shines 87 = .ok (.iconst 1, 1) := by decide +kernel
theorem dX12_shines_88 : decode cX12_shines 88 = .ok (.iaload, 1) := by decide +kernel
theorem dX12_shines_89 : decode cX12_shines 89 = .ok (.iconst 2, 1) := by decide +kernel
theorem dX12_shines_90 : decode cX12_shines 90 = .ok (.irem, 1) := by decide +kernel
theorem dX12_shines_91 : decode cX12_shines 91 = .ok (.iconst 1, 1) := by decide +kernel
theorem dX12_shines_92 : decode cX12_shines 92 = .ok (.if_icmp .ne 7, 3) := by decide +kernel
theorem dX12_shines_95 : decode cX12_shines 95 = .ok (.iload_n 3, 1) := by decide +kernel
theorem dX12_shines_96 : decode cX12_shines 96 = .ok (.goto 4, 3) := by decide +kernel
theorem dX12_shines_99 : decode cX12_shines 99 = .ok (.iconst 0, 1) := by decide +kernel
theorem dX12_shines_100 : decode cX12_shines 100 = .ok (.iadd, 1) := by decide +kernel
theorem dX12_shines_101 : decode cX12_shines 101 = .ok (.ireturn, 1) := by decide +kernel
theorem dX12_shines_102 : decode cX12_shines 102 = .ok (.iload_n 2, 1) := by decide +kernel
theorem dX12_shines_103 : decode cX12_shines 103 = .ok (.ireturn, 1) := by decide +kernel
theorem dX12_needs_0 : decode cX12_needs 0 = .ok (.aload_n 0, 1) := by decide +kernel
theorem dX12_needs_1 : decode cX12_needs 1 = .ok (.iload_n 1, 1) := by decide +kernel
theorem dX12_needs_2 : decode cX12_needs 2 = .ok (.iconst 0, 1) := by decide +kernel
theorem dX12_needs_3 : decode cX12_needs 3 = .ok (.invokevirtual 146, 3) := by decide +kernel
theorem dX12_needs_6 : decode cX12_needs 6 = .ok (.tableswitch 57 1 6 #[38, 41, 43, 45, 48, 55], 38) := by decide +kernel
theorem dX12_needs_44 : decode cX12_needs 44 = .ok (.bipush 8, 2) := by decide +kernel
theorem dX12_needs_46 : decode cX12_needs 46 = .ok (.ireturn, 1) := by decide +kernel
theorem dX12_needs_47 : decode cX12_needs 47 = .ok (.iconst 3, 1) := by decide +kernel
theorem dX12_needs_48 : decode cX12_needs 48 = .ok (.ireturn, 1) := by decide +kernel
theorem dX12_needs_49 : decode cX12_needs 49 = .ok (.iconst 0, 1) := by decide +kernel
theorem dX12_needs_50 : decode cX12_needs 50 = .ok (.ireturn, 1) := by decide +kernel
theorem dX12_needs_51 : decode cX12_needs 51 = .ok (.bipush 9, 2) := by decide +kernel
theorem dX12_needs_53 : decode cX12_needs 53 = .ok (.ireturn, 1) := by decide +kernel
theorem dX12_needs_54 : decode cX12_needs 54 = .ok (.aload_n 0, 1) := by decide +kernel
theorem dX12_needs_55 : decode cX12_needs 55 = .ok (.iload_n 1, 1) := by decide +kernel
theorem dX12_needs_56 : decode cX12_needs 56 = .ok (.iconst 1, 1) := by decide +kernel
theorem dX12_needs_57 : decode cX12_needs 57 = .ok (.invokevirtual 146, 3) := by decide +kernel
theorem dX12_needs_60 : decode cX12_needs 60 = .ok (.ireturn, 1) := by decide +kernel
theorem dX12_needs_61 : decode cX12_needs 61 = .ok (.iconst 2, 1) := by decide +kernel
theorem dX12_needs_62 : decode cX12_needs 62 = .ok (.ireturn, 1) := by decide +kernel
theorem dX12_needs_63 : decode cX12_needs 63 = .ok (.iconst 5, 1) := by decide +kernel
theorem dX12_needs_64 : decode cX12_needs 64 = .ok (.ireturn, 1) := by decide +kernel
theorem dX12_sunOf_0 : decode cX12_sunOf 0 = .ok (.aload_n 0, 1) := by decide +kernel
theorem dX12_sunOf_1 : decode cX12_sunOf 1 = .ok (.getfield 7, 3) := by decide +kernel
theorem dX12_sunOf_4 : decode cX12_sunOf 4 = .ok (.bipush 8, 2) := by decide +kernel
theorem dX12_sunOf_6 : decode cX12_sunOf 6 = .ok (.aload_n 0, 1) := by decide +kernel
theorem dX12_sunOf_7 : decode cX12_sunOf 7 = .ok (.iload_n 1, 1) := by decide +kernel
theorem dX12_sunOf_8 : decode cX12_sunOf 8 = .ok (.invokevirtual 149, 3) := by decide +kernel
theorem dX12_sunOf_11 : decode cX12_sunOf 11 = .ok (.ifCond .eq 12, 3) := by decide +kernel
theorem dX12_sunOf_14 : decode cX12_sunOf 14 = .ok (.aload_n 0, 1) := by decide +kernel
theorem dX12_sunOf_15 : decode cX12_sunOf 15 = .ok (.iload_n 1, 1) := by decide +kernel
theorem dX12_sunOf_16 : decode cX12_sunOf 16 = .ok (.iconst 4, 1) := by decide +kernel
theorem dX12_sunOf_17 : decode cX12_sunOf 17 = .ok (.invokevirtual 146, 3) := by decide +kernel
theorem dX12_sunOf_20 : decode cX12_sunOf 20 = .ok (.goto 9, 3) := by decide +kernel
theorem dX12_sunOf_23 : decode cX12_sunOf 23 = .ok (.aload_n 0, 1) := by decide +kernel
theorem dX12_sunOf_24 : decode cX12_sunOf 24 = .ok (.iload_n 1, 1) := by decide +kernel
theorem dX12_sunOf_25 : decode cX12_sunOf 25 = .ok (.iconst 2, 1) := by decide +kernel
theorem dX12_sunOf_26 : decode cX12_sunOf 26 = .ok (.invokevirtual 146, 3) := by decide +kernel
theorem dX12_sunOf_29 : decode cX12_sunOf 29 = .ok (.iadd, 1) := by decide +kernel
theorem dX12_sunOf_30 : decode cX12_sunOf 30 = .ok (.iaload, 1) := by decide +kernel
theorem dX12_sunOf_31 : decode cX12_sunOf 31 = .ok (.ireturn, 1) := by decide +kernel
theorem dX12_isContent_0 : decode cX12_isContent 0 = .ok (.aload_n 0, 1) := by decide +kernel
theorem dX12_isContent_1 : decode cX12_isContent 1 = .ok (.iload_n 1, 1) := by decide +kernel
theorem dX12_isContent_2 : decode cX12_isContent 2 = .ok (.invokevirtual 149, 3) := by decide +kernel
theorem dX12_isContent_5 : decode cX12_isContent 5 = .ok (.ifCond .eq 35, 3) := by decide +kernel
theorem dX12_isContent_8 : decode cX12_isContent 8 = .ok (.aload_n 0, 1) := by decide +kernel
theorem dX12_isContent_9 : decode cX12_isContent 9 = .ok (.iload_n 1, 1) := by decide +kernel
theorem dX12_isContent_10 : decode cX12_isContent 10 = .ok (.iconst 4, 1) := by decide +kernel
theorem dX12_isContent_11 : decode cX12_isContent 11 = .ok (.invokevirtual 146, 3) := by decide +kernel
theorem dX12_isContent_14 : decode cX12_isContent 14 = .ok (.aload_n 0, 1) := by decide +kernel
theorem dX12_isContent_15 : decode cX12_isContent 15 = .ok (.iload_n 1, 1) := by decide +kernel
theorem dX12_isContent_16 : decode cX12_isContent 16 = .ok (.iconst 2, 1) := by decide +kernel
theorem dX12_isContent_17 : decode cX12_isContent 17 = .ok (.invokevirtual 146, 3) := by decide +kernel
theorem dX12_isContent_20 : decode cX12_isContent 20 = .ok (.if_icmp .eq 16, 3) := by decide +kernel
theorem dX12_isContent_23 : decode cX12_isContent 23 = .ok (.aload_n 0, 1) := by decide +kernel
theorem dX12_isContent_24 : decode cX12_isContent 24 = .ok (.iload_n 1, 1) := by decide +kernel
theorem dX12_isContent_25 : decode cX12_isContent 25 = .ok (.invokevirtual 152, 3) := by decide +kernel
theorem dX12_isContent_28 : decode cX12_isContent 28 = .ok (.aload_n 0, 1) := by decide +kernel
theorem dX12_isContent_29 : decode cX12_isContent 29 = .ok (.iload_n 1, 1) := by decide +kernel
theorem dX12_isContent_30 : decode cX12_isContent 30 = .ok (.invokevirtual 155, 3) := by decide +kernel
theorem dX12_isContent_33 : decode cX12_isContent 33 = .ok (.if_icmp .lt 7, 3) := by decide +kernel
theorem dX12_isContent_36 : decode cX12_isContent 36 = .ok (.iconst 1, 1) := by decide +kernel
theorem dX12_isContent_37 : decode cX12_isContent 37 = .ok (.goto 4, 3) := by decide +kernel
theorem dX12_isContent_40 : decode cX12_isContent 40 = .ok (.iconst 0, 1) := by decide +kernel
theorem dX12_isContent_41 : decode cX12_isContent 41 = .ok (.ireturn, 1) := by decide +kernel
theorem dX12_dusts_0 : decode cX12_dusts 0 = .ok (.iconst 0, 1) := by decide +kernel
theorem dX12_dusts_1 : decode cX12_dusts 1 = .ok (.istore_n 1, 1) := by decide +kernel
theorem dX12_dusts_2 : decode cX12_dusts 2 = .ok (.iconst 0, 1) := by decide +kernel
theorem dX12_dusts_3 : decode cX12_dusts 3 = .ok (.istore_n 2, 1) := by decide +kernel
theorem dX12_dusts_4 : decode cX12_dusts 4 = .ok (.iload_n 2, 1) := by decide +kernel
theorem dX12_dusts_5 : decode cX12_dusts 5 = .ok (.aload_n 0, 1) := by decide +kernel
theorem dX12_dusts_6 : decode cX12_dusts 6 = .ok (.getfield 7, 3) := by decide +kernel
theorem dX12_dusts_9 : decode cX12_dusts 9 = .ok (.iconst 0, 1) := by decide +kernel
theorem dX12_dusts_10 : decode cX12_dusts 10 = .ok (.iaload, 1) := by decide +kernel
theorem dX12_dusts_11 : decode cX12_dusts 11 = .ok (.if_icmp .ge 25, 3) := by decide +kernel
theorem dX12_dusts_14 : decode cX12_dusts 14 = .ok (.iload_n 1, 1) := by decide +kernel
theorem dX12_dusts_15 : decode cX12_dusts 15 = .ok (.aload_n 0, 1) := by decide +kernel
theorem dX12_dusts_16 : decode cX12_dusts 16 = .ok (.iload_n 2, 1) := by decide +kernel
theorem dX12_dusts_17 : decode cX12_dusts 17 = .ok (.invokevirtual 149, 3) := by decide +kernel
theorem dX12_dusts_20 : decode cX12_dusts 20 = .ok (.ifCond .eq 7, 3) := by decide +kernel
theorem dX12_dusts_23 : decode cX12_dusts 23 = .ok (.iconst 1, 1) := by decide +kernel
theorem dX12_dusts_24 : decode cX12_dusts 24 = .ok (.goto 4, 3) := by decide +kernel
theorem dX12_dusts_27 : decode cX12_dusts 27 = .ok (.iconst 0, 1) := by decide +kernel
theorem dX12_dusts_28 : decode cX12_dusts 28 = .ok (.iadd, 1) := by decide +kernel
theorem dX12_dusts_29 : decode cX12_dusts 29 = .ok (.istore_n 1, 1) := by decide +kernel
theorem dX12_dusts_30 : decode cX12_dusts 30 = .ok (.iinc 2 1, 3) := by decide +kernel
theorem dX12_dusts_33 : decode cX12_dusts 33 = .ok (.goto (-29), 3) := by decide +kernel
theorem dX12_dusts_36 : decode cX12_dusts 36 = .ok (.iload_n 1, 1) := by decide +kernel
theorem dX12_dusts_37 : decode cX12_dusts 37 = .ok (.ireturn, 1) := by decide +kernel
theorem dX12_dayGoes_0 : decode cX12_dayGoes 0 = .ok (.aload_n 0, 1) := by decide +kernel
theorem dX12_dayGoes_1 : decode cX12_dayGoes 1 = .ok (.iconst 0, 1) := by decide +kernel
theorem dX12_dayGoes_2 : decode cX12_dayGoes 2 = .ok (.aload_n 0, 1) := by decide +kernel
theorem dX12_dayGoes_3 : decode cX12_dayGoes 3 = .ok (.getfield 7, 3) := by decide +kernel
theorem dX12_dayGoes_6 : decode cX12_dayGoes 6 = .ok (.iconst 2, 1) := by decide +kernel
theorem dX12_dayGoes_7 : decode cX12_dayGoes 7 = .ok (.iaload, 1) := by decide +kernel
theorem dX12_dayGoes_8 : decode cX12_dayGoes 8 = .ok (.aload_n 0, 1) := by decide +kernel
theorem dX12_dayGoes_9 : decode cX12_dayGoes 9 = .ok (.getfield 7, 3) := by decide +kernel
theorem dX12_dayGoes_12 : decode cX12_dayGoes 12 = .ok (.iconst 1, 1) := by decide +kernel
theorem dX12_dayGoes_13 : decode cX12_dayGoes 13 = .ok (.iaload, 1) := by decide +kernel
theorem dX12_dayGoes_14 : decode cX12_dayGoes 14 = .ok (.bipush 24, 2) := by decide +kernel
theorem dX12_dayGoes_16 : decode cX12_dayGoes 16 = .ok (.irem, 1) := by decide +kernel
theorem dX12_dayGoes_17 : decode cX12_dayGoes 17 = .ok (.aload_n 0, 1) := by decide +kernel
theorem dX12_dayGoes_18 : decode cX12_dayGoes 18 = .ok (.invokevirtual 158, 3) := by decide +kernel
theorem dX12_dayGoes_21 : decode cX12_dayGoes 21 = .ok (.invokevirtual 142, 3) := by decide +kernel
theorem dX12_dayGoes_24 : decode cX12_dayGoes 24 = .ok (.istore_n 1, 1) := by decide +kernel
theorem dX12_dayGoes_25 : decode cX12_dayGoes 25 = .ok (.iconst 0, 1) := by decide +kernel
theorem dX12_dayGoes_26 : decode cX12_dayGoes 26 = .ok (.istore_n 2, 1) := by decide +kernel
theorem dX12_dayGoes_27 : decode cX12_dayGoes 27 = .ok (.iload_n 2, 1) := by decide +kernel
theorem dX12_dayGoes_28 : decode cX12_dayGoes 28 = .ok (.aload_n 0, 1) := by decide +kernel
theorem dX12_dayGoes_29 : decode cX12_dayGoes 29 = .ok (.getfield 7, 3) := by decide +kernel
theorem dX12_dayGoes_32 : decode cX12_dayGoes 32 = .ok (.iconst 0, 1) := by decide +kernel
theorem dX12_dayGoes_33 : decode cX12_dayGoes 33 = .ok (.iaload, 1) := by decide +kernel
theorem dX12_dayGoes_34 : decode cX12_dayGoes 34 = .ok (.if_icmp .ge 54, 3) := by decide +kernel
theorem dX12_dayGoes_37 : decode cX12_dayGoes 37 = .ok (.aload_n 0, 1) := by decide +kernel
theorem dX12_dayGoes_38 : decode cX12_dayGoes 38 = .ok (.iload_n 2, 1) := by decide +kernel
theorem dX12_dayGoes_39 : decode cX12_dayGoes 39 = .ok (.invokevirtual 149, 3) := by decide +kernel
theorem dX12_dayGoes_42 : decode cX12_dayGoes 42 = .ok (.ifCond .eq 40, 3) := by decide +kernel
theorem dX12_dayGoes_45 : decode cX12_dayGoes 45 = .ok (.aload_n 0, 1) := by decide +kernel
theorem dX12_dayGoes_46 : decode cX12_dayGoes 46 = .ok (.iload_n 2, 1) := by decide +kernel
theorem dX12_dayGoes_47 : decode cX12_dayGoes 47 = .ok (.iload_n 1, 1) := by decide +kernel
theorem dX12_dayGoes_48 : decode cX12_dayGoes 48 = .ok (.invokevirtual 161, 3) := by decide +kernel
theorem dX12_dayGoes_51 : decode cX12_dayGoes 51 = .ok (.istore_n 3, 1) := by decide +kernel
theorem dX12_dayGoes_52 : decode cX12_dayGoes 52 = .ok (.iload_n 3, 1) := by decide +kernel
theorem dX12_dayGoes_53 : decode cX12_dayGoes 53 = .ok (.ifCond .le 29, 3) := by decide +kernel
theorem dX12_dayGoes_56 : decode cX12_dayGoes 56 = .ok (.aload_n 0, 1) := by decide +kernel
theorem dX12_dayGoes_57 : decode cX12_dayGoes 57 = .ok (.iload_n 2, 1) := by decide +kernel
theorem dX12_dayGoes_58 : decode cX12_dayGoes 58 = .ok (.iconst 4, 1) := by decide +kernel
theorem dX12_dayGoes_59 : decode cX12_dayGoes 59 = .ok (.aload_n 0, 1) := by decide +kernel
theorem dX12_dayGoes_60 : decode cX12_dayGoes 60 = .ok (.getfield 7, 3) := by decide +kernel
theorem dX12_dayGoes_63 : decode cX12_dayGoes 63 = .ok (.bipush 24, 2) := by decide +kernel
theorem dX12_dayGoes_65 : decode cX12_dayGoes 65 = .ok (.aload_n 0, 1) := by decide +kernel
theorem dX12_dayGoes_66 : decode cX12_dayGoes 66 = .ok (.iload_n 2, 1) := by decide +kernel
theorem dX12_dayGoes_67 : decode cX12_dayGoes 67 = .ok (.iconst 4, 1) := by decide +kernel
theorem dX12_dayGoes_68 : decode cX12_dayGoes 68 = .ok (.invokevirtual 146, 3) := by decide +kernel
theorem dX12_dayGoes_71 : decode cX12_dayGoes 71 = .ok (.iadd, 1) := by decide +kernel
theorem dX12_dayGoes_72 : decode cX12_dayGoes 72 = .ok (.iaload, 1) := by decide +kernel
theorem dX12_dayGoes_73 : decode cX12_dayGoes 73 = .ok (.invokevirtual 164, 3) := by decide +kernel
theorem dX12_dayGoes_76 : decode cX12_dayGoes 76 = .ok (.iinc 3 (-1), 3) := by decide +kernel
theorem dX12_dayGoes_79 : decode cX12_dayGoes 79 = .ok (.goto (-27), 3) := by decide +kernel
theorem dX12_dayGoes_82 : decode cX12_dayGoes 82 = .ok (.iinc 2 1, 3) := by decide +kernel
theorem dX12_dayGoes_85 : decode cX12_dayGoes 85 = .ok (.goto (-58), 3) := by decide +kernel
theorem dX12_dayGoes_88 : decode cX12_dayGoes 88 = .ok (.iconst 0, 1) := by decide +kernel
theorem dX12_dayGoes_89 : decode cX12_dayGoes 89 = .ok (.istore_n 2, 1) := by decide +kernel
theorem dX12_dayGoes_90 : decode cX12_dayGoes 90 = .ok (.iload_n 2, 1) := by decide +kernel
theorem dX12_dayGoes_91 : decode cX12_dayGoes 91 = .ok (.aload_n 0, 1) := by decide +kernel
theorem dX12_dayGoes_92 : decode cX12_dayGoes 92 = .ok (.getfield 7, 3) := by decide +kernel
theorem dX12_dayGoes_95 : decode cX12_dayGoes 95 = .ok (.iconst 0, 1) := by decide +kernel
theorem dX12_dayGoes_96 : decode cX12_dayGoes 96 = .ok (.iaload, 1) := by decide +kernel
theorem dX12_dayGoes_97 : decode cX12_dayGoes 97 = .ok (.if_icmp .ge 57, 3) := by decide +kernel
theorem dX12_dayGoes_100 : decode cX12_dayGoes 100 = .ok (.aload_n 0, 1) := by decide +kernel
theorem dX12_dayGoes_101 : decode cX12_dayGoes 101 = .ok (.iload_n 2, 1) := by decide +kernel
theorem dX12_dayGoes_102 : decode cX12_dayGoes 102 = .ok (.iconst 4, 1) := by decide +kernel
theorem dX12_dayGoes_103 : decode cX12_dayGoes 103 = .ok (.invokevirtual 146, 3) := by decide +kernel
theorem dX12_dayGoes_106 : decode cX12_dayGoes 106 = .ok (.iconst (-1), 1) := by decide +kernel
theorem dX12_dayGoes_107 : decode cX12_dayGoes 107 = .ok (.if_icmp .ne 41, 3) := by decide +kernel
theorem dX12_dayGoes_110 : decode cX12_dayGoes 110 = .ok (.aload_n 0, 1) := by decide +kernel
theorem dX12_dayGoes_111 : decode cX12_dayGoes 111 = .ok (.iload_n 2, 1) := by decide +kernel
theorem dX12_dayGoes_112 : decode cX12_dayGoes 112 = .ok (.iconst 3, 1) := by decide +kernel
theorem dX12_dayGoes_113 : decode cX12_dayGoes 113 = .ok (.aload_n 0, 1) := by decide +kernel
theorem dX12_dayGoes_114 : decode cX12_dayGoes 114 = .ok (.iload_n 2, 1) := by decide +kernel
theorem dX12_dayGoes_115 : decode cX12_dayGoes 115 = .ok (.iconst 3, 1) := by decide +kernel
theorem dX12_dayGoes_116 : decode cX12_dayGoes 116 = .ok (.invokevirtual 146, 3) := by decide +kernel
theorem dX12_dayGoes_119 : decode cX12_dayGoes 119 = .ok (.iconst 1, 1) := by decide +kernel
theorem dX12_dayGoes_120 : decode cX12_dayGoes 120 = .ok (.isub, 1) := by decide +kernel
theorem dX12_dayGoes_121 : decode cX12_dayGoes 121 = .ok (.invokevirtual 164, 3) := by decide +kernel
theorem dX12_dayGoes_124 : decode cX12_dayGoes 124 = .ok (.aload_n 0, 1) := by decide +kernel
theorem dX12_dayGoes_125 : decode cX12_dayGoes 125 = .ok (.iload_n 2, 1) := by decide +kernel
theorem dX12_dayGoes_126 : decode cX12_dayGoes 126 = .ok (.iconst 4, 1) := by decide +kernel
theorem dX12_dayGoes_127 : decode cX12_dayGoes 127 = .ok (.aload_n 0, 1) := by decide +kernel
theorem dX12_dayGoes_128 : decode cX12_dayGoes 128 = .ok (.iload_n 2, 1) := by decide +kernel
theorem dX12_dayGoes_129 : decode cX12_dayGoes 129 = .ok (.invokevirtual 149, 3) := by decide +kernel
theorem dX12_dayGoes_132 : decode cX12_dayGoes 132 = .ok (.ifCond .eq 12, 3) := by decide +kernel
theorem dX12_dayGoes_135 : decode cX12_dayGoes 135 = .ok (.aload_n 0, 1) := by decide +kernel
theorem dX12_dayGoes_136 : decode cX12_dayGoes 136 = .ok (.iload_n 2, 1) := by decide +kernel
theorem dX12_dayGoes_137 : decode cX12_dayGoes 137 = .ok (.iconst 2, 1) := by decide +kernel
theorem dX12_dayGoes_138 : decode cX12_dayGoes 138 = .ok (.invokevirtual 146, 3) := by decide +kernel
theorem dX12_dayGoes_141 : decode cX12_dayGoes 141 = .ok (.goto 4, 3) := by decide +kernel
theorem dX12_dayGoes_144 : decode cX12_dayGoes 144 = .ok (.iconst (-1), 1) := by decide +kernel
theorem dX12_dayGoes_145 : decode cX12_dayGoes 145 = .ok (.invokevirtual 164, 3) := by decide +kernel
theorem dX12_dayGoes_148 : decode cX12_dayGoes 148 = .ok (.iinc 2 1, 3) := by decide +kernel
theorem dX12_dayGoes_151 : decode cX12_dayGoes 151 = .ok (.goto (-61), 3) := by decide +kernel
theorem dX12_dayGoes_154 : decode cX12_dayGoes 154 = .ok (.iconst 0, 1) := by decide +kernel
theorem dX12_dayGoes_155 : decode cX12_dayGoes 155 = .ok (.istore_n 2, 1) := by decide +kernel
theorem dX12_dayGoes_156 : decode cX12_dayGoes 156 = .ok (.iload_n 2, 1) := by decide +kernel
theorem dX12_dayGoes_157 : decode cX12_dayGoes 157 = .ok (.aload_n 0, 1) := by decide +kernel
theorem dX12_dayGoes_158 : decode cX12_dayGoes 158 = .ok (.getfield 7, 3) := by decide +kernel
theorem dX12_dayGoes_161 : decode cX12_dayGoes 161 = .ok (.iconst 0, 1) := by decide +kernel
theorem dX12_dayGoes_162 : decode cX12_dayGoes 162 = .ok (.iaload, 1) := by decide +kernel
theorem dX12_dayGoes_163 : decode cX12_dayGoes 163 = .ok (.if_icmp .ge 88, 3) := by decide +kernel
theorem dX12_dayGoes_166 : decode cX12_dayGoes 166 = .ok (.aload_n 0, 1) := by decide +kernel
theorem dX12_dayGoes_167 : decode cX12_dayGoes 167 = .ok (.iload_n 2, 1) := by decide +kernel
theorem dX12_dayGoes_168 : decode cX12_dayGoes 168 = .ok (.invokevirtual 149, 3) := by decide +kernel
theorem dX12_dayGoes_171 : decode cX12_dayGoes 171 = .ok (.ifCond .eq 74, 3) := by decide +kernel
theorem dX12_dayGoes_174 : decode cX12_dayGoes 174 = .ok (.aload_n 0, 1) := by decide +kernel
theorem dX12_dayGoes_175 : decode cX12_dayGoes 175 = .ok (.iconst 1, 1) := by decide +kernel
theorem dX12_dayGoes_176 : decode cX12_dayGoes 176 = .ok (.aload_n 0, 1) := by decide +kernel
theorem dX12_dayGoes_177 : decode cX12_dayGoes 177 = .ok (.iload_n 2, 1) := by decide +kernel
theorem dX12_dayGoes_178 : decode cX12_dayGoes 178 = .ok (.aload_n 0, 1) := by decide +kernel
theorem dX12_dayGoes_179 : decode cX12_dayGoes 179 = .ok (.iload_n 2, 1) := by decide +kernel
theorem dX12_dayGoes_180 : decode cX12_dayGoes 180 = .ok (.invokevirtual 152, 3) := by decide +kernel
theorem dX12_dayGoes_183 : decode cX12_dayGoes 183 = .ok (.invokevirtual 167, 3) := by decide +kernel
theorem dX12_dayGoes_186 : decode cX12_dayGoes 186 = .ok (.aload_n 0, 1) := by decide +kernel
theorem dX12_dayGoes_187 : decode cX12_dayGoes 187 = .ok (.iload_n 2, 1) := by decide +kernel
theorem dX12_dayGoes_188 : decode cX12_dayGoes 188 = .ok (.invokevirtual 152, 3) := by decide +kernel
theorem dX12_dayGoes_191 : decode cX12_dayGoes 191 = .ok (.aload_n 0, 1) := by decide +kernel
theorem dX12_dayGoes_192 : decode cX12_dayGoes 192 = .ok (.getfield 7, 3) := by decide +kernel
theorem dX12_dayGoes_195 : decode cX12_dayGoes 195 = .ok (.iconst 1, 1) := by decide +kernel
theorem dX12_dayGoes_196 : decode cX12_dayGoes 196 = .ok (.iaload, 1) := by decide +kernel
theorem dX12_dayGoes_197 : decode cX12_dayGoes 197 = .ok (.bipush 24, 2) := by decide +kernel
theorem dX12_dayGoes_199 : decode cX12_dayGoes 199 = .ok (.irem, 1) := by decide +kernel
theorem dX12_dayGoes_200 : decode cX12_dayGoes 200 = .ok (.invokevirtual 142, 3) := by decide +kernel
theorem dX12_dayGoes_203 : decode cX12_dayGoes 203 = .ok (.istore_n 3, 1) := by decide +kernel
theorem dX12_dayGoes_204 : decode cX12_dayGoes 204 = .ok (.aload_n 0, 1) := by decide +kernel
theorem dX12_dayGoes_205 : decode cX12_dayGoes 205 = .ok (.iload_n 2, 1) := by decide +kernel
theorem dX12_dayGoes_206 : decode cX12_dayGoes 206 = .ok (.iconst 5, 1) := by decide +kernel
theorem dX12_dayGoes_207 : decode cX12_dayGoes 207 = .ok (.aload_n 0, 1) := by decide +kernel
theorem dX12_dayGoes_208 : decode cX12_dayGoes 208 = .ok (.iload_n 2, 1) := by decide +kernel
theorem dX12_dayGoes_209 : decode cX12_dayGoes 209 = .ok (.iconst 5, 1) := by decide +kernel
theorem dX12_dayGoes_210 : decode cX12_dayGoes 210 = .ok (.invokevirtual 146, 3) := by decide +kernel
theorem dX12_dayGoes_213 : decode cX12_dayGoes 213 = .ok (.iload_n 3, 1) := by decide +kernel
theorem dX12_dayGoes_214 : decode cX12_dayGoes 214 = .ok (.iadd, 1) := by decide +kernel
theorem dX12_dayGoes_215 : decode cX12_dayGoes 215 = .ok (.iconst 0, 1) := by decide +kernel
theorem dX12_dayGoes_216 : decode cX12_dayGoes 216 = .ok (.sipush 9999, 3) := by decide +kernel
theorem dX12_dayGoes_219 : decode cX12_dayGoes 219 = .ok (.invokestatic 139, 3) := by decide +kernel
theorem dX12_dayGoes_222 : decode cX12_dayGoes 222 = .ok (.invokevirtual 164, 3) := by decide +kernel
theorem dX12_dayGoes_225 : decode cX12_dayGoes 225 = .ok (.aload_n 0, 1) := by decide +kernel
theorem dX12_dayGoes_226 : decode cX12_dayGoes 226 = .ok (.getfield 7, 3) := by decide +kernel
theorem dX12_dayGoes_229 : decode cX12_dayGoes 229 = .ok (.iconst 4, 1) := by decide +kernel
theorem dX12_dayGoes_230 : decode cX12_dayGoes 230 = .ok (.aload_n 0, 1) := by decide +kernel
theorem dX12_dayGoes_231 : decode cX12_dayGoes 231 = .ok (.getfield 7, 3) := by decide +kernel
theorem dX12_dayGoes_234 : decode cX12_dayGoes 234 = .ok (.iconst 4, 1) := by decide +kernel
theorem dX12_dayGoes_235 : decode cX12_dayGoes 235 = .ok (.iaload, 1) := by decide +kernel
theorem dX12_dayGoes_236 : decode cX12_dayGoes 236 = .ok (.iload_n 3, 1) := by decide +kernel
theorem dX12_dayGoes_237 : decode cX12_dayGoes 237 = .ok (.iadd, 1) := by decide +kernel
theorem dX12_dayGoes_238 : decode cX12_dayGoes 238 = .ok (.iconst 0, 1) := by decide +kernel
theorem dX12_dayGoes_239 : decode cX12_dayGoes 239 = .ok (.ldc 170, 2) := by decide +kernel
theorem dX12_dayGoes_241 : decode cX12_dayGoes 241 = .ok (.invokestatic 139, 3) := by decide +kernel
theorem dX12_dayGoes_244 : decode cX12_dayGoes 244 = .ok (.iastore, 1) := by decide +kernel
theorem dX12_dayGoes_245 : decode cX12_dayGoes 245 = .ok (.iinc 2 1, 3) := by decide +kernel
theorem dX12_dayGoes_248 : decode cX12_dayGoes 248 = .ok (.goto (-92), 3) := by decide +kernel
theorem dX12_dayGoes_251 : decode cX12_dayGoes 251 = .ok (.aload_n 0, 1) := by decide +kernel
theorem dX12_dayGoes_252 : decode cX12_dayGoes 252 = .ok (.getfield 7, 3) := by decide +kernel
theorem dX12_dayGoes_255 : decode cX12_dayGoes 255 = .ok (.iconst 1, 1) := by decide +kernel
theorem dX12_dayGoes_256 : decode cX12_dayGoes 256 = .ok (.dup2, 1) := by decide +kernel
theorem dX12_dayGoes_257 : decode cX12_dayGoes 257 = .ok (.iaload, 1) := by decide +kernel
theorem dX12_dayGoes_258 : decode cX12_dayGoes 258 = .ok (.iconst 1, 1) := by decide +kernel
theorem dX12_dayGoes_259 : decode cX12_dayGoes 259 = .ok (.iadd, 1) := by decide +kernel
theorem dX12_dayGoes_260 : decode cX12_dayGoes 260 = .ok (.iastore, 1) := by decide +kernel
theorem dX12_dayGoes_261 : decode cX12_dayGoes 261 = .ok (.aload_n 0, 1) := by decide +kernel
theorem dX12_dayGoes_262 : decode cX12_dayGoes 262 = .ok (.getfield 7, 3) := by decide +kernel
theorem dX12_dayGoes_265 : decode cX12_dayGoes 265 = .ok (.iconst 1, 1) := by decide +kernel
theorem dX12_dayGoes_266 : decode cX12_dayGoes 266 = .ok (.iaload, 1) := by decide +kernel
theorem dX12_dayGoes_267 : decode cX12_dayGoes 267 = .ok (.aload_n 0, 1) := by decide +kernel
theorem dX12_dayGoes_268 : decode cX12_dayGoes 268 = .ok (.getfield 7, 3) := by decide +kernel
theorem dX12_dayGoes_271 : decode cX12_dayGoes 271 = .ok (.iconst 3, 1) := by decide +kernel
theorem dX12_dayGoes_272 : decode cX12_dayGoes 272 = .ok (.iaload, 1) := by decide +kernel
theorem dX12_dayGoes_273 : decode cX12_dayGoes 273 = .ok (.irem, 1) := by decide +kernel
theorem dX12_dayGoes_274 : decode cX12_dayGoes 274 = .ok (.ifCond .ne 49, 3) := by decide +kernel
theorem dX12_dayGoes_277 : decode cX12_dayGoes 277 = .ok (.iconst 0, 1) := by decide +kernel
theorem dX12_dayGoes_278 : decode cX12_dayGoes 278 = .ok (.istore_n 2, 1) := by decide +kernel
theorem dX12_dayGoes_279 : decode cX12_dayGoes 279 = .ok (.iload_n 2, 1) := by decide +kernel
theorem dX12_dayGoes_280 : decode cX12_dayGoes 280 = .ok (.aload_n 0, 1) := by decide +kernel
theorem dX12_dayGoes_281 : decode cX12_dayGoes 281 = .ok (.getfield 7, 3) := by decide +kernel
theorem dX12_dayGoes_284 : decode cX12_dayGoes 284 = .ok (.iconst 0, 1) := by decide +kernel
theorem dX12_dayGoes_285 : decode cX12_dayGoes 285 = .ok (.iaload, 1) := by decide +kernel
theorem dX12_dayGoes_286 : decode cX12_dayGoes 286 = .ok (.if_icmp .ge 37, 3) := by decide +kernel
theorem dX12_dayGoes_289 : decode cX12_dayGoes 289 = .ok (.aload_n 0, 1) := by decide +kernel
theorem dX12_dayGoes_290 : decode cX12_dayGoes 290 = .ok (.iload_n 2, 1) := by decide +kernel
theorem dX12_dayGoes_291 : decode cX12_dayGoes 291 = .ok (.invokevirtual 149, 3) := by decide +kernel
theorem dX12_dayGoes_294 : decode cX12_dayGoes 294 = .ok (.ifCond .eq 23, 3) := by decide +kernel
theorem dX12_dayGoes_297 : decode cX12_dayGoes 297 = .ok (.aload_n 0, 1) := by decide +kernel
theorem dX12_dayGoes_298 : decode cX12_dayGoes 298 = .ok (.iload_n 2, 1) := by decide +kernel
theorem dX12_dayGoes_299 : decode cX12_dayGoes 299 = .ok (.invokevirtual 152, 3) := by decide +kernel
theorem dX12_dayGoes_302 : decode cX12_dayGoes 302 = .ok (.ifCond .ne 15, 3) := by decide +kernel
theorem dX12_dayGoes_305 : decode cX12_dayGoes 305 = .ok (.aload_n 0, 1) := by decide +kernel
theorem dX12_dayGoes_306 : decode cX12_dayGoes 306 = .ok (.iload_n 2, 1) := by decide +kernel
theorem dX12_dayGoes_307 : decode cX12_dayGoes 307 = .ok (.iconst 4, 1) := by decide +kernel
theorem dX12_dayGoes_308 : decode cX12_dayGoes 308 = .ok (.aload_n 0, 1) := by decide +kernel
theorem dX12_dayGoes_309 : decode cX12_dayGoes 309 = .ok (.iload_n 2, 1) := by decide +kernel
theorem dX12_dayGoes_310 : decode cX12_dayGoes 310 = .ok (.iconst 2, 1) := by decide +kernel
theorem dX12_dayGoes_311 : decode cX12_dayGoes 311 = .ok (.invokevirtual 146, 3) := by decide +kernel
theorem dX12_dayGoes_314 : decode cX12_dayGoes 314 = .ok (.invokevirtual 164, 3) := by decide +kernel
theorem dX12_dayGoes_317 : decode cX12_dayGoes 317 = .ok (.iinc 2 1, 3) := by decide +kernel
theorem dX12_dayGoes_320 : decode cX12_dayGoes 320 = .ok (.goto (-41), 3) := by decide +kernel
theorem dX12_dayGoes_323 : decode cX12_dayGoes 323 = .ok (.return_, 1) := by decide +kernel
theorem dX12_daysGo_0 : decode cX12_daysGo 0 = .ok (.iconst 0, 1) := by decide +kernel
theorem dX12_daysGo_1 : decode cX12_daysGo 1 = .ok (.istore_n 2, 1) := by decide +kernel
theorem dX12_daysGo_2 : decode cX12_daysGo 2 = .ok (.iload_n 2, 1) := by decide +kernel
theorem dX12_daysGo_3 : decode cX12_daysGo 3 = .ok (.iload_n 1, 1) := by decide +kernel
theorem dX12_daysGo_4 : decode cX12_daysGo 4 = .ok (.if_icmp .ge 13, 3) := by decide +kernel
theorem dX12_daysGo_7 : decode cX12_daysGo 7 = .ok (.aload_n 0, 1) := by decide +kernel
theorem dX12_daysGo_8 : decode cX12_daysGo 8 = .ok (.invokevirtual 171, 3) := by decide +kernel
theorem dX12_daysGo_11 : decode cX12_daysGo 11 = .ok (.iinc 2 1, 3) := by decide +kernel
theorem dX12_daysGo_14 : decode cX12_daysGo 14 = .ok (.goto (-12), 3) := by decide +kernel
theorem dX12_daysGo_17 : decode cX12_daysGo 17 = .ok (.return_, 1) := by decide +kernel
theorem dX12_lying_0 : decode cX12_lying 0 = .ok (.iconst 0, 1) := by decide +kernel
theorem dX12_lying_1 : decode cX12_lying 1 = .ok (.istore_n 2, 1) := by decide +kernel
theorem dX12_lying_2 : decode cX12_lying 2 = .ok (.iconst 0, 1) := by decide +kernel
theorem dX12_lying_3 : decode cX12_lying 3 = .ok (.istore_n 3, 1) := by decide +kernel
theorem dX12_lying_4 : decode cX12_lying 4 = .ok (.iload_n 3, 1) := by decide +kernel
theorem dX12_lying_5 : decode cX12_lying 5 = .ok (.aload_n 0, 1) := by decide +kernel
theorem dX12_lying_6 : decode cX12_lying 6 = .ok (.getfield 7, 3) := by decide +kernel
theorem dX12_lying_9 : decode cX12_lying 9 = .ok (.iconst 0, 1) := by decide +kernel
theorem dX12_lying_10 : decode cX12_lying 10 = .ok (.iaload, 1) := by decide +kernel
theorem dX12_lying_11 : decode cX12_lying 11 = .ok (.if_icmp .ge 29, 3) := by decide +kernel
theorem dX12_lying_14 : decode cX12_lying 14 = .ok (.iload_n 2, 1) := by decide +kernel
theorem dX12_lying_15 : decode cX12_lying 15 = .ok (.aload_n 0, 1) := by decide +kernel
theorem dX12_lying_16 : decode cX12_lying 16 = .ok (.iload_n 3, 1) := by decide +kernel
theorem dX12_lying_17 : decode cX12_lying 17 = .ok (.iconst 4, 1) := by decide +kernel
theorem dX12_lying_18 : decode cX12_lying 18 = .ok (.invokevirtual 146, 3) := by decide +kernel
theorem dX12_lying_21 : decode cX12_lying 21 = .ok (.iload_n 1, 1) := by decide +kernel
theorem dX12_lying_22 : decode cX12_lying 22 = .ok (.if_icmp .ne 9, 3) := by decide +kernel
theorem dX12_lying_25 : decode cX12_lying 25 = .ok (.iconst 1, 1) := by decide +kernel
theorem dX12_lying_26 : decode cX12_lying 26 = .ok (.iload_n 3, 1) := by decide +kernel
theorem dX12_lying_27 : decode cX12_lying 27 = .ok (.ishl, 1) := by decide +kernel
theorem dX12_lying_28 : decode cX12_lying 28 = .ok (.goto 4, 3) := by decide +kernel
theorem dX12_lying_31 : decode cX12_lying 31 = .ok (.iconst 0, 1) := by decide +kernel
theorem dX12_lying_32 : decode cX12_lying 32 = .ok (.ior, 1) := by decide +kernel
theorem dX12_lying_33 : decode cX12_lying 33 = .ok (.istore_n 2, 1) := by decide +kernel
theorem dX12_lying_34 : decode cX12_lying 34 = .ok (.iinc 3 1, 3) := by decide +kernel
theorem dX12_lying_37 : decode cX12_lying 37 = .ok (.goto (-33), 3) := by decide +kernel
theorem dX12_lying_40 : decode cX12_lying 40 = .ok (.iload_n 2, 1) := by decide +kernel
theorem dX12_lying_41 : decode cX12_lying 41 = .ok (.ireturn, 1) := by decide +kernel
theorem dX12_bits_0 : decode cX12_bits 0 = .ok (.iconst 0, 1) := by decide +kernel
theorem dX12_bits_1 : decode cX12_bits 1 = .ok (.istore_n 1, 1) := by decide +kernel
theorem dX12_bits_2 : decode cX12_bits 2 = .ok (.iconst 0, 1) := by decide +kernel
theorem dX12_bits_3 : decode cX12_bits 3 = .ok (.istore_n 2, 1) := by decide +kernel
theorem dX12_bits_4 : decode cX12_bits 4 = .ok (.iload_n 2, 1) := by decide +kernel
theorem dX12_bits_5 : decode cX12_bits 5 = .ok (.bipush 16, 2) := by decide +kernel
theorem dX12_bits_7 : decode cX12_bits 7 = .ok (.if_icmp .ge 17, 3) := by decide +kernel
theorem dX12_bits_10 : decode cX12_bits 10 = .ok (.iload_n 1, 1) := by decide +kernel
theorem dX12_bits_11 : decode cX12_bits 11 = .ok (.iload_n 0, 1) := by decide +kernel
theorem dX12_bits_12 : decode cX12_bits 12 = .ok (.iload_n 2, 1) := by decide +kernel
theorem dX12_bits_13 : decode cX12_bits 13 = .ok (.ishr, 1) := by decide +kernel
theorem dX12_bits_14 : decode cX12_bits 14 = .ok (.iconst 1, 1) := by decide +kernel
theorem dX12_bits_15 : decode cX12_bits 15 = .ok (.iand, 1) := by decide +kernel
theorem dX12_bits_16 : decode cX12_bits 16 = .ok (.iadd, 1) := by decide +kernel
theorem dX12_bits_17 : decode cX12_bits 17 = .ok (.istore_n 1, 1) := by decide +kernel
theorem dX12_bits_18 : decode cX12_bits 18 = .ok (.iinc 2 1, 3) := by decide +kernel
theorem dX12_bits_21 : decode cX12_bits 21 = .ok (.goto (-17), 3) := by decide +kernel
theorem dX12_bits_24 : decode cX12_bits 24 = .ok (.iload_n 1, 1) := by decide +kernel
theorem dX12_bits_25 : decode cX12_bits 25 = .ok (.ireturn, 1) := by decide +kernel
theorem dX12_becomes_0 : decode cX12_becomes 0 = .ok (.aload_n 0, 1) := by decide +kernel
theorem dX12_becomes_1 : decode cX12_becomes 1 = .ok (.getfield 7, 3) := by decide +kernel
theorem dX12_becomes_4 : decode cX12_becomes 4 = .ok (.iload_n 1, 1) := by decide +kernel
theorem dX12_becomes_5 : decode cX12_becomes 5 = .ok (.iaload, 1) := by decide +kernel
theorem dX12_becomes_6 : decode cX12_becomes 6 = .ok (.istore_n 3, 1) := by decide +kernel
theorem dX12_becomes_7 : decode cX12_becomes 7 = .ok (.aload_n 0, 1) := by decide +kernel
theorem dX12_becomes_8 : decode cX12_becomes 8 = .ok (.getfield 7, 3) := by decide +kernel
theorem dX12_becomes_11 : decode cX12_becomes 11 = .ok (.iload_n 1, 1) := by decide +kernel
theorem dX12_becomes_12 : decode cX12_becomes 12 = .ok (.iload_n 2, 1) := by decide +kernel
theorem dX12_becomes_13 : decode cX12_becomes 13 = .ok (.iastore, 1) := by decide +kernel
theorem dX12_becomes_14 : decode cX12_becomes 14 = .ok (.iload_n 3, 1) := by decide +kernel
theorem dX12_becomes_15 : decode cX12_becomes 15 = .ok (.ireturn, 1) := by decide +kernel
theorem dX12_sill_0 : decode cX12_sill 0 = .ok (.iload_n 1, 1) := by decide +kernel
theorem dX12_sill_1 : decode cX12_sill 1 = .ok (.invokestatic 174, 3) := by decide +kernel
theorem dX12_sill_4 : decode cX12_sill 4 = .ok (.ifCond .eq 52, 3) := by decide +kernel
theorem dX12_sill_7 : decode cX12_sill 7 = .ok (.iload_n 2, 1) := by decide +kernel
theorem dX12_sill_8 : decode cX12_sill 8 = .ok (.i2l, 1) := by decide +kernel
theorem dX12_sill_9 : decode cX12_sill 9 = .ok (.lconst 0, 1) := by decide +kernel
theorem dX12_sill_10 : decode cX12_sill 10 = .ok (.lconst 1, 1) := by decide +kernel
theorem dX12_sill_11 : decode cX12_sill 11 = .ok (.invokestatic 47, 3) := by decide +kernel
theorem dX12_sill_14 : decode cX12_sill 14 = .ok (.ifCond .eq 42, 3) := by decide +kernel
theorem dX12_sill_17 : decode cX12_sill 17 = .ok (.iload_n 3, 1) := by decide +kernel
theorem dX12_sill_18 : decode cX12_sill 18 = .ok (.i2l, 1) := by decide +kernel
theorem dX12_sill_19 : decode cX12_sill 19 = .ok (.lconst 0, 1) := by decide +kernel
theorem dX12_sill_20 : decode cX12_sill 20 = .ok (.iload_n 2, 1) := by decide +kernel
theorem dX12_sill_21 : decode cX12_sill 21 = .ok (.ifCond .ne 9, 3) := by decide +kernel
theorem dX12_sill_24 : decode cX12_sill 24 = .ok (.ldc2_w 177, 3) := by decide +kernel
theorem dX12_sill_27 : decode cX12_sill 27 = .ok (.goto 6, 3) := by decide +kernel
theorem dX12_sill_30 : decode cX12_sill 30 = .ok (.ldc2_w 51, 3) := by decide +kernel
theorem dX12_sill_33 : decode cX12_sill 33 = .ok (.invokestatic 47, 3) := by decide +kernel
theorem dX12_sill_36 : decode cX12_sill 36 = .ok (.ifCond .eq 20, 3) := by decide +kernel
theorem dX12_sill_39 : decode cX12_sill 39 = .ok (.aload_n 0, 1) := by decide +kernel
theorem dX12_sill_40 : decode cX12_sill 40 = .ok (.bipush 8, 2) := by decide +kernel
theorem dX12_sill_42 : decode cX12_sill 42 = .ok (.bipush 16, 2) := by decide +kernel
theorem dX12_sill_44 : decode cX12_sill 44 = .ok (.iload_n 2, 1) := by decide +kernel
theorem dX12_sill_45 : decode cX12_sill 45 = .ok (.imul, 1) := by decide +kernel
theorem dX12_sill_46 : decode cX12_sill 46 = .ok (.iadd, 1) := by decide +kernel
theorem dX12_sill_47 : decode cX12_sill 47 = .ok (.iload_n 1, 1) := by decide +kernel
theorem dX12_sill_48 : decode cX12_sill 48 = .ok (.iadd, 1) := by decide +kernel
theorem dX12_sill_49 : decode cX12_sill 49 = .ok (.iload_n 3, 1) := by decide +kernel
theorem dX12_sill_50 : decode cX12_sill 50 = .ok (.invokevirtual 179, 3) := by decide +kernel
theorem dX12_sill_53 : decode cX12_sill 53 = .ok (.goto 8, 3) := by decide +kernel
theorem dX12_sill_56 : decode cX12_sill 56 = .ok (.aload_n 0, 1) := by decide +kernel
theorem dX12_sill_57 : decode cX12_sill 57 = .ok (.iconst 1, 1) := by decide +kernel
theorem dX12_sill_58 : decode cX12_sill 58 = .ok (.invokevirtual 126, 3) := by decide +kernel
theorem dX12_sill_61 : decode cX12_sill 61 = .ok (.ireturn, 1) := by decide +kernel
theorem dX12_ofSill_0 : decode cX12_ofSill 0 = .ok (.iload_n 1, 1) := by decide +kernel
theorem dX12_ofSill_1 : decode cX12_ofSill 1 = .ok (.invokestatic 174, 3) := by decide +kernel
theorem dX12_ofSill_4 : decode cX12_ofSill 4 = .ok (.ifCond .eq 15, 3) := by decide +kernel
theorem dX12_ofSill_7 : decode cX12_ofSill 7 = .ok (.iload_n 2, 1) := by decide +kernel
theorem dX12_ofSill_8 : decode cX12_ofSill 8 = .ok (.i2l, 1) := by decide +kernel
theorem dX12_ofSill_9 : decode cX12_ofSill 9 = .ok (.lconst 0, 1) := by decide +kernel
theorem dX12_ofSill_10 : decode cX12_ofSill 10 = .ok (.ldc2_w 182, 3) := by decide +kernel
theorem dX12_ofSill_13 : decode cX12_ofSill 13 = .ok (.invokestatic 47, 3) := by decide +kernel
theorem dX12_ofSill_16 : decode cX12_ofSill 16 = .ok (.ifCond .ne 9, 3) := by decide +kernel
theorem dX12_ofSill_19 : decode cX12_ofSill 19 = .ok (.aload_n 0, 1) := by decide +kernel
theorem dX12_ofSill_20 : decode cX12_ofSill 20 = .ok (.iconst 1, 1) := by decide +kernel
theorem dX12_ofSill_21 : decode cX12_ofSill 21 = .ok (.invokevirtual 126, 3) := by decide +kernel
theorem dX12_ofSill_24 : decode cX12_ofSill 24 = .ok (.ireturn, 1) := by decide +kernel
theorem dX12_ofSill_25 : decode cX12_ofSill 25 = .ok (.iload_n 2, 1) := by decide +kernel
theorem dX12_ofSill_26 : decode cX12_ofSill 26 = .ok (.iconst 3, 1) := by decide +kernel
theorem dX12_ofSill_27 : decode cX12_ofSill 27 = .ok (.if_icmp .ge 31, 3) := by decide +kernel
theorem dX12_ofSill_30 : decode cX12_ofSill 30 = .ok (.iload_n 2, 1) := by decide +kernel
theorem dX12_ofSill_31 : decode cX12_ofSill 31 = .ok (.iconst 2, 1) := by decide +kernel
theorem dX12_ofSill_32 : decode cX12_ofSill 32 = .ok (.if_icmp .ge 20, 3) := by decide +kernel
theorem dX12_ofSill_35 : decode cX12_ofSill 35 = .ok (.aload_n 0, 1) := by decide +kernel
theorem dX12_ofSill_36 : decode cX12_ofSill 36 = .ok (.getfield 7, 3) := by decide +kernel
theorem dX12_ofSill_39 : decode cX12_ofSill 39 = .ok (.bipush 8, 2) := by decide +kernel
theorem dX12_ofSill_41 : decode cX12_ofSill 41 = .ok (.bipush 16, 2) := by decide +kernel
theorem dX12_ofSill_43 : decode cX12_ofSill 43 = .ok (.iload_n 2, 1) := by decide +kernel
theorem dX12_ofSill_44 : decode cX12_ofSill 44 = .ok (.imul, 1) := by decide +kernel
theorem dX12_ofSill_45 : decode cX12_ofSill 45 = .ok (.iadd, 1) := by decide +kernel
theorem dX12_ofSill_46 : decode cX12_ofSill 46 = .ok (.iload_n 1, 1) := by decide +kernel
theorem dX12_ofSill_47 : decode cX12_ofSill 47 = .ok (.iadd, 1) := by decide +kernel
theorem dX12_ofSill_48 : decode cX12_ofSill 48 = .ok (.iaload, 1) := by decide +kernel
theorem dX12_ofSill_49 : decode cX12_ofSill 49 = .ok (.goto 8, 3) := by decide +kernel
theorem dX12_ofSill_52 : decode cX12_ofSill 52 = .ok (.aload_n 0, 1) := by decide +kernel
theorem dX12_ofSill_53 : decode cX12_ofSill 53 = .ok (.iload_n 1, 1) := by decide +kernel
theorem dX12_ofSill_54 : decode cX12_ofSill 54 = .ok (.invokevirtual 184, 3) := by decide +kernel
theorem dX12_ofSill_57 : decode cX12_ofSill 57 = .ok (.ireturn, 1) := by decide +kernel
theorem dX12_ofSill_58 : decode cX12_ofSill 58 = .ok (.iconst 0, 1) := by decide +kernel
theorem dX12_ofSill_59 : decode cX12_ofSill 59 = .ok (.istore_n 3, 1) := by decide +kernel
theorem dX12_ofSill_60 : decode cX12_ofSill 60 = .ok (.iconst 0, 1) := by decide +kernel
theorem dX12_ofSill_61 : decode cX12_ofSill 61 = .ok (.istore 4, 2) := by decide +kernel
theorem dX12_ofSill_63 : decode cX12_ofSill 63 = .ok (.iload 4, 2) := by decide +kernel
theorem dX12_ofSill_65 : decode cX12_ofSill 65 = .ok (.aload_n 0, 1) := by decide +kernel
theorem dX12_ofSill_66 : decode cX12_ofSill 66 = .ok (.getfield 7, 3) := by decide +kernel
theorem dX12_ofSill_69 : decode cX12_ofSill 69 = .ok (.iconst 0, 1) := by decide +kernel
theorem dX12_ofSill_70 : decode cX12_ofSill 70 = .ok (.iaload, 1) := by decide +kernel
theorem dX12_ofSill_71 : decode cX12_ofSill 71 = .ok (.if_icmp .ge 31, 3) := by decide +kernel
theorem dX12_ofSill_74 : decode cX12_ofSill 74 = .ok (.iload_n 3, 1) := by decide +kernel
theorem dX12_ofSill_75 : decode cX12_ofSill 75 = .ok (.aload_n 0, 1) := by decide +kernel
theorem dX12_ofSill_76 : decode cX12_ofSill 76 = .ok (.iload 4, 2) := by decide +kernel
theorem dX12_ofSill_78 : decode cX12_ofSill 78 = .ok (.iconst 2, 1) := by decide +kernel
theorem dX12_ofSill_79 : decode cX12_ofSill 79 = .ok (.invokevirtual 146, 3) := by decide +kernel
theorem dX12_ofSill_82 : decode cX12_ofSill 82 = .ok (.iload_n 1, 1) := by decide +kernel
theorem dX12_ofSill_83 : decode cX12_ofSill 83 = .ok (.if_icmp .ne 10, 3) := by decide +kernel
theorem dX12_ofSill_86 : decode cX12_ofSill 86 = .ok (.iconst 1, 1) := by decide +kernel
theorem dX12_ofSill_87 : decode cX12_ofSill 87 = .ok (.iload 4, 2) := by decide +kernel
theorem dX12_ofSill_89 : decode cX12_ofSill 89 = .ok (.ishl, 1) := by decide +kernel
theorem dX12_ofSill_90 : decode cX12_ofSill 90 = .ok (.goto 4, 3) := by decide +kernel
theorem dX12_ofSill_93 : decode cX12_ofSill 93 = .ok (.iconst 0, 1) := by decide +kernel
theorem dX12_ofSill_94 : decode cX12_ofSill 94 = .ok (.ior, 1) := by decide +kernel
theorem dX12_ofSill_95 : decode cX12_ofSill 95 = .ok (.istore_n 3, 1) := by decide +kernel
theorem dX12_ofSill_96 : decode cX12_ofSill 96 = .ok (.iinc 4 1, 3) := by decide +kernel
theorem dX12_ofSill_99 : decode cX12_ofSill 99 = .ok (.goto (-36), 3) := by decide +kernel
theorem dX12_ofSill_102 : decode cX12_ofSill 102 = .ok (.iload_n 3, 1) := by decide +kernel
theorem dX12_ofSill_103 : decode cX12_ofSill 103 = .ok (.ireturn, 1) := by decide +kernel
theorem dX12_town_0 : decode cX12_town 0 = .ok (.iload_n 1, 1) := by decide +kernel
theorem dX12_town_1 : decode cX12_town 1 = .ok (.ifCond .ne 15, 3) := by decide +kernel
theorem dX12_town_4 : decode cX12_town 4 = .ok (.iload_n 2, 1) := by decide +kernel
theorem dX12_town_5 : decode cX12_town 5 = .ok (.i2l, 1) := by decide +kernel
theorem dX12_town_6 : decode cX12_town 6 = .ok (.lconst 0, 1) := by decide +kernel
theorem dX12_town_7 : decode cX12_town 7 = .ok (.ldc2_w 177, 3) := by decide +kernel
theorem dX12_town_10 : decode cX12_town 10 = .ok (.invokestatic 47, 3) := by decide +kernel
theorem dX12_town_13 : decode cX12_town 13 = .ok (.goto 42, 3) := by decide +kernel
theorem dX12_town_16 : decode cX12_town 16 = .ok (.iload_n 1, 1) := by decide +kernel
theorem dX12_town_17 : decode cX12_town 17 = .ok (.iconst 1, 1) := by decide +kernel
theorem dX12_town_18 : decode cX12_town 18 = .ok (.if_icmp .ne 15, 3) := by decide +kernel
theorem dX12_town_21 : decode cX12_town 21 = .ok (.iload_n 2, 1) := by decide +kernel
theorem dX12_town_22 : decode cX12_town 22 = .ok (.i2l, 1) := by decide +kernel
theorem dX12_town_23 : decode cX12_town 23 = .ok (.lconst 1, 1) := by decide +kernel
theorem dX12_town_24 : decode cX12_town 24 = .ok (.ldc2_w 187, 3) := by decide +kernel
theorem dX12_town_27 : decode cX12_town 27 = .ok (.invokestatic 47, 3) := by decide +kernel
theorem dX12_town_30 : decode cX12_town 30 = .ok (.goto 25, 3) := by decide +kernel
theorem dX12_town_33 : decode cX12_town 33 = .ok (.iload_n 1, 1) := by decide +kernel
theorem dX12_town_34 : decode cX12_town 34 = .ok (.iconst 2, 1) := by decide +kernel
theorem dX12_town_35 : decode cX12_town 35 = .ok (.if_icmp .ne 19, 3) := by decide +kernel
theorem dX12_town_38 : decode cX12_town 38 = .ok (.iload_n 2, 1) := by decide +kernel
theorem dX12_town_39 : decode cX12_town 39 = .ok (.i2l, 1) := by decide +kernel
theorem dX12_town_40 : decode cX12_town 40 = .ok (.lconst 0, 1) := by decide +kernel
theorem dX12_town_41 : decode cX12_town 41 = .ok (.ldc2_w 189, 3) := by decide +kernel
theorem dX12_town_44 : decode cX12_town 44 = .ok (.invokestatic 47, 3) := by decide +kernel
theorem dX12_town_47 : decode cX12_town 47 = .ok (.ifCond .eq 7, 3) := by decide +kernel
theorem dX12_town_50 : decode cX12_town 50 = .ok (.iconst 1, 1) := by decide +kernel
theorem dX12_town_51 : decode cX12_town 51 = .ok (.goto 4, 3) := by decide +kernel
theorem dX12_town_54 : decode cX12_town 54 = .ok (.iconst 0, 1) := by decide +kernel
theorem dX12_town_55 : decode cX12_town 55 = .ok (.istore_n 3, 1) := by decide +kernel
theorem dX12_town_56 : decode cX12_town 56 = .ok (.iload_n 3, 1) := by decide +kernel
theorem dX12_town_57 : decode cX12_town 57 = .ok (.ifCond .eq 14, 3) := by decide +kernel
theorem dX12_town_60 : decode cX12_town 60 = .ok (.aload_n 0, 1) := by decide +kernel
theorem dX12_town_61 : decode cX12_town 61 = .ok (.iconst 2, 1) := by decide +kernel
theorem dX12_town_62 : decode cX12_town 62 = .ok (.iload_n 1, 1) := by decide +kernel
theorem dX12_town_63 : decode cX12_town 63 = .ok (.iadd, 1) := by decide +kernel
theorem dX12_town_64 : decode cX12_town 64 = .ok (.iload_n 2, 1) := by decide +kernel
theorem dX12_town_65 : decode cX12_town 65 = .ok (.invokevirtual 179, 3) := by decide +kernel
theorem dX12_town_68 : decode cX12_town 68 = .ok (.goto 8, 3) := by decide +kernel
theorem dX12_town_71 : decode cX12_town 71 = .ok (.aload_n 0, 1) := by decide +kernel
theorem dX12_town_72 : decode cX12_town 72 = .ok (.iconst 1, 1) := by decide +kernel
theorem dX12_town_73 : decode cX12_town 73 = .ok (.invokevirtual 126, 3) := by decide +kernel
theorem dX12_town_76 : decode cX12_town 76 = .ok (.ireturn, 1) := by decide +kernel
theorem dX12_leaves_0 : decode cX12_leaves 0 = .ok (.aload_n 0, 1) := by decide +kernel
theorem dX12_leaves_1 : decode cX12_leaves 1 = .ok (.iload_n 1, 1) := by decide +kernel
theorem dX12_leaves_2 : decode cX12_leaves 2 = .ok (.iconst 3, 1) := by decide +kernel
theorem dX12_leaves_3 : decode cX12_leaves 3 = .ok (.iload_n 2, 1) := by decide +kernel
theorem dX12_leaves_4 : decode cX12_leaves 4 = .ok (.invokevirtual 164, 3) := by decide +kernel
theorem dX12_leaves_7 : decode cX12_leaves 7 = .ok (.aload_n 0, 1) := by decide +kernel
theorem dX12_leaves_8 : decode cX12_leaves 8 = .ok (.iload_n 1, 1) := by decide +kernel
theorem dX12_leaves_9 : decode cX12_leaves 9 = .ok (.iconst 4, 1) := by decide +kernel
theorem dX12_leaves_10 : decode cX12_leaves 10 = .ok (.iload_n 2, 1) := by decide +kernel
theorem dX12_leaves_11 : decode cX12_leaves 11 = .ok (.ifCond .ne 12, 3) := by decide +kernel
theorem dX12_leaves_14 : decode cX12_leaves 14 = .ok (.aload_n 0, 1) := by decide +kernel
theorem dX12_leaves_15 : decode cX12_leaves 15 = .ok (.iload_n 1, 1) := by decide +kernel
theorem dX12_leaves_16 : decode cX12_leaves 16 = .ok (.iconst 2, 1) := by decide +kernel
theorem dX12_leaves_17 : decode cX12_leaves 17 = .ok (.invokevirtual 146, 3) := by decide +kernel
theorem dX12_leaves_20 : decode cX12_leaves 20 = .ok (.goto 4, 3) := by decide +kernel
theorem dX12_leaves_23 : decode cX12_leaves 23 = .ok (.iconst (-1), 1) := by decide +kernel
theorem dX12_leaves_24 : decode cX12_leaves 24 = .ok (.invokevirtual 164, 3) := by decide +kernel
theorem dX12_leaves_27 : decode cX12_leaves 27 = .ok (.return_, 1) := by decide +kernel
theorem dX12_heir_0 : decode cX12_heir 0 = .ok (.iload_n 1, 1) := by decide +kernel
theorem dX12_heir_1 : decode cX12_heir 1 = .ok (.i2l, 1) := by decide +kernel
theorem dX12_heir_2 : decode cX12_heir 2 = .ok (.lconst 0, 1) := by decide +kernel
theorem dX12_heir_3 : decode cX12_heir 3 = .ok (.ldc2_w 191, 3) := by decide +kernel
theorem dX12_heir_6 : decode cX12_heir 6 = .ok (.invokestatic 47, 3) := by decide +kernel
theorem dX12_heir_9 : decode cX12_heir 9 = .ok (.ifCond .eq 22, 3) := by decide +kernel
theorem dX12_heir_12 : decode cX12_heir 12 = .ok (.iload_n 2, 1) := by decide +kernel
theorem dX12_heir_13 : decode cX12_heir 13 = .ok (.invokestatic 174, 3) := by decide +kernel
theorem dX12_heir_16 : decode cX12_heir 16 = .ok (.ifCond .eq 15, 3) := by decide +kernel
theorem dX12_heir_19 : decode cX12_heir 19 = .ok (.iload_n 3, 1) := by decide +kernel
theorem dX12_heir_20 : decode cX12_heir 20 = .ok (.i2l, 1) := by decide +kernel
theorem dX12_heir_21 : decode cX12_heir 21 = .ok (.lconst 0, 1) := by decide +kernel
theorem dX12_heir_22 : decode cX12_heir 22 = .ok (.ldc2_w 193, 3) := by decide +kernel
theorem dX12_heir_25 : decode cX12_heir 25 = .ok (.invokestatic 47, 3) := by decide +kernel
theorem dX12_heir_28 : decode cX12_heir 28 = .ok (.ifCond .ne 9, 3) := by decide +kernel
theorem dX12_heir_31 : decode cX12_heir 31 = .ok (.aload_n 0, 1) := by decide +kernel
theorem dX12_heir_32 : decode cX12_heir 32 = .ok (.iconst 1, 1) := by decide +kernel
theorem dX12_heir_33 : decode cX12_heir 33 = .ok (.invokevirtual 126, 3) := by decide +kernel
theorem dX12_heir_36 : decode cX12_heir 36 = .ok (.ireturn, 1) := by decide +kernel
theorem dX12_heir_37 : decode cX12_heir 37 = .ok (.aload_n 0, 1) := by decide +kernel
theorem dX12_heir_38 : decode cX12_heir 38 = .ok (.getfield 7, 3) := by decide +kernel
theorem dX12_heir_41 : decode cX12_heir 41 = .ok (.iconst 0, 1) := by decide +kernel
theorem dX12_heir_42 : decode cX12_heir 42 = .ok (.iaload, 1) := by decide +kernel
theorem dX12_heir_43 : decode cX12_heir 43 = .ok (.bipush 8, 2) := by decide +kernel
theorem dX12_heir_45 : decode cX12_heir 45 = .ok (.if_icmp .ne 9, 3) := by decide +kernel
theorem dX12_heir_48 : decode cX12_heir 48 = .ok (.aload_n 0, 1) := by decide +kernel
theorem dX12_heir_49 : decode cX12_heir 49 = .ok (.iconst 4, 1) := by decide +kernel
theorem dX12_heir_50 : decode cX12_heir 50 = .ok (.invokevirtual 126, 3) := by decide +kernel
theorem dX12_heir_53 : decode cX12_heir 53 = .ok (.ireturn, 1) := by decide +kernel
theorem dX12_heir_54 : decode cX12_heir 54 = .ok (.aload_n 0, 1) := by decide +kernel
theorem dX12_heir_55 : decode cX12_heir 55 = .ok (.getfield 7, 3) := by decide +kernel
theorem dX12_heir_58 : decode cX12_heir 58 = .ok (.iconst 0, 1) := by decide +kernel
theorem dX12_heir_59 : decode cX12_heir 59 = .ok (.iaload, 1) := by decide +kernel
theorem dX12_heir_60 : decode cX12_heir 60 = .ok (.istore 4, 2) := by decide +kernel
theorem dX12_heir_62 : decode cX12_heir 62 = .ok (.aload_n 0, 1) := by decide +kernel
theorem dX12_heir_63 : decode cX12_heir 63 = .ok (.iload 4, 2) := by decide +kernel
theorem dX12_heir_65 : decode cX12_heir 65 = .ok (.iconst 0, 1) := by decide +kernel
theorem dX12_heir_66 : decode cX12_heir 66 = .ok (.iload_n 1, 1) := by decide +kernel
theorem dX12_heir_67 : decode cX12_heir 67 = .ok (.bipush 10, 2) := by decide +kernel
theorem dX12_heir_69 : decode cX12_heir 69 = .ok (.idiv, 1) := by decide +kernel
theorem dX12_heir_70 : decode cX12_heir 70 = .ok (.invokevirtual 164, 3) := by decide +kernel
theorem dX12_heir_73 : decode cX12_heir 73 = .ok (.aload_n 0, 1) := by decide +kernel
theorem dX12_heir_74 : decode cX12_heir 74 = .ok (.iload 4, 2) := by decide +kernel
theorem dX12_heir_76 : decode cX12_heir 76 = .ok (.iconst 1, 1) := by decide +kernel
theorem dX12_heir_77 : decode cX12_heir 77 = .ok (.iload_n 1, 1) := by decide +kernel
theorem dX12_heir_78 : decode cX12_heir 78 = .ok (.bipush 10, 2) := by decide +kernel
theorem dX12_heir_80 : decode cX12_heir 80 = .ok (.irem, 1) := by decide +kernel
theorem dX12_heir_81 : decode cX12_heir 81 = .ok (.invokevirtual 164, 3) := by decide +kernel
theorem dX12_heir_84 : decode cX12_heir 84 = .ok (.aload_n 0, 1) := by decide +kernel
theorem dX12_heir_85 : decode cX12_heir 85 = .ok (.iload 4, 2) := by decide +kernel
theorem dX12_heir_87 : decode cX12_heir 87 = .ok (.iconst 2, 1) := by decide +kernel
theorem dX12_heir_88 : decode cX12_heir 88 = .ok (.iload_n 2, 1) := by decide +kernel
theorem dX12_heir_89 : decode cX12_heir 89 = .ok (.invokevirtual 164, 3) := by decide +kernel
theorem dX12_heir_92 : decode cX12_heir 92 = .ok (.aload_n 0, 1) := by decide +kernel
theorem dX12_heir_93 : decode cX12_heir 93 = .ok (.iload 4, 2) := by decide +kernel
theorem dX12_heir_95 : decode cX12_heir 95 = .ok (.iload_n 3, 1) := by decide +kernel
theorem dX12_heir_96 : decode cX12_heir 96 = .ok (.invokevirtual 195, 3) := by decide +kernel
theorem dX12_heir_99 : decode cX12_heir 99 = .ok (.aload_n 0, 1) := by decide +kernel
theorem dX12_heir_100 : decode cX12_heir 100 = .ok (.iload 4, 2) := by decide +kernel
theorem dX12_heir_102 : decode cX12_heir 102 = .ok (.iconst 5, 1) := by decide +kernel
theorem dX12_heir_103 : decode cX12_heir 103 = .ok (.iconst 0, 1) := by decide +kernel
theorem dX12_heir_104 : decode cX12_heir 104 = .ok (.invokevirtual 164, 3) := by decide +kernel
theorem dX12_heir_107 : decode cX12_heir 107 = .ok (.aload_n 0, 1) := by decide +kernel
theorem dX12_heir_108 : decode cX12_heir 108 = .ok (.getfield 7, 3) := by decide +kernel
theorem dX12_heir_111 : decode cX12_heir 111 = .ok (.iconst 0, 1) := by decide +kernel
theorem dX12_heir_112 : decode cX12_heir 112 = .ok (.dup2, 1) := by decide +kernel
theorem dX12_heir_113 : decode cX12_heir 113 = .ok (.iaload, 1) := by decide +kernel
theorem dX12_heir_114 : decode cX12_heir 114 = .ok (.iconst 1, 1) := by decide +kernel
theorem dX12_heir_115 : decode cX12_heir 115 = .ok (.iadd, 1) := by decide +kernel
theorem dX12_heir_116 : decode cX12_heir 116 = .ok (.iastore, 1) := by decide +kernel
theorem dX12_heir_117 : decode cX12_heir 117 = .ok (.iload 4, 2) := by decide +kernel
theorem dX12_heir_119 : decode cX12_heir 119 = .ok (.ireturn, 1) := by decide +kernel
theorem dX12_ofHeir_0 : decode cX12_ofHeir 0 = .ok (.aload_n 0, 1) := by decide +kernel
theorem dX12_ofHeir_1 : decode cX12_ofHeir 1 = .ok (.iload_n 1, 1) := by decide +kernel
theorem dX12_ofHeir_2 : decode cX12_ofHeir 2 = .ok (.invokevirtual 199, 3) := by decide +kernel
theorem dX12_ofHeir_5 : decode cX12_ofHeir 5 = .ok (.ifCond .eq 15, 3) := by decide +kernel
theorem dX12_ofHeir_8 : decode cX12_ofHeir 8 = .ok (.iload_n 2, 1) := by decide +kernel
theorem dX12_ofHeir_9 : decode cX12_ofHeir 9 = .ok (.i2l, 1) := by decide +kernel
theorem dX12_ofHeir_10 : decode cX12_ofHeir 10 = .ok (.lconst 0, 1) := by decide +kernel
theorem dX12_ofHeir_11 : decode cX12_ofHeir 11 = .ok (.ldc2_w 177, 3) := by decide +kernel
theorem dX12_ofHeir_14 : decode cX12_ofHeir 14 = .ok (.invokestatic 47, 3) := by decide +kernel
theorem dX12_ofHeir_17 : decode cX12_ofHeir 17 = .ok (.ifCond .ne 9, 3) := by decide +kernel
theorem dX12_ofHeir_20 : decode cX12_ofHeir 20 = .ok (.aload_n 0, 1) := by decide +kernel
theorem dX12_ofHeir_21 : decode cX12_ofHeir 21 = .ok (.iconst 1, 1) := by decide +kernel
theorem dX12_ofHeir_22 : decode cX12_ofHeir 22 = .ok (.invokevirtual 126, 3) := by decide +kernel
theorem dX12_ofHeir_25 : decode cX12_ofHeir 25 = .ok (.ireturn, 1) := by decide +kernel
theorem dX12_ofHeir_26 : decode cX12_ofHeir 26 = .ok (.iload_n 2, 1) := by decide +kernel
theorem dX12_ofHeir_27 : decode cX12_ofHeir 27 = .ok (.tableswitch 72 6 9 #[29, 41, 52, 58], 29) := by decide +kernel
theorem dX12_ofHeir_56 : decode cX12_ofHeir 56 = .ok (.aload_n 0, 1) := by decide +kernel
theorem dX12_ofHeir_57 : decode cX12_ofHeir 57 = .ok (.iload_n 1, 1) := by decide +kernel
theorem dX12_ofHeir_58 : decode cX12_ofHeir 58 = .ok (.aload_n 0, 1) := by decide +kernel
theorem dX12_ofHeir_59 : decode cX12_ofHeir 59 = .ok (.getfield 7, 3) := by decide +kernel
theorem dX12_ofHeir_62 : decode cX12_ofHeir 62 = .ok (.iconst 2, 1) := by decide +kernel
theorem dX12_ofHeir_63 : decode cX12_ofHeir 63 = .ok (.iaload, 1) := by decide +kernel
theorem dX12_ofHeir_64 : decode cX12_ofHeir 64 = .ok (.invokevirtual 161, 3) := by decide +kernel
theorem dX12_ofHeir_67 : decode cX12_ofHeir 67 = .ok (.ireturn, 1) := by decide +kernel
theorem dX12_ofHeir_68 : decode cX12_ofHeir 68 = .ok (.aload_n 0, 1) := by decide +kernel
theorem dX12_ofHeir_69 : decode cX12_ofHeir 69 = .ok (.iload_n 1, 1) := by decide +kernel
theorem dX12_ofHeir_70 : decode cX12_ofHeir 70 = .ok (.aload_n 0, 1) := by decide +kernel
theorem dX12_ofHeir_71 : decode cX12_ofHeir 71 = .ok (.iload_n 1, 1) := by decide +kernel
theorem dX12_ofHeir_72 : decode cX12_ofHeir 72 = .ok (.invokevirtual 152, 3) := by decide +kernel
theorem dX12_ofHeir_75 : decode cX12_ofHeir 75 = .ok (.invokevirtual 167, 3) := by decide +kernel
theorem dX12_ofHeir_78 : decode cX12_ofHeir 78 = .ok (.ireturn, 1) := by decide +kernel
theorem dX12_ofHeir_79 : decode cX12_ofHeir 79 = .ok (.aload_n 0, 1) := by decide +kernel
theorem dX12_ofHeir_80 : decode cX12_ofHeir 80 = .ok (.iload_n 1, 1) := by decide +kernel
theorem dX12_ofHeir_81 : decode cX12_ofHeir 81 = .ok (.invokevirtual 155, 3) := by decide +kernel
theorem dX12_ofHeir_84 : decode cX12_ofHeir 84 = .ok (.ireturn, 1) := by decide +kernel
theorem dX12_ofHeir_85 : decode cX12_ofHeir 85 = .ok (.aload_n 0, 1) := by decide +kernel
theorem dX12_ofHeir_86 : decode cX12_ofHeir 86 = .ok (.iload_n 1, 1) := by decide +kernel
theorem dX12_ofHeir_87 : decode cX12_ofHeir 87 = .ok (.invokevirtual 202, 3) := by decide +kernel
theorem dX12_ofHeir_90 : decode cX12_ofHeir 90 = .ok (.ifCond .eq 7, 3) := by decide +kernel
theorem dX12_ofHeir_93 : decode cX12_ofHeir 93 = .ok (.iconst 1, 1) := by decide +kernel
theorem dX12_ofHeir_94 : decode cX12_ofHeir 94 = .ok (.goto 4, 3) := by decide +kernel
theorem dX12_ofHeir_97 : decode cX12_ofHeir 97 = .ok (.iconst 0, 1) := by decide +kernel
theorem dX12_ofHeir_98 : decode cX12_ofHeir 98 = .ok (.ireturn, 1) := by decide +kernel
theorem dX12_ofHeir_99 : decode cX12_ofHeir 99 = .ok (.aload_n 0, 1) := by decide +kernel
theorem dX12_ofHeir_100 : decode cX12_ofHeir 100 = .ok (.iload_n 1, 1) := by decide +kernel
theorem dX12_ofHeir_101 : decode cX12_ofHeir 101 = .ok (.iload_n 2, 1) := by decide +kernel
theorem dX12_ofHeir_102 : decode cX12_ofHeir 102 = .ok (.invokevirtual 146, 3) := by decide +kernel
theorem dX12_ofHeir_105 : decode cX12_ofHeir 105 = .ok (.ireturn, 1) := by decide +kernel
theorem dX12_change_0 : decode cX12_change 0 = .ok (.aload_n 0, 1) := by decide +kernel
theorem dX12_change_1 : decode cX12_change 1 = .ok (.iload_n 1, 1) := by decide +kernel
theorem dX12_change_2 : decode cX12_change 2 = .ok (.invokevirtual 199, 3) := by decide +kernel
theorem dX12_change_5 : decode cX12_change 5 = .ok (.ifCond .eq 49, 3) := by decide +kernel
theorem dX12_change_8 : decode cX12_change 8 = .ok (.iload_n 2, 1) := by decide +kernel
theorem dX12_change_9 : decode cX12_change 9 = .ok (.i2l, 1) := by decide +kernel
theorem dX12_change_10 : decode cX12_change 10 = .ok (.lconst 0, 1) := by decide +kernel
theorem dX12_change_11 : decode cX12_change 11 = .ok (.ldc2_w 182, 3) := by decide +kernel
theorem dX12_change_14 : decode cX12_change 14 = .ok (.invokestatic 47, 3) := by decide +kernel
theorem dX12_change_17 : decode cX12_change 17 = .ok (.ifCond .eq 37, 3) := by decide +kernel
theorem dX12_change_20 : decode cX12_change 20 = .ok (.iload_n 3, 1) := by decide +kernel
theorem dX12_change_21 : decode cX12_change 21 = .ok (.i2l, 1) := by decide +kernel
theorem dX12_change_22 : decode cX12_change 22 = .ok (.lconst 0, 1) := by decide +kernel
theorem dX12_change_23 : decode cX12_change 23 = .ok (.iload_n 2, 1) := by decide +kernel
theorem dX12_change_24 : decode cX12_change 24 = .ok (.iconst 1, 1) := by decide +kernel
theorem dX12_change_25 : decode cX12_change 25 = .ok (.if_icmp .ne 9, 3) := by decide +kernel
theorem dX12_change_28 : decode cX12_change 28 = .ok (.ldc2_w 193, 3) := by decide +kernel
theorem dX12_change_31 : decode cX12_change 31 = .ok (.goto 17, 3) := by decide +kernel
theorem dX12_change_34 : decode cX12_change 34 = .ok (.iload_n 2, 1) := by decide +kernel
theorem dX12_change_35 : decode cX12_change 35 = .ok (.iconst 3, 1) := by decide +kernel
theorem dX12_change_36 : decode cX12_change 36 = .ok (.if_icmp .ne 9, 3) := by decide +kernel
theorem dX12_change_39 : decode cX12_change 39 = .ok (.ldc2_w 205, 3) := by decide +kernel
theorem dX12_change_42 : decode cX12_change 42 = .ok (.goto 6, 3) := by decide +kernel
theorem dX12_change_45 : decode cX12_change 45 = .ok (.ldc2_w 51, 3) := by decide +kernel
theorem dX12_change_48 : decode cX12_change 48 = .ok (.invokestatic 47, 3) := by decide +kernel
theorem dX12_change_51 : decode cX12_change 51 = .ok (.ifCond .ne 9, 3) := by decide +kernel
theorem dX12_change_54 : decode cX12_change 54 = .ok (.aload_n 0, 1) := by decide +kernel
theorem dX12_change_55 : decode cX12_change 55 = .ok (.iconst 1, 1) := by decide +kernel
theorem dX12_change_56 : decode cX12_change 56 = .ok (.invokevirtual 126, 3) := by decide +kernel
theorem dX12_change_59 : decode cX12_change 59 = .ok (.ireturn, 1) := by decide +kernel
theorem dX12_change_60 : decode cX12_change 60 = .ok (.iload_n 2, 1) := by decide +kernel
theorem dX12_change_61 : decode cX12_change 61 = .ok (.iconst 2, 1) := by decide +kernel
theorem dX12_change_62 : decode cX12_change 62 = .ok (.if_icmp .ne 17, 3) := by decide +kernel
theorem dX12_change_65 : decode cX12_change 65 = .ok (.aload_n 0, 1) := by decide +kernel
theorem dX12_change_66 : decode cX12_change 66 = .ok (.iload_n 1, 1) := by decide +kernel
theorem dX12_change_67 : decode cX12_change 67 = .ok (.invokevirtual 149, 3) := by decide +kernel
theorem dX12_change_70 : decode cX12_change 70 = .ok (.ifCond .ne 9, 3) := by decide +kernel
theorem dX12_change_73 : decode cX12_change 73 = .ok (.aload_n 0, 1) := by decide +kernel
theorem dX12_change_74 : decode cX12_change 74 = .ok (.iconst 3, 1) := by decide +kernel
theorem dX12_change_75 : decode cX12_change 75 = .ok (.invokevirtual 126, 3) := by decide +kernel
theorem dX12_change_78 : decode cX12_change 78 = .ok (.ireturn, 1) := by decide +kernel
theorem dX12_change_79 : decode cX12_change 79 = .ok (.aload_n 0, 1) := by decide +kernel
theorem dX12_change_80 : decode cX12_change 80 = .ok (.iload_n 1, 1) := by decide +kernel
theorem dX12_change_81 : decode cX12_change 81 = .ok (.iconst 2, 1) := by decide +kernel
theorem dX12_change_82 : decode cX12_change 82 = .ok (.iload_n 2, 1) := by decide +kernel
theorem dX12_change_83 : decode cX12_change 83 = .ok (.iadd, 1) := by decide +kernel
theorem dX12_change_84 : decode cX12_change 84 = .ok (.invokevirtual 146, 3) := by decide +kernel
theorem dX12_change_87 : decode cX12_change 87 = .ok (.istore 4, 2) := by decide +kernel
theorem dX12_change_89 : decode cX12_change 89 = .ok (.iload_n 2, 1) := by decide +kernel
theorem dX12_change_90 : decode cX12_change 90 = .ok (.iconst 1, 1) := by decide +kernel
theorem dX12_change_91 : decode cX12_change 91 = .ok (.if_icmp .ne 12, 3) := by decide +kernel
theorem dX12_change_94 : decode cX12_change 94 = .ok (.aload_n 0, 1) := by decide +kernel
theorem dX12_change_95 : decode cX12_change 95 = .ok (.iload_n 1, 1) := by decide +kernel
theorem dX12_change_96 : decode cX12_change 96 = .ok (.iload_n 3, 1) := by decide +kernel
theorem dX12_change_97 : decode cX12_change 97 = .ok (.invokevirtual 195, 3) := by decide +kernel
theorem dX12_change_100 : decode cX12_change 100 = .ok (.goto 12, 3) := by decide +kernel
theorem dX12_change_103 : decode cX12_change 103 = .ok (.aload_n 0, 1) := by decide +kernel
theorem dX12_change_104 : decode cX12_change 104 = .ok (.iload_n 1, 1) := by decide +kernel
theorem dX12_change_105 : decode cX12_change 105 = .ok (.iconst 2, 1) := by decide +kernel
theorem dX12_change_106 : decode cX12_change 106 = .ok (.iload_n 2, 1) := by decide +kernel
theorem dX12_change_107 : decode cX12_change 107 = .ok (.iadd, 1) := by decide +kernel
theorem dX12_change_108 : decode cX12_change 108 = .ok (.iload_n 3, 1) := by decide +kernel
theorem dX12_change_109 : decode cX12_change 109 = .ok (.invokevirtual 164, 3) := by decide +kernel
theorem dX12_change_112 : decode cX12_change 112 = .ok (.iload 4, 2) := by decide +kernel
theorem dX12_change_114 : decode cX12_change 114 = .ok (.ireturn, 1) := by decide +kernel
theorem dX12_become_0 : decode cX12_become 0 = .ok (.aload_n 0, 1) := by decide +kernel
theorem dX12_become_1 : decode cX12_become 1 = .ok (.iload_n 1, 1) := by decide +kernel
theorem dX12_become_2 : decode cX12_become 2 = .ok (.invokevirtual 199, 3) := by decide +kernel
theorem dX12_become_5 : decode cX12_become 5 = .ok (.ifCond .eq 15, 3) := by decide +kernel
theorem dX12_become_8 : decode cX12_become 8 = .ok (.iload_n 2, 1) := by decide +kernel
theorem dX12_become_9 : decode cX12_become 9 = .ok (.i2l, 1) := by decide +kernel
theorem dX12_become_10 : decode cX12_become 10 = .ok (.lconst 0, 1) := by decide +kernel
theorem dX12_become_11 : decode cX12_become 11 = .ok (.ldc2_w 191, 3) := by decide +kernel
theorem dX12_become_14 : decode cX12_become 14 = .ok (.invokestatic 47, 3) := by decide +kernel
theorem dX12_become_17 : decode cX12_become 17 = .ok (.ifCond .ne 9, 3) := by decide +kernel
theorem dX12_become_20 : decode cX12_become 20 = .ok (.aload_n 0, 1) := by decide +kernel
theorem dX12_become_21 : decode cX12_become 21 = .ok (.iconst 1, 1) := by decide +kernel
theorem dX12_become_22 : decode cX12_become 22 = .ok (.invokevirtual 126, 3) := by decide +kernel
theorem dX12_become_25 : decode cX12_become 25 = .ok (.ireturn, 1) := by decide +kernel
theorem dX12_become_26 : decode cX12_become 26 = .ok (.aload_n 0, 1) := by decide +kernel
theorem dX12_become_27 : decode cX12_become 27 = .ok (.iload_n 1, 1) := by decide +kernel
theorem dX12_become_28 : decode cX12_become 28 = .ok (.iconst 1, 1) := by decide +kernel
theorem dX12_become_29 : decode cX12_become 29 = .ok (.iload_n 2, 1) := by decide +kernel
theorem dX12_become_30 : decode cX12_become 30 = .ok (.bipush 10, 2) := by decide +kernel
theorem dX12_become_32 : decode cX12_become 32 = .ok (.irem, 1) := by decide +kernel
theorem dX12_become_33 : decode cX12_become 33 = .ok (.invokevirtual 164, 3) := by decide +kernel
theorem dX12_become_36 : decode cX12_become 36 = .ok (.aload_n 0, 1) := by decide +kernel
theorem dX12_become_37 : decode cX12_become 37 = .ok (.bipush 40, 2) := by decide +kernel
theorem dX12_become_39 : decode cX12_become 39 = .ok (.bipush 6, 2) := by decide +kernel
theorem dX12_become_41 : decode cX12_become 41 = .ok (.iload_n 1, 1) := by decide +kernel
theorem dX12_become_42 : decode cX12_become 42 = .ok (.imul, 1) := by decide +kernel
theorem dX12_become_43 : decode cX12_become 43 = .ok (.iadd, 1) := by decide +kernel
theorem dX12_become_44 : decode cX12_become 44 = .ok (.iload_n 2, 1) := by decide +kernel
theorem dX12_become_45 : decode cX12_become 45 = .ok (.bipush 10, 2) := by decide +kernel
theorem dX12_become_47 : decode cX12_become 47 = .ok (.idiv, 1) := by decide +kernel
theorem dX12_become_48 : decode cX12_become 48 = .ok (.invokevirtual 179, 3) := by decide +kernel
theorem dX12_become_51 : decode cX12_become 51 = .ok (.ireturn, 1) := by decide +kernel
theorem dX12_as_0 : decode cX12_as 0 = .ok (.aload_n 0, 1) := by decide +kernel
theorem dX12_as_1 : decode cX12_as 1 = .ok (.iload_n 1, 1) := by decide +kernel
theorem dX12_as_2 : decode cX12_as 2 = .ok (.invokevirtual 199, 3) := by decide +kernel
theorem dX12_as_5 : decode cX12_as 5 = .ok (.ifCond .eq 15, 3) := by decide +kernel
theorem dX12_as_8 : decode cX12_as 8 = .ok (.iload_n 2, 1) := by decide +kernel
theorem dX12_as_9 : decode cX12_as 9 = .ok (.i2l, 1) := by decide +kernel
theorem dX12_as_10 : decode cX12_as 10 = .ok (.lconst 0, 1) := by decide +kernel
theorem dX12_as_11 : decode cX12_as 11 = .ok (.ldc2_w 207, 3) := by decide +kernel
theorem dX12_as_14 : decode cX12_as 14 = .ok (.invokestatic 47, 3) := by decide +kernel
theorem dX12_as_17 : decode cX12_as 17 = .ok (.ifCond .ne 9, 3) := by decide +kernel
theorem dX12_as_20 : decode cX12_as 20 = .ok (.aload_n 0, 1) := by decide +kernel
theorem dX12_as_21 : decode cX12_as 21 = .ok (.iconst 1, 1) := by decide +kernel
theorem dX12_as_22 : decode cX12_as 22 = .ok (.invokevirtual 126, 3) := by decide +kernel
theorem dX12_as_25 : decode cX12_as 25 = .ok (.ireturn, 1) := by decide +kernel
theorem dX12_as_26 : decode cX12_as 26 = .ok (.aload_n 0, 1) := by decide +kernel
theorem dX12_as_27 : decode cX12_as 27 = .ok (.iload_n 1, 1) := by decide +kernel
theorem dX12_as_28 : decode cX12_as 28 = .ok (.iconst 0, 1) := by decide +kernel
theorem dX12_as_29 : decode cX12_as 29 = .ok (.invokevirtual 146, 3) := by decide +kernel
theorem dX12_as_32 : decode cX12_as 32 = .ok (.istore_n 3, 1) := by decide +kernel
theorem dX12_as_33 : decode cX12_as 33 = .ok (.iload_n 2, 1) := by decide +kernel
theorem dX12_as_34 : decode cX12_as 34 = .ok (.ifCond .eq 16, 3) := by decide +kernel
theorem dX12_as_37 : decode cX12_as 37 = .ok (.iload_n 3, 1) := by decide +kernel
theorem dX12_as_38 : decode cX12_as 38 = .ok (.iload_n 2, 1) := by decide +kernel
theorem dX12_as_39 : decode cX12_as 39 = .ok (.if_icmp .eq 11, 3) := by decide +kernel
theorem dX12_as_42 : decode cX12_as 42 = .ok (.iload_n 3, 1) := by decide +kernel
theorem dX12_as_43 : decode cX12_as 43 = .ok (.invokestatic 209, 3) := by decide +kernel
theorem dX12_as_46 : decode cX12_as 46 = .ok (.iload_n 2, 1) := by decide +kernel
theorem dX12_as_47 : decode cX12_as 47 = .ok (.if_icmp .ne 12, 3) := by decide +kernel
theorem dX12_as_50 : decode cX12_as 50 = .ok (.aload_n 0, 1) := by decide +kernel
theorem dX12_as_51 : decode cX12_as 51 = .ok (.iload_n 1, 1) := by decide +kernel
theorem dX12_as_52 : decode cX12_as 52 = .ok (.iconst 1, 1) := by decide +kernel
theorem dX12_as_53 : decode cX12_as 53 = .ok (.invokevirtual 146, 3) := by decide +kernel
theorem dX12_as_56 : decode cX12_as 56 = .ok (.goto 8, 3) := by decide +kernel
theorem dX12_as_59 : decode cX12_as 59 = .ok (.aload_n 0, 1) := by decide +kernel
theorem dX12_as_60 : decode cX12_as 60 = .ok (.iconst 5, 1) := by decide +kernel
theorem dX12_as_61 : decode cX12_as 61 = .ok (.invokevirtual 126, 3) := by decide +kernel
theorem dX12_as_64 : decode cX12_as 64 = .ok (.ireturn, 1) := by decide +kernel
theorem dX12_days_0 : decode cX12_days 0 = .ok (.iload_n 1, 1) := by decide +kernel
theorem dX12_days_1 : decode cX12_days 1 = .ok (.i2l, 1) := by decide +kernel
theorem dX12_days_2 : decode cX12_days 2 = .ok (.lconst 1, 1) := by decide +kernel
theorem dX12_days_3 : decode cX12_days 3 = .ok (.ldc2_w 212, 3) := by decide +kernel
theorem dX12_days_6 : decode cX12_days 6 = .ok (.invokestatic 47, 3) := by decide +kernel
theorem dX12_days_9 : decode cX12_days 9 = .ok (.ifCond .ne 9, 3) := by decide +kernel
theorem dX12_days_12 : decode cX12_days 12 = .ok (.aload_n 0, 1) := by decide +kernel
theorem dX12_days_13 : decode cX12_days 13 = .ok (.iconst 1, 1) := by decide +kernel
theorem dX12_days_14 : decode cX12_days 14 = .ok (.invokevirtual 126, 3) := by decide +kernel
theorem dX12_days_17 : decode cX12_days 17 = .ok (.ireturn, 1) := by decide +kernel
theorem dX12_days_18 : decode cX12_days 18 = .ok (.aload_n 0, 1) := by decide +kernel
theorem dX12_days_19 : decode cX12_days 19 = .ok (.getfield 7, 3) := by decide +kernel
theorem dX12_days_22 : decode cX12_days 22 = .ok (.iconst 1, 1) := by decide +kernel
theorem dX12_days_23 : decode cX12_days 23 = .ok (.iaload, 1) := by decide +kernel
theorem dX12_days_24 : decode cX12_days 24 = .ok (.iload_n 1, 1) := by decide +kernel
theorem dX12_days_25 : decode cX12_days 25 = .ok (.iadd, 1) := by decide +kernel
theorem dX12_days_26 : decode cX12_days 26 = .ok (.sipush 9999, 3) := by decide +kernel
theorem dX12_days_29 : decode cX12_days 29 = .ok (.if_icmp .le 9, 3) := by decide +kernel
theorem dX12_days_32 : decode cX12_days 32 = .ok (.aload_n 0, 1) := by decide +kernel
theorem dX12_days_33 : decode cX12_days 33 = .ok (.iconst 3, 1) := by decide +kernel
theorem dX12_days_34 : decode cX12_days 34 = .ok (.invokevirtual 126, 3) := by decide +kernel
theorem dX12_days_37 : decode cX12_days 37 = .ok (.ireturn, 1) := by decide +kernel
theorem dX12_days_38 : decode cX12_days 38 = .ok (.aload_n 0, 1) := by decide +kernel
theorem dX12_days_39 : decode cX12_days 39 = .ok (.iload_n 1, 1) := by decide +kernel
theorem dX12_days_40 : decode cX12_days 40 = .ok (.invokevirtual 214, 3) := by decide +kernel
theorem dX12_days_43 : decode cX12_days 43 = .ok (.aload_n 0, 1) := by decide +kernel
theorem dX12_days_44 : decode cX12_days 44 = .ok (.getfield 7, 3) := by decide +kernel
theorem dX12_days_47 : decode cX12_days 47 = .ok (.iconst 4, 1) := by decide +kernel
theorem dX12_days_48 : decode cX12_days 48 = .ok (.iaload, 1) := by decide +kernel
theorem dX12_days_49 : decode cX12_days 49 = .ok (.ireturn, 1) := by decide +kernel
theorem dX12_drawn_0 : decode cX12_drawn 0 = .ok (.aload_n 0, 1) := by decide +kernel
theorem dX12_drawn_1 : decode cX12_drawn 1 = .ok (.getfield 7, 3) := by decide +kernel
theorem dX12_drawn_4 : decode cX12_drawn 4 = .ok (.iconst 5, 1) := by decide +kernel
theorem dX12_drawn_5 : decode cX12_drawn 5 = .ok (.aload_n 0, 1) := by decide +kernel
theorem dX12_drawn_6 : decode cX12_drawn 6 = .ok (.getfield 7, 3) := by decide +kernel
theorem dX12_drawn_9 : decode cX12_drawn 9 = .ok (.iconst 5, 1) := by decide +kernel
theorem dX12_drawn_10 : decode cX12_drawn 10 = .ok (.iaload, 1) := by decide +kernel
theorem dX12_drawn_11 : decode cX12_drawn 11 = .ok (.ldc 217, 2) := by decide +kernel
theorem dX12_drawn_13 : decode cX12_drawn 13 = .ok (.imul, 1) := by decide +kernel
theorem dX12_drawn_14 : decode cX12_drawn 14 = .ok (.sipush 12345, 3) := by decide +kernel
theorem dX12_drawn_17 : decode cX12_drawn 17 = .ok (.iadd, 1) := by decide +kernel
theorem dX12_drawn_18 : decode cX12_drawn 18 = .ok (.iastore, 1) := by decide +kernel
theorem dX12_drawn_19 : decode cX12_drawn 19 = .ok (.aload_n 0, 1) := by decide +kernel
theorem dX12_drawn_20 : decode cX12_drawn 20 = .ok (.getfield 7, 3) := by decide +kernel
theorem dX12_drawn_23 : decode cX12_drawn 23 = .ok (.iconst 5, 1) := by decide +kernel
theorem dX12_drawn_24 : decode cX12_drawn 24 = .ok (.iaload, 1) := by decide +kernel
theorem dX12_drawn_25 : decode cX12_drawn 25 = .ok (.bipush 8, 2) := by decide +kernel
theorem dX12_drawn_27 : decode cX12_drawn 27 = .ok (.iushr, 1) := by decide +kernel
theorem dX12_drawn_28 : decode cX12_drawn 28 = .ok (.ireturn, 1) := by decide +kernel
theorem dX12_loose_0 : decode cX12_loose 0 = .ok (.iload_n 1, 1) := by decide +kernel
theorem dX12_loose_1 : decode cX12_loose 1 = .ok (.i2l, 1) := by decide +kernel
theorem dX12_loose_2 : decode cX12_loose 2 = .ok (.lconst 1, 1) := by decide +kernel
theorem dX12_loose_3 : decode cX12_loose 3 = .ok (.ldc2_w 218, 3) := by decide +kernel
theorem dX12_loose_6 : decode cX12_loose 6 = .ok (.invokestatic 47, 3) := by decide +kernel
theorem dX12_loose_9 : decode cX12_loose 9 = .ok (.ifCond .ne 9, 3) := by decide +kernel
theorem dX12_loose_12 : decode cX12_loose 12 = .ok (.aload_n 0, 1) := by decide +kernel
theorem dX12_loose_13 : decode cX12_loose 13 = .ok (.iconst 1, 1) := by decide +kernel
theorem dX12_loose_14 : decode cX12_loose 14 = .ok (.invokevirtual 126, 3) := by decide +kernel
theorem dX12_loose_17 : decode cX12_loose 17 = .ok (.ireturn, 1) := by decide +kernel
theorem dX12_loose_18 : decode cX12_loose 18 = .ok (.aload_n 0, 1) := by decide +kernel
theorem dX12_loose_19 : decode cX12_loose 19 = .ok (.getfield 7, 3) := by decide +kernel
theorem dX12_loose_22 : decode cX12_loose 22 = .ok (.iconst 1, 1) := by decide +kernel
theorem dX12_loose_23 : decode cX12_loose 23 = .ok (.iaload, 1) := by decide +kernel
theorem dX12_loose_24 : decode cX12_loose 24 = .ok (.iload_n 1, 1) := by decide +kernel
theorem dX12_loose_25 : decode cX12_loose 25 = .ok (.iadd, 1) := by decide +kernel
theorem dX12_loose_26 : decode cX12_loose 26 = .ok (.sipush 9999, 3) := by decide +kernel
theorem dX12_loose_29 : decode cX12_loose 29 = .ok (.if_icmp .le 9, 3) := by decide +kernel
theorem dX12_loose_32 : decode cX12_loose 32 = .ok (.aload_n 0, 1) := by decide +kernel
theorem dX12_loose_33 : decode cX12_loose 33 = .ok (.iconst 3, 1) := by decide +kernel
theorem dX12_loose_34 : decode cX12_loose 34 = .ok (.invokevirtual 126, 3) := by decide +kernel
theorem dX12_loose_37 : decode cX12_loose 37 = .ok (.ireturn, 1) := by decide +kernel
theorem dX12_loose_38 : decode cX12_loose 38 = .ok (.iconst 0, 1) := by decide +kernel
theorem dX12_loose_39 : decode cX12_loose 39 = .ok (.istore_n 2, 1) := by decide +kernel
theorem dX12_loose_40 : decode cX12_loose 40 = .ok (.iload_n 2, 1) := by decide +kernel
theorem dX12_loose_41 : decode cX12_loose 41 = .ok (.iload_n 1, 1) := by decide +kernel
theorem dX12_loose_42 : decode cX12_loose 42 = .ok (.if_icmp .ge 58, 3) := by decide +kernel
theorem dX12_loose_45 : decode cX12_loose 45 = .ok (.aload_n 0, 1) := by decide +kernel
theorem dX12_loose_46 : decode cX12_loose 46 = .ok (.getfield 7, 3) := by decide +kernel
theorem dX12_loose_49 : decode cX12_loose 49 = .ok (.iconst 2, 1) := by decide +kernel
theorem dX12_loose_50 : decode cX12_loose 50 = .ok (.aload_n 0, 1) := by decide +kernel
theorem dX12_loose_51 : decode cX12_loose 51 = .ok (.invokevirtual 220, 3) := by decide +kernel
theorem dX12_loose_54 : decode cX12_loose 54 = .ok (.bipush 6, 2) := by decide +kernel
theorem dX12_loose_56 : decode cX12_loose 56 = .ok (.irem, 1) := by decide +kernel
theorem dX12_loose_57 : decode cX12_loose 57 = .ok (.iastore, 1) := by decide +kernel
theorem dX12_loose_58 : decode cX12_loose 58 = .ok (.aload_n 0, 1) := by decide +kernel
theorem dX12_loose_59 : decode cX12_loose 59 = .ok (.invokevirtual 220, 3) := by decide +kernel
theorem dX12_loose_62 : decode cX12_loose 62 = .ok (.istore_n 3, 1) := by decide +kernel
theorem dX12_loose_63 : decode cX12_loose 63 = .ok (.iload_n 3, 1) := by decide +kernel
theorem dX12_loose_64 : decode cX12_loose 64 = .ok (.iconst 4, 1) := by decide +kernel
theorem dX12_loose_65 : decode cX12_loose 65 = .ok (.irem, 1) := by decide +kernel
theorem dX12_loose_66 : decode cX12_loose 66 = .ok (.ifCond .ne 24, 3) := by decide +kernel
theorem dX12_loose_69 : decode cX12_loose 69 = .ok (.aload_n 0, 1) := by decide +kernel
theorem dX12_loose_70 : decode cX12_loose 70 = .ok (.getfield 7, 3) := by decide +kernel
theorem dX12_loose_73 : decode cX12_loose 73 = .ok (.bipush 24, 2) := by decide +kernel
theorem dX12_loose_75 : decode cX12_loose 75 = .ok (.iload_n 3, 1) := by decide +kernel
theorem dX12_loose_76 : decode cX12_loose 76 = .ok (.iconst 4, 1) := by decide +kernel
theorem dX12_loose_77 : decode cX12_loose 77 = .ok (.idiv, 1) := by decide +kernel
theorem dX12_loose_78 : decode cX12_loose 78 = .ok (.bipush 16, 2) := by decide +kernel
theorem dX12_loose_80 : decode cX12_loose 80 = .ok (.irem, 1) := by decide +kernel
theorem dX12_loose_81 : decode cX12_loose 81 = .ok (.iadd, 1) := by decide +kernel
theorem dX12_loose_82 : decode cX12_loose 82 = .ok (.iload_n 3, 1) := by decide +kernel
theorem dX12_loose_83 : decode cX12_loose 83 = .ok (.bipush 64, 2) := by decide +kernel
theorem dX12_loose_85 : decode cX12_loose 85 = .ok (.idiv, 1) := by decide +kernel
end
section
theorem dX12_loose_86 : decode cX12_loose 86 = .ok (.bipush 16, 2) := by decide +kernel
theorem dX12_loose_88 : decode cX12_loose 88 = .ok (.irem, 1) := by decide +kernel
theorem dX12_loose_89 : decode cX12_loose 89 = .ok (.iastore, 1) := by decide +kernel
theorem dX12_loose_90 : decode cX12_loose 90 = .ok (.aload_n 0, 1) := by decide +kernel
theorem dX12_loose_91 : decode cX12_loose 91 = .ok (.invokevirtual 171, 3) := by decide +kernel
theorem dX12_loose_94 : decode cX12_loose 94 = .ok (.iinc 2 1, 3) := by decide +kernel
theorem dX12_loose_97 : decode cX12_loose 97 = .ok (.goto (-57), 3) := by decide +kernel
theorem dX12_loose_100 : decode cX12_loose 100 = .ok (.aload_n 0, 1) := by decide +kernel
theorem dX12_loose_101 : decode cX12_loose 101 = .ok (.getfield 7, 3) := by decide +kernel
theorem dX12_loose_104 : decode cX12_loose 104 = .ok (.iconst 4, 1) := by decide +kernel
theorem dX12_loose_105 : decode cX12_loose 105 = .ok (.iaload, 1) := by decide +kernel
theorem dX12_loose_106 : decode cX12_loose 106 = .ok (.ireturn, 1) := by decide +kernel
theorem dX12_behind_0 : decode cX12_behind 0 = .ok (.aload_n 0, 1) := by decide +kernel
theorem dX12_behind_1 : decode cX12_behind 1 = .ok (.iload_n 1, 1) := by decide +kernel
theorem dX12_behind_2 : decode cX12_behind 2 = .ok (.invokevirtual 214, 3) := by decide +kernel
theorem dX12_behind_5 : decode cX12_behind 5 = .ok (.aload_n 0, 1) := by decide +kernel
theorem dX12_behind_6 : decode cX12_behind 6 = .ok (.getfield 7, 3) := by decide +kernel
theorem dX12_behind_9 : decode cX12_behind 9 = .ok (.iload_n 2, 1) := by decide +kernel
theorem dX12_behind_10 : decode cX12_behind 10 = .ok (.iaload, 1) := by decide +kernel
theorem dX12_behind_11 : decode cX12_behind 11 = .ok (.istore_n 3, 1) := by decide +kernel
theorem dX12_behind_12 : decode cX12_behind 12 = .ok (.aload_n 0, 1) := by decide +kernel
theorem dX12_behind_13 : decode cX12_behind 13 = .ok (.invokevirtual 223, 3) := by decide +kernel
theorem dX12_behind_16 : decode cX12_behind 16 = .ok (.iload_n 3, 1) := by decide +kernel
theorem dX12_behind_17 : decode cX12_behind 17 = .ok (.ireturn, 1) := by decide +kernel
theorem dX12_where_0 : decode cX12_where 0 = .ok (.bipush 40, 2) := by decide +kernel
theorem dX12_where_2 : decode cX12_where 2 = .ok (.bipush 6, 2) := by decide +kernel
theorem dX12_where_4 : decode cX12_where 4 = .ok (.iload_n 0, 1) := by decide +kernel
theorem dX12_where_5 : decode cX12_where 5 = .ok (.imul, 1) := by decide +kernel
theorem dX12_where_6 : decode cX12_where 6 = .ok (.iadd, 1) := by decide +kernel
theorem dX12_where_7 : decode cX12_where 7 = .ok (.iload_n 1, 1) := by decide +kernel
theorem dX12_where_8 : decode cX12_where 8 = .ok (.iadd, 1) := by decide +kernel
theorem dX12_where_9 : decode cX12_where 9 = .ok (.ireturn, 1) := by decide +kernel
theorem dX12_then_0 : decode cX12_then 0 = .ok (.iload_n 1, 1) := by decide +kernel
theorem dX12_then_1 : decode cX12_then 1 = .ok (.i2l, 1) := by decide +kernel
theorem dX12_then_2 : decode cX12_then 2 = .ok (.lconst 0, 1) := by decide +kernel
theorem dX12_then_3 : decode cX12_then 3 = .ok (.ldc2_w 212, 3) := by decide +kernel
theorem dX12_then_6 : decode cX12_then 6 = .ok (.invokestatic 47, 3) := by decide +kernel
theorem dX12_then_9 : decode cX12_then 9 = .ok (.ifCond .eq 11, 3) := by decide +kernel
theorem dX12_then_12 : decode cX12_then 12 = .ok (.aload_n 0, 1) := by decide +kernel
theorem dX12_then_13 : decode cX12_then 13 = .ok (.iload_n 2, 1) := by decide +kernel
theorem dX12_then_14 : decode cX12_then 14 = .ok (.invokevirtual 199, 3) := by decide +kernel
theorem dX12_then_17 : decode cX12_then 17 = .ok (.ifCond .ne 9, 3) := by decide +kernel
theorem dX12_then_20 : decode cX12_then 20 = .ok (.aload_n 0, 1) := by decide +kernel
theorem dX12_then_21 : decode cX12_then 21 = .ok (.iconst 1, 1) := by decide +kernel
theorem dX12_then_22 : decode cX12_then 22 = .ok (.invokevirtual 126, 3) := by decide +kernel
theorem dX12_then_25 : decode cX12_then 25 = .ok (.ireturn, 1) := by decide +kernel
theorem dX12_then_26 : decode cX12_then 26 = .ok (.aload_n 0, 1) := by decide +kernel
theorem dX12_then_27 : decode cX12_then 27 = .ok (.invokevirtual 226, 3) := by decide +kernel
theorem dX12_then_30 : decode cX12_then 30 = .ok (.aload_n 0, 1) := by decide +kernel
theorem dX12_then_31 : decode cX12_then 31 = .ok (.iload_n 1, 1) := by decide +kernel
theorem dX12_then_32 : decode cX12_then 32 = .ok (.iload_n 2, 1) := by decide +kernel
theorem dX12_then_33 : decode cX12_then 33 = .ok (.iconst 4, 1) := by decide +kernel
theorem dX12_then_34 : decode cX12_then 34 = .ok (.invokestatic 229, 3) := by decide +kernel
theorem dX12_then_37 : decode cX12_then 37 = .ok (.invokevirtual 232, 3) := by decide +kernel
theorem dX12_then_40 : decode cX12_then 40 = .ok (.ireturn, 1) := by decide +kernel
theorem dX12_leastOf_0 : decode cX12_leastOf 0 = .ok (.iconst 0, 1) := by decide +kernel
theorem dX12_leastOf_1 : decode cX12_leastOf 1 = .ok (.istore_n 1, 1) := by decide +kernel
theorem dX12_leastOf_2 : decode cX12_leastOf 2 = .ok (.iload_n 0, 1) := by decide +kernel
theorem dX12_leastOf_3 : decode cX12_leastOf 3 = .ok (.iload_n 1, 1) := by decide +kernel
theorem dX12_leastOf_4 : decode cX12_leastOf 4 = .ok (.ishr, 1) := by decide +kernel
theorem dX12_leastOf_5 : decode cX12_leastOf 5 = .ok (.iconst 1, 1) := by decide +kernel
theorem dX12_leastOf_6 : decode cX12_leastOf 6 = .ok (.iand, 1) := by decide +kernel
theorem dX12_leastOf_7 : decode cX12_leastOf 7 = .ok (.ifCond .ne 9, 3) := by decide +kernel
theorem dX12_leastOf_10 : decode cX12_leastOf 10 = .ok (.iinc 1 1, 3) := by decide +kernel
theorem dX12_leastOf_13 : decode cX12_leastOf 13 = .ok (.goto (-11), 3) := by decide +kernel
theorem dX12_leastOf_16 : decode cX12_leastOf 16 = .ok (.iload_n 1, 1) := by decide +kernel
theorem dX12_leastOf_17 : decode cX12_leastOf 17 = .ok (.ireturn, 1) := by decide +kernel
theorem dX12_first_0 : decode cX12_first 0 = .ok (.iload_n 1, 1) := by decide +kernel
theorem dX12_first_1 : decode cX12_first 1 = .ok (.invokestatic 174, 3) := by decide +kernel
theorem dX12_first_4 : decode cX12_first 4 = .ok (.ifCond .eq 13, 3) := by decide +kernel
theorem dX12_first_7 : decode cX12_first 7 = .ok (.iload_n 2, 1) := by decide +kernel
theorem dX12_first_8 : decode cX12_first 8 = .ok (.i2l, 1) := by decide +kernel
theorem dX12_first_9 : decode cX12_first 9 = .ok (.lconst 0, 1) := by decide +kernel
theorem dX12_first_10 : decode cX12_first 10 = .ok (.lconst 1, 1) := by decide +kernel
theorem dX12_first_11 : decode cX12_first 11 = .ok (.invokestatic 47, 3) := by decide +kernel
theorem dX12_first_14 : decode cX12_first 14 = .ok (.ifCond .ne 9, 3) := by decide +kernel
theorem dX12_first_17 : decode cX12_first 17 = .ok (.aload_n 0, 1) := by decide +kernel
theorem dX12_first_18 : decode cX12_first 18 = .ok (.iconst 1, 1) := by decide +kernel
theorem dX12_first_19 : decode cX12_first 19 = .ok (.invokevirtual 126, 3) := by decide +kernel
theorem dX12_first_22 : decode cX12_first 22 = .ok (.ireturn, 1) := by decide +kernel
theorem dX12_first_23 : decode cX12_first 23 = .ok (.aload_n 0, 1) := by decide +kernel
theorem dX12_first_24 : decode cX12_first 24 = .ok (.invokevirtual 226, 3) := by decide +kernel
theorem dX12_first_27 : decode cX12_first 27 = .ok (.iconst 0, 1) := by decide +kernel
theorem dX12_first_28 : decode cX12_first 28 = .ok (.istore_n 3, 1) := by decide +kernel
theorem dX12_first_29 : decode cX12_first 29 = .ok (.iload_n 3, 1) := by decide +kernel
theorem dX12_first_30 : decode cX12_first 30 = .ok (.bipush 60, 2) := by decide +kernel
theorem dX12_first_32 : decode cX12_first 32 = .ok (.if_icmp .ge 21, 3) := by decide +kernel
theorem dX12_first_35 : decode cX12_first 35 = .ok (.aload_n 0, 1) := by decide +kernel
theorem dX12_first_36 : decode cX12_first 36 = .ok (.iload_n 1, 1) := by decide +kernel
theorem dX12_first_37 : decode cX12_first 37 = .ok (.invokevirtual 184, 3) := by decide +kernel
theorem dX12_first_40 : decode cX12_first 40 = .ok (.ifCond .ne 13, 3) := by decide +kernel
theorem dX12_first_43 : decode cX12_first 43 = .ok (.aload_n 0, 1) := by decide +kernel
theorem dX12_first_44 : decode cX12_first 44 = .ok (.invokevirtual 171, 3) := by decide +kernel
theorem dX12_first_47 : decode cX12_first 47 = .ok (.iinc 3 1, 3) := by decide +kernel
theorem dX12_first_50 : decode cX12_first 50 = .ok (.goto (-21), 3) := by decide +kernel
theorem dX12_first_53 : decode cX12_first 53 = .ok (.aload_n 0, 1) := by decide +kernel
theorem dX12_first_54 : decode cX12_first 54 = .ok (.iload_n 1, 1) := by decide +kernel
theorem dX12_first_55 : decode cX12_first 55 = .ok (.invokevirtual 184, 3) := by decide +kernel
theorem dX12_first_58 : decode cX12_first 58 = .ok (.istore 4, 2) := by decide +kernel
theorem dX12_first_60 : decode cX12_first 60 = .ok (.aload_n 0, 1) := by decide +kernel
theorem dX12_first_61 : decode cX12_first 61 = .ok (.invokevirtual 223, 3) := by decide +kernel
theorem dX12_first_64 : decode cX12_first 64 = .ok (.iload 4, 2) := by decide +kernel
theorem dX12_first_66 : decode cX12_first 66 = .ok (.ifCond .ne 11, 3) := by decide +kernel
theorem dX12_first_69 : decode cX12_first 69 = .ok (.aload_n 0, 1) := by decide +kernel
theorem dX12_first_70 : decode cX12_first 70 = .ok (.iconst 2, 1) := by decide +kernel
theorem dX12_first_71 : decode cX12_first 71 = .ok (.invokevirtual 126, 3) := by decide +kernel
theorem dX12_first_74 : decode cX12_first 74 = .ok (.goto 16, 3) := by decide +kernel
theorem dX12_first_77 : decode cX12_first 77 = .ok (.iload_n 2, 1) := by decide +kernel
theorem dX12_first_78 : decode cX12_first 78 = .ok (.ifCond .ne 7, 3) := by decide +kernel
theorem dX12_first_81 : decode cX12_first 81 = .ok (.iload_n 3, 1) := by decide +kernel
theorem dX12_first_82 : decode cX12_first 82 = .ok (.goto 8, 3) := by decide +kernel
theorem dX12_first_85 : decode cX12_first 85 = .ok (.iload 4, 2) := by decide +kernel
theorem dX12_first_87 : decode cX12_first 87 = .ok (.invokestatic 235, 3) := by decide +kernel
theorem dX12_first_90 : decode cX12_first 90 = .ok (.ireturn, 1) := by decide +kernel
theorem dX12_meet_0 : decode cX12_meet 0 = .ok (.aload_n 0, 1) := by decide +kernel
theorem dX12_meet_1 : decode cX12_meet 1 = .ok (.iload_n 1, 1) := by decide +kernel
theorem dX12_meet_2 : decode cX12_meet 2 = .ok (.invokevirtual 199, 3) := by decide +kernel
theorem dX12_meet_5 : decode cX12_meet 5 = .ok (.ifCond .eq 16, 3) := by decide +kernel
theorem dX12_meet_8 : decode cX12_meet 8 = .ok (.aload_n 0, 1) := by decide +kernel
theorem dX12_meet_9 : decode cX12_meet 9 = .ok (.iload_n 2, 1) := by decide +kernel
theorem dX12_meet_10 : decode cX12_meet 10 = .ok (.invokevirtual 199, 3) := by decide +kernel
theorem dX12_meet_13 : decode cX12_meet 13 = .ok (.ifCond .eq 8, 3) := by decide +kernel
theorem dX12_meet_16 : decode cX12_meet 16 = .ok (.iload_n 1, 1) := by decide +kernel
theorem dX12_meet_17 : decode cX12_meet 17 = .ok (.iload_n 2, 1) := by decide +kernel
theorem dX12_meet_18 : decode cX12_meet 18 = .ok (.if_icmp .ne 9, 3) := by decide +kernel
theorem dX12_meet_21 : decode cX12_meet 21 = .ok (.aload_n 0, 1) := by decide +kernel
theorem dX12_meet_22 : decode cX12_meet 22 = .ok (.iconst 1, 1) := by decide +kernel
theorem dX12_meet_23 : decode cX12_meet 23 = .ok (.invokevirtual 126, 3) := by decide +kernel
theorem dX12_meet_26 : decode cX12_meet 26 = .ok (.ireturn, 1) := by decide +kernel
theorem dX12_meet_27 : decode cX12_meet 27 = .ok (.aload_n 0, 1) := by decide +kernel
theorem dX12_meet_28 : decode cX12_meet 28 = .ok (.invokevirtual 226, 3) := by decide +kernel
theorem dX12_meet_31 : decode cX12_meet 31 = .ok (.iconst 0, 1) := by decide +kernel
theorem dX12_meet_32 : decode cX12_meet 32 = .ok (.istore_n 3, 1) := by decide +kernel
theorem dX12_meet_33 : decode cX12_meet 33 = .ok (.iload_n 3, 1) := by decide +kernel
theorem dX12_meet_34 : decode cX12_meet 34 = .ok (.bipush 60, 2) := by decide +kernel
theorem dX12_meet_36 : decode cX12_meet 36 = .ok (.if_icmp .ge 38, 3) := by decide +kernel
theorem dX12_meet_39 : decode cX12_meet 39 = .ok (.aload_n 0, 1) := by decide +kernel
theorem dX12_meet_40 : decode cX12_meet 40 = .ok (.iload_n 1, 1) := by decide +kernel
theorem dX12_meet_41 : decode cX12_meet 41 = .ok (.iconst 4, 1) := by decide +kernel
theorem dX12_meet_42 : decode cX12_meet 42 = .ok (.invokevirtual 146, 3) := by decide +kernel
theorem dX12_meet_45 : decode cX12_meet 45 = .ok (.iconst (-1), 1) := by decide +kernel
theorem dX12_meet_46 : decode cX12_meet 46 = .ok (.if_icmp .eq 18, 3) := by decide +kernel
theorem dX12_meet_49 : decode cX12_meet 49 = .ok (.aload_n 0, 1) := by decide +kernel
theorem dX12_meet_50 : decode cX12_meet 50 = .ok (.iload_n 1, 1) := by decide +kernel
theorem dX12_meet_51 : decode cX12_meet 51 = .ok (.iconst 4, 1) := by decide +kernel
theorem dX12_meet_52 : decode cX12_meet 52 = .ok (.invokevirtual 146, 3) := by decide +kernel
theorem dX12_meet_55 : decode cX12_meet 55 = .ok (.aload_n 0, 1) := by decide +kernel
theorem dX12_meet_56 : decode cX12_meet 56 = .ok (.iload_n 2, 1) := by decide +kernel
theorem dX12_meet_57 : decode cX12_meet 57 = .ok (.iconst 4, 1) := by decide +kernel
theorem dX12_meet_58 : decode cX12_meet 58 = .ok (.invokevirtual 146, 3) := by decide +kernel
theorem dX12_meet_61 : decode cX12_meet 61 = .ok (.if_icmp .eq 13, 3) := by decide +kernel
theorem dX12_meet_64 : decode cX12_meet 64 = .ok (.aload_n 0, 1) := by decide +kernel
theorem dX12_meet_65 : decode cX12_meet 65 = .ok (.invokevirtual 171, 3) := by decide +kernel
theorem dX12_meet_68 : decode cX12_meet 68 = .ok (.iinc 3 1, 3) := by decide +kernel
theorem dX12_meet_71 : decode cX12_meet 71 = .ok (.goto (-38), 3) := by decide +kernel
theorem dX12_meet_74 : decode cX12_meet 74 = .ok (.aload_n 0, 1) := by decide +kernel
theorem dX12_meet_75 : decode cX12_meet 75 = .ok (.iload_n 1, 1) := by decide +kernel
theorem dX12_meet_76 : decode cX12_meet 76 = .ok (.iconst 4, 1) := by decide +kernel
theorem dX12_meet_77 : decode cX12_meet 77 = .ok (.invokevirtual 146, 3) := by decide +kernel
theorem dX12_meet_80 : decode cX12_meet 80 = .ok (.iconst (-1), 1) := by decide +kernel
theorem dX12_meet_81 : decode cX12_meet 81 = .ok (.if_icmp .eq 22, 3) := by decide +kernel
theorem dX12_meet_84 : decode cX12_meet 84 = .ok (.aload_n 0, 1) := by decide +kernel
theorem dX12_meet_85 : decode cX12_meet 85 = .ok (.iload_n 1, 1) := by decide +kernel
theorem dX12_meet_86 : decode cX12_meet 86 = .ok (.iconst 4, 1) := by decide +kernel
theorem dX12_meet_87 : decode cX12_meet 87 = .ok (.invokevirtual 146, 3) := by decide +kernel
theorem dX12_meet_90 : decode cX12_meet 90 = .ok (.aload_n 0, 1) := by decide +kernel
theorem dX12_meet_91 : decode cX12_meet 91 = .ok (.iload_n 2, 1) := by decide +kernel
theorem dX12_meet_92 : decode cX12_meet 92 = .ok (.iconst 4, 1) := by decide +kernel
theorem dX12_meet_93 : decode cX12_meet 93 = .ok (.invokevirtual 146, 3) := by decide +kernel
theorem dX12_meet_96 : decode cX12_meet 96 = .ok (.if_icmp .ne 7, 3) := by decide +kernel
theorem dX12_meet_99 : decode cX12_meet 99 = .ok (.iconst 1, 1) := by decide +kernel
theorem dX12_meet_100 : decode cX12_meet 100 = .ok (.goto 4, 3) := by decide +kernel
theorem dX12_meet_103 : decode cX12_meet 103 = .ok (.iconst 0, 1) := by decide +kernel
theorem dX12_meet_104 : decode cX12_meet 104 = .ok (.istore 4, 2) := by decide +kernel
theorem dX12_meet_106 : decode cX12_meet 106 = .ok (.aload_n 0, 1) := by decide +kernel
theorem dX12_meet_107 : decode cX12_meet 107 = .ok (.invokevirtual 223, 3) := by decide +kernel
theorem dX12_meet_110 : decode cX12_meet 110 = .ok (.iload 4, 2) := by decide +kernel
theorem dX12_meet_112 : decode cX12_meet 112 = .ok (.ifCond .eq 7, 3) := by decide +kernel
theorem dX12_meet_115 : decode cX12_meet 115 = .ok (.iload_n 3, 1) := by decide +kernel
theorem dX12_meet_116 : decode cX12_meet 116 = .ok (.goto 8, 3) := by decide +kernel
theorem dX12_meet_119 : decode cX12_meet 119 = .ok (.aload_n 0, 1) := by decide +kernel
theorem dX12_meet_120 : decode cX12_meet 120 = .ok (.iconst 2, 1) := by decide +kernel
theorem dX12_meet_121 : decode cX12_meet 121 = .ok (.invokevirtual 126, 3) := by decide +kernel
theorem dX12_meet_124 : decode cX12_meet 124 = .ok (.ireturn, 1) := by decide +kernel
theorem dX12_bright_0 : decode cX12_bright 0 = .ok (.aload_n 0, 1) := by decide +kernel
theorem dX12_bright_1 : decode cX12_bright 1 = .ok (.iload_n 1, 1) := by decide +kernel
theorem dX12_bright_2 : decode cX12_bright 2 = .ok (.invokevirtual 199, 3) := by decide +kernel
theorem dX12_bright_5 : decode cX12_bright 5 = .ok (.ifCond .eq 15, 3) := by decide +kernel
theorem dX12_bright_8 : decode cX12_bright 8 = .ok (.iload_n 2, 1) := by decide +kernel
theorem dX12_bright_9 : decode cX12_bright 9 = .ok (.i2l, 1) := by decide +kernel
theorem dX12_bright_10 : decode cX12_bright 10 = .ok (.lconst 0, 1) := by decide +kernel
theorem dX12_bright_11 : decode cX12_bright 11 = .ok (.ldc2_w 205, 3) := by decide +kernel
theorem dX12_bright_14 : decode cX12_bright 14 = .ok (.invokestatic 47, 3) := by decide +kernel
theorem dX12_bright_17 : decode cX12_bright 17 = .ok (.ifCond .ne 9, 3) := by decide +kernel
theorem dX12_bright_20 : decode cX12_bright 20 = .ok (.aload_n 0, 1) := by decide +kernel
theorem dX12_bright_21 : decode cX12_bright 21 = .ok (.iconst 1, 1) := by decide +kernel
theorem dX12_bright_22 : decode cX12_bright 22 = .ok (.invokevirtual 126, 3) := by decide +kernel
theorem dX12_bright_25 : decode cX12_bright 25 = .ok (.ireturn, 1) := by decide +kernel
theorem dX12_bright_26 : decode cX12_bright 26 = .ok (.aload_n 0, 1) := by decide +kernel
theorem dX12_bright_27 : decode cX12_bright 27 = .ok (.invokevirtual 226, 3) := by decide +kernel
theorem dX12_bright_30 : decode cX12_bright 30 = .ok (.iconst 0, 1) := by decide +kernel
theorem dX12_bright_31 : decode cX12_bright 31 = .ok (.istore_n 3, 1) := by decide +kernel
theorem dX12_bright_32 : decode cX12_bright 32 = .ok (.iload_n 3, 1) := by decide +kernel
theorem dX12_bright_33 : decode cX12_bright 33 = .ok (.bipush 60, 2) := by decide +kernel
theorem dX12_bright_35 : decode cX12_bright 35 = .ok (.if_icmp .ge 23, 3) := by decide +kernel
theorem dX12_bright_38 : decode cX12_bright 38 = .ok (.aload_n 0, 1) := by decide +kernel
theorem dX12_bright_39 : decode cX12_bright 39 = .ok (.iload_n 1, 1) := by decide +kernel
theorem dX12_bright_40 : decode cX12_bright 40 = .ok (.iconst 5, 1) := by decide +kernel
theorem dX12_bright_41 : decode cX12_bright 41 = .ok (.invokevirtual 146, 3) := by decide +kernel
theorem dX12_bright_44 : decode cX12_bright 44 = .ok (.iload_n 2, 1) := by decide +kernel
theorem dX12_bright_45 : decode cX12_bright 45 = .ok (.if_icmp .ge 13, 3) := by decide +kernel
theorem dX12_bright_48 : decode cX12_bright 48 = .ok (.aload_n 0, 1) := by decide +kernel
theorem dX12_bright_49 : decode cX12_bright 49 = .ok (.invokevirtual 171, 3) := by decide +kernel
theorem dX12_bright_52 : decode cX12_bright 52 = .ok (.iinc 3 1, 3) := by decide +kernel
theorem dX12_bright_55 : decode cX12_bright 55 = .ok (.goto (-23), 3) := by decide +kernel
theorem dX12_bright_58 : decode cX12_bright 58 = .ok (.aload_n 0, 1) := by decide +kernel
theorem dX12_bright_59 : decode cX12_bright 59 = .ok (.iload_n 1, 1) := by decide +kernel
theorem dX12_bright_60 : decode cX12_bright 60 = .ok (.iconst 5, 1) := by decide +kernel
theorem dX12_bright_61 : decode cX12_bright 61 = .ok (.invokevirtual 146, 3) := by decide +kernel
theorem dX12_bright_64 : decode cX12_bright 64 = .ok (.iload_n 2, 1) := by decide +kernel
theorem dX12_bright_65 : decode cX12_bright 65 = .ok (.if_icmp .lt 7, 3) := by decide +kernel
theorem dX12_bright_68 : decode cX12_bright 68 = .ok (.iconst 1, 1) := by decide +kernel
theorem dX12_bright_69 : decode cX12_bright 69 = .ok (.goto 4, 3) := by decide +kernel
theorem dX12_bright_72 : decode cX12_bright 72 = .ok (.iconst 0, 1) := by decide +kernel
theorem dX12_bright_73 : decode cX12_bright 73 = .ok (.istore 4, 2) := by decide +kernel
theorem dX12_bright_75 : decode cX12_bright 75 = .ok (.aload_n 0, 1) := by decide +kernel
theorem dX12_bright_76 : decode cX12_bright 76 = .ok (.invokevirtual 223, 3) := by decide +kernel
theorem dX12_bright_79 : decode cX12_bright 79 = .ok (.iload 4, 2) := by decide +kernel
theorem dX12_bright_81 : decode cX12_bright 81 = .ok (.ifCond .eq 7, 3) := by decide +kernel
theorem dX12_bright_84 : decode cX12_bright 84 = .ok (.iload_n 3, 1) := by decide +kernel
theorem dX12_bright_85 : decode cX12_bright 85 = .ok (.goto 8, 3) := by decide +kernel
theorem dX12_bright_88 : decode cX12_bright 88 = .ok (.aload_n 0, 1) := by decide +kernel
theorem dX12_bright_89 : decode cX12_bright 89 = .ok (.iconst 2, 1) := by decide +kernel
theorem dX12_bright_90 : decode cX12_bright 90 = .ok (.invokevirtual 126, 3) := by decide +kernel
theorem dX12_bright_93 : decode cX12_bright 93 = .ok (.ireturn, 1) := by decide +kernel
theorem dX12_place_0 : decode cX12_place 0 = .ok (.aload_n 0, 1) := by decide +kernel
theorem dX12_place_1 : decode cX12_place 1 = .ok (.iload_n 1, 1) := by decide +kernel
theorem dX12_place_2 : decode cX12_place 2 = .ok (.invokevirtual 199, 3) := by decide +kernel
theorem dX12_place_5 : decode cX12_place 5 = .ok (.ifCond .eq 25, 3) := by decide +kernel
theorem dX12_place_8 : decode cX12_place 8 = .ok (.iload_n 2, 1) := by decide +kernel
theorem dX12_place_9 : decode cX12_place 9 = .ok (.i2l, 1) := by decide +kernel
theorem dX12_place_10 : decode cX12_place 10 = .ok (.lconst 0, 1) := by decide +kernel
theorem dX12_place_11 : decode cX12_place 11 = .ok (.ldc2_w 187, 3) := by decide +kernel
theorem dX12_place_14 : decode cX12_place 14 = .ok (.invokestatic 47, 3) := by decide +kernel
theorem dX12_place_17 : decode cX12_place 17 = .ok (.ifCond .eq 13, 3) := by decide +kernel
theorem dX12_place_20 : decode cX12_place 20 = .ok (.iload_n 3, 1) := by decide +kernel
theorem dX12_place_21 : decode cX12_place 21 = .ok (.i2l, 1) := by decide +kernel
theorem dX12_place_22 : decode cX12_place 22 = .ok (.lconst 0, 1) := by decide +kernel
theorem dX12_place_23 : decode cX12_place 23 = .ok (.lconst 1, 1) := by decide +kernel
theorem dX12_place_24 : decode cX12_place 24 = .ok (.invokestatic 47, 3) := by decide +kernel
theorem dX12_place_27 : decode cX12_place 27 = .ok (.ifCond .ne 9, 3) := by decide +kernel
theorem dX12_place_30 : decode cX12_place 30 = .ok (.aload_n 0, 1) := by decide +kernel
theorem dX12_place_31 : decode cX12_place 31 = .ok (.iconst 1, 1) := by decide +kernel
theorem dX12_place_32 : decode cX12_place 32 = .ok (.invokevirtual 126, 3) := by decide +kernel
theorem dX12_place_35 : decode cX12_place 35 = .ok (.ireturn, 1) := by decide +kernel
theorem dX12_place_36 : decode cX12_place 36 = .ok (.aload_n 0, 1) := by decide +kernel
theorem dX12_place_37 : decode cX12_place 37 = .ok (.invokevirtual 226, 3) := by decide +kernel
theorem dX12_place_40 : decode cX12_place 40 = .ok (.iconst 0, 1) := by decide +kernel
theorem dX12_place_41 : decode cX12_place 41 = .ok (.istore 4, 2) := by decide +kernel
theorem dX12_place_43 : decode cX12_place 43 = .ok (.iconst (-1), 1) := by decide +kernel
theorem dX12_place_44 : decode cX12_place 44 = .ok (.istore 5, 2) := by decide +kernel
theorem dX12_place_46 : decode cX12_place 46 = .ok (.iconst 0, 1) := by decide +kernel
theorem dX12_place_47 : decode cX12_place 47 = .ok (.istore 6, 2) := by decide +kernel
theorem dX12_place_49 : decode cX12_place 49 = .ok (.iload 6, 2) := by decide +kernel
theorem dX12_place_51 : decode cX12_place 51 = .ok (.bipush 16, 2) := by decide +kernel
theorem dX12_place_53 : decode cX12_place 53 = .ok (.if_icmp .ge 64, 3) := by decide +kernel
theorem dX12_place_56 : decode cX12_place 56 = .ok (.aload_n 0, 1) := by decide +kernel
theorem dX12_place_57 : decode cX12_place 57 = .ok (.iload_n 1, 1) := by decide +kernel
theorem dX12_place_58 : decode cX12_place 58 = .ok (.iconst 2, 1) := by decide +kernel
theorem dX12_place_59 : decode cX12_place 59 = .ok (.iload 6, 2) := by decide +kernel
theorem dX12_place_61 : decode cX12_place 61 = .ok (.invokevirtual 164, 3) := by decide +kernel
theorem dX12_place_64 : decode cX12_place 64 = .ok (.aload_n 0, 1) := by decide +kernel
theorem dX12_place_65 : decode cX12_place 65 = .ok (.iload_n 1, 1) := by decide +kernel
theorem dX12_place_66 : decode cX12_place 66 = .ok (.iconst 4, 1) := by decide +kernel
theorem dX12_place_67 : decode cX12_place 67 = .ok (.aload_n 0, 1) := by decide +kernel
theorem dX12_place_68 : decode cX12_place 68 = .ok (.iload_n 1, 1) := by decide +kernel
theorem dX12_place_69 : decode cX12_place 69 = .ok (.invokevirtual 149, 3) := by decide +kernel
theorem dX12_place_72 : decode cX12_place 72 = .ok (.ifCond .eq 8, 3) := by decide +kernel
theorem dX12_place_75 : decode cX12_place 75 = .ok (.iload 6, 2) := by decide +kernel
theorem dX12_place_77 : decode cX12_place 77 = .ok (.goto 4, 3) := by decide +kernel
theorem dX12_place_80 : decode cX12_place 80 = .ok (.iconst (-1), 1) := by decide +kernel
theorem dX12_place_81 : decode cX12_place 81 = .ok (.invokevirtual 164, 3) := by decide +kernel
theorem dX12_place_84 : decode cX12_place 84 = .ok (.aload_n 0, 1) := by decide +kernel
theorem dX12_place_85 : decode cX12_place 85 = .ok (.iload_n 2, 1) := by decide +kernel
theorem dX12_place_86 : decode cX12_place 86 = .ok (.iload_n 1, 1) := by decide +kernel
theorem dX12_place_87 : decode cX12_place 87 = .ok (.iconst 5, 1) := by decide +kernel
theorem dX12_place_88 : decode cX12_place 88 = .ok (.invokestatic 229, 3) := by decide +kernel
theorem dX12_place_91 : decode cX12_place 91 = .ok (.invokevirtual 232, 3) := by decide +kernel
theorem dX12_place_94 : decode cX12_place 94 = .ok (.istore 7, 2) := by decide +kernel
theorem dX12_place_96 : decode cX12_place 96 = .ok (.iload 7, 2) := by decide +kernel
theorem dX12_place_98 : decode cX12_place 98 = .ok (.iload 5, 2) := by decide +kernel
theorem dX12_place_100 : decode cX12_place 100 = .ok (.if_icmp .le 11, 3) := by decide +kernel
theorem dX12_place_103 : decode cX12_place 103 = .ok (.iload 6, 2) := by decide +kernel
theorem dX12_place_105 : decode cX12_place 105 = .ok (.istore 4, 2) := by decide +kernel
theorem dX12_place_107 : decode cX12_place 107 = .ok (.iload 7, 2) := by decide +kernel
theorem dX12_place_109 : decode cX12_place 109 = .ok (.istore 5, 2) := by decide +kernel
theorem dX12_place_111 : decode cX12_place 111 = .ok (.iinc 6 1, 3) := by decide +kernel
theorem dX12_place_114 : decode cX12_place 114 = .ok (.goto (-65), 3) := by decide +kernel
theorem dX12_place_117 : decode cX12_place 117 = .ok (.iload_n 3, 1) := by decide +kernel
theorem dX12_place_118 : decode cX12_place 118 = .ok (.ifCond .ne 8, 3) := by decide +kernel
theorem dX12_place_121 : decode cX12_place 121 = .ok (.iload 4, 2) := by decide +kernel
theorem dX12_place_123 : decode cX12_place 123 = .ok (.goto 5, 3) := by decide +kernel
theorem dX12_place_126 : decode cX12_place 126 = .ok (.iload 5, 2) := by decide +kernel
theorem dX12_place_128 : decode cX12_place 128 = .ok (.ireturn, 1) := by decide +kernel
theorem dX12_contents_0 : decode cX12_contents 0 = .ok (.iconst 0, 1) := by decide +kernel
theorem dX12_contents_1 : decode cX12_contents 1 = .ok (.istore_n 1, 1) := by decide +kernel
theorem dX12_contents_2 : decode cX12_contents 2 = .ok (.iconst 0, 1) := by decide +kernel
theorem dX12_contents_3 : decode cX12_contents 3 = .ok (.istore_n 2, 1) := by decide +kernel
theorem dX12_contents_4 : decode cX12_contents 4 = .ok (.iload_n 2, 1) := by decide +kernel
theorem dX12_contents_5 : decode cX12_contents 5 = .ok (.aload_n 0, 1) := by decide +kernel
theorem dX12_contents_6 : decode cX12_contents 6 = .ok (.getfield 7, 3) := by decide +kernel
theorem dX12_contents_9 : decode cX12_contents 9 = .ok (.iconst 0, 1) := by decide +kernel
theorem dX12_contents_10 : decode cX12_contents 10 = .ok (.iaload, 1) := by decide +kernel
theorem dX12_contents_11 : decode cX12_contents 11 = .ok (.if_icmp .ge 27, 3) := by decide +kernel
theorem dX12_contents_14 : decode cX12_contents 14 = .ok (.iload_n 1, 1) := by decide +kernel
theorem dX12_contents_15 : decode cX12_contents 15 = .ok (.aload_n 0, 1) := by decide +kernel
theorem dX12_contents_16 : decode cX12_contents 16 = .ok (.iload_n 2, 1) := by decide +kernel
theorem dX12_contents_17 : decode cX12_contents 17 = .ok (.invokevirtual 202, 3) := by decide +kernel
theorem dX12_contents_20 : decode cX12_contents 20 = .ok (.ifCond .eq 9, 3) := by decide +kernel
theorem dX12_contents_23 : decode cX12_contents 23 = .ok (.iconst 1, 1) := by decide +kernel
theorem dX12_contents_24 : decode cX12_contents 24 = .ok (.iload_n 2, 1) := by decide +kernel
theorem dX12_contents_25 : decode cX12_contents 25 = .ok (.ishl, 1) := by decide +kernel
theorem dX12_contents_26 : decode cX12_contents 26 = .ok (.goto 4, 3) := by decide +kernel
theorem dX12_contents_29 : decode cX12_contents 29 = .ok (.iconst 0, 1) := by decide +kernel
theorem dX12_contents_30 : decode cX12_contents 30 = .ok (.ior, 1) := by decide +kernel
theorem dX12_contents_31 : decode cX12_contents 31 = .ok (.istore_n 1, 1) := by decide +kernel
theorem dX12_contents_32 : decode cX12_contents 32 = .ok (.iinc 2 1, 3) := by decide +kernel
theorem dX12_contents_35 : decode cX12_contents 35 = .ok (.goto (-31), 3) := by decide +kernel
theorem dX12_contents_38 : decode cX12_contents 38 = .ok (.iload_n 1, 1) := by decide +kernel
theorem dX12_contents_39 : decode cX12_contents 39 = .ok (.ireturn, 1) := by decide +kernel
theorem dX12_cartsFor_0 : decode cX12_cartsFor 0 = .ok (.iload_n 1, 1) := by decide +kernel
theorem dX12_cartsFor_1 : decode cX12_cartsFor 1 = .ok (.i2l, 1) := by decide +kernel
theorem dX12_cartsFor_2 : decode cX12_cartsFor 2 = .ok (.lconst 0, 1) := by decide +kernel
theorem dX12_cartsFor_3 : decode cX12_cartsFor 3 = .ok (.iconst 1, 1) := by decide +kernel
theorem dX12_cartsFor_4 : decode cX12_cartsFor 4 = .ok (.aload_n 0, 1) := by decide +kernel
theorem dX12_cartsFor_5 : decode cX12_cartsFor 5 = .ok (.getfield 7, 3) := by decide +kernel
theorem dX12_cartsFor_8 : decode cX12_cartsFor 8 = .ok (.iconst 0, 1) := by decide +kernel
theorem dX12_cartsFor_9 : decode cX12_cartsFor 9 = .ok (.iaload, 1) := by decide +kernel
theorem dX12_cartsFor_10 : decode cX12_cartsFor 10 = .ok (.ishl, 1) := by decide +kernel
theorem dX12_cartsFor_11 : decode cX12_cartsFor 11 = .ok (.iconst 1, 1) := by decide +kernel
theorem dX12_cartsFor_12 : decode cX12_cartsFor 12 = .ok (.isub, 1) := by decide +kernel
theorem dX12_cartsFor_13 : decode cX12_cartsFor 13 = .ok (.i2l, 1) := by decide +kernel
theorem dX12_cartsFor_14 : decode cX12_cartsFor 14 = .ok (.invokestatic 47, 3) := by decide +kernel
theorem dX12_cartsFor_17 : decode cX12_cartsFor 17 = .ok (.ifCond .eq 15, 3) := by decide +kernel
theorem dX12_cartsFor_20 : decode cX12_cartsFor 20 = .ok (.iload_n 2, 1) := by decide +kernel
theorem dX12_cartsFor_21 : decode cX12_cartsFor 21 = .ok (.i2l, 1) := by decide +kernel
theorem dX12_cartsFor_22 : decode cX12_cartsFor 22 = .ok (.lconst 0, 1) := by decide +kernel
theorem dX12_cartsFor_23 : decode cX12_cartsFor 23 = .ok (.ldc2_w 187, 3) := by decide +kernel
theorem dX12_cartsFor_26 : decode cX12_cartsFor 26 = .ok (.invokestatic 47, 3) := by decide +kernel
theorem dX12_cartsFor_29 : decode cX12_cartsFor 29 = .ok (.ifCond .ne 9, 3) := by decide +kernel
theorem dX12_cartsFor_32 : decode cX12_cartsFor 32 = .ok (.aload_n 0, 1) := by decide +kernel
theorem dX12_cartsFor_33 : decode cX12_cartsFor 33 = .ok (.iconst 1, 1) := by decide +kernel
theorem dX12_cartsFor_34 : decode cX12_cartsFor 34 = .ok (.invokevirtual 126, 3) := by decide +kernel
theorem dX12_cartsFor_37 : decode cX12_cartsFor 37 = .ok (.ireturn, 1) := by decide +kernel
theorem dX12_cartsFor_38 : decode cX12_cartsFor 38 = .ok (.aload_n 0, 1) := by decide +kernel
theorem dX12_cartsFor_39 : decode cX12_cartsFor 39 = .ok (.invokevirtual 226, 3) := by decide +kernel
theorem dX12_cartsFor_42 : decode cX12_cartsFor 42 = .ok (.bipush 9, 2) := by decide +kernel
theorem dX12_cartsFor_44 : decode cX12_cartsFor 44 = .ok (.istore_n 3, 1) := by decide +kernel
theorem dX12_cartsFor_45 : decode cX12_cartsFor 45 = .ok (.iload_n 3, 1) := by decide +kernel
theorem dX12_cartsFor_46 : decode cX12_cartsFor 46 = .ok (.ifCond .lt 50, 3) := by decide +kernel
theorem dX12_cartsFor_49 : decode cX12_cartsFor 49 = .ok (.aload_n 0, 1) := by decide +kernel
theorem dX12_cartsFor_50 : decode cX12_cartsFor 50 = .ok (.getfield 7, 3) := by decide +kernel
theorem dX12_cartsFor_53 : decode cX12_cartsFor 53 = .ok (.iconst 2, 1) := by decide +kernel
theorem dX12_cartsFor_54 : decode cX12_cartsFor 54 = .ok (.iload_n 3, 1) := by decide +kernel
theorem dX12_cartsFor_55 : decode cX12_cartsFor 55 = .ok (.iastore, 1) := by decide +kernel
theorem dX12_cartsFor_56 : decode cX12_cartsFor 56 = .ok (.aload_n 0, 1) := by decide +kernel
theorem dX12_cartsFor_57 : decode cX12_cartsFor 57 = .ok (.iload_n 2, 1) := by decide +kernel
theorem dX12_cartsFor_58 : decode cX12_cartsFor 58 = .ok (.invokevirtual 214, 3) := by decide +kernel
theorem dX12_cartsFor_61 : decode cX12_cartsFor 61 = .ok (.iload_n 1, 1) := by decide +kernel
theorem dX12_cartsFor_62 : decode cX12_cartsFor 62 = .ok (.aload_n 0, 1) := by decide +kernel
theorem dX12_cartsFor_63 : decode cX12_cartsFor 63 = .ok (.invokevirtual 238, 3) := by decide +kernel
theorem dX12_cartsFor_66 : decode cX12_cartsFor 66 = .ok (.iconst (-1), 1) := by decide +kernel
theorem dX12_cartsFor_67 : decode cX12_cartsFor 67 = .ok (.ixor, 1) := by decide +kernel
theorem dX12_cartsFor_68 : decode cX12_cartsFor 68 = .ok (.iand, 1) := by decide +kernel
theorem dX12_cartsFor_69 : decode cX12_cartsFor 69 = .ok (.ifCond .ne 7, 3) := by decide +kernel
theorem dX12_cartsFor_72 : decode cX12_cartsFor 72 = .ok (.iconst 1, 1) := by decide +kernel
theorem dX12_cartsFor_73 : decode cX12_cartsFor 73 = .ok (.goto 4, 3) := by decide +kernel
theorem dX12_cartsFor_76 : decode cX12_cartsFor 76 = .ok (.iconst 0, 1) := by decide +kernel
theorem dX12_cartsFor_77 : decode cX12_cartsFor 77 = .ok (.istore 4, 2) := by decide +kernel
theorem dX12_cartsFor_79 : decode cX12_cartsFor 79 = .ok (.aload_n 0, 1) := by decide +kernel
theorem dX12_cartsFor_80 : decode cX12_cartsFor 80 = .ok (.invokevirtual 223, 3) := by decide +kernel
theorem dX12_cartsFor_83 : decode cX12_cartsFor 83 = .ok (.iload 4, 2) := by decide +kernel
theorem dX12_cartsFor_85 : decode cX12_cartsFor 85 = .ok (.ifCond .eq 5, 3) := by decide +kernel
theorem dX12_cartsFor_88 : decode cX12_cartsFor 88 = .ok (.iload_n 3, 1) := by decide +kernel
theorem dX12_cartsFor_89 : decode cX12_cartsFor 89 = .ok (.ireturn, 1) := by decide +kernel
theorem dX12_cartsFor_90 : decode cX12_cartsFor 90 = .ok (.iinc 3 (-1), 3) := by decide +kernel
theorem dX12_cartsFor_93 : decode cX12_cartsFor 93 = .ok (.goto (-48), 3) := by decide +kernel
theorem dX12_cartsFor_96 : decode cX12_cartsFor 96 = .ok (.aload_n 0, 1) := by decide +kernel
theorem dX12_cartsFor_97 : decode cX12_cartsFor 97 = .ok (.iconst 2, 1) := by decide +kernel
theorem dX12_cartsFor_98 : decode cX12_cartsFor 98 = .ok (.invokevirtual 126, 3) := by decide +kernel
theorem dX12_cartsFor_101 : decode cX12_cartsFor 101 = .ok (.ireturn, 1) := by decide +kernel
theorem dX12_stop_0 : decode cX12_stop 0 = .ok (.aload_n 0, 1) := by decide +kernel
theorem dX12_stop_1 : decode cX12_stop 1 = .ok (.iload_n 1, 1) := by decide +kernel
theorem dX12_stop_2 : decode cX12_stop 2 = .ok (.invokevirtual 199, 3) := by decide +kernel
theorem dX12_stop_5 : decode cX12_stop 5 = .ok (.ifCond .eq 15, 3) := by decide +kernel
theorem dX12_stop_8 : decode cX12_stop 8 = .ok (.iload_n 2, 1) := by decide +kernel
theorem dX12_stop_9 : decode cX12_stop 9 = .ok (.i2l, 1) := by decide +kernel
theorem dX12_stop_10 : decode cX12_stop 10 = .ok (.lconst 0, 1) := by decide +kernel
theorem dX12_stop_11 : decode cX12_stop 11 = .ok (.ldc2_w 241, 3) := by decide +kernel
theorem dX12_stop_14 : decode cX12_stop 14 = .ok (.invokestatic 47, 3) := by decide +kernel
theorem dX12_stop_17 : decode cX12_stop 17 = .ok (.ifCond .ne 9, 3) := by decide +kernel
theorem dX12_stop_20 : decode cX12_stop 20 = .ok (.aload_n 0, 1) := by decide +kernel
theorem dX12_stop_21 : decode cX12_stop 21 = .ok (.iconst 1, 1) := by decide +kernel
theorem dX12_stop_22 : decode cX12_stop 22 = .ok (.invokevirtual 126, 3) := by decide +kernel
theorem dX12_stop_25 : decode cX12_stop 25 = .ok (.ireturn, 1) := by decide +kernel
theorem dX12_stop_26 : decode cX12_stop 26 = .ok (.aload_n 0, 1) := by decide +kernel
theorem dX12_stop_27 : decode cX12_stop 27 = .ok (.invokevirtual 226, 3) := by decide +kernel
theorem dX12_stop_30 : decode cX12_stop 30 = .ok (.aload_n 0, 1) := by decide +kernel
theorem dX12_stop_31 : decode cX12_stop 31 = .ok (.iload_n 2, 1) := by decide +kernel
theorem dX12_stop_32 : decode cX12_stop 32 = .ok (.iload_n 1, 1) := by decide +kernel
theorem dX12_stop_33 : decode cX12_stop 33 = .ok (.iconst 5, 1) := by decide +kernel
theorem dX12_stop_34 : decode cX12_stop 34 = .ok (.invokestatic 229, 3) := by decide +kernel
theorem dX12_stop_37 : decode cX12_stop 37 = .ok (.invokevirtual 232, 3) := by decide +kernel
theorem dX12_stop_40 : decode cX12_stop 40 = .ok (.istore_n 3, 1) := by decide +kernel
theorem dX12_stop_41 : decode cX12_stop 41 = .ok (.iconst (-1), 1) := by decide +kernel
theorem dX12_stop_42 : decode cX12_stop 42 = .ok (.istore 4, 2) := by decide +kernel
theorem dX12_stop_44 : decode cX12_stop 44 = .ok (.iconst 0, 1) := by decide +kernel
theorem dX12_stop_45 : decode cX12_stop 45 = .ok (.istore 5, 2) := by decide +kernel
theorem dX12_stop_47 : decode cX12_stop 47 = .ok (.iload 5, 2) := by decide +kernel
theorem dX12_stop_49 : decode cX12_stop 49 = .ok (.bipush 16, 2) := by decide +kernel
theorem dX12_stop_51 : decode cX12_stop 51 = .ok (.if_icmp .ge 46, 3) := by decide +kernel
theorem dX12_stop_54 : decode cX12_stop 54 = .ok (.aload_n 0, 1) := by decide +kernel
theorem dX12_stop_55 : decode cX12_stop 55 = .ok (.getfield 7, 3) := by decide +kernel
theorem dX12_stop_58 : decode cX12_stop 58 = .ok (.bipush 24, 2) := by decide +kernel
theorem dX12_stop_60 : decode cX12_stop 60 = .ok (.iload 5, 2) := by decide +kernel
theorem dX12_stop_62 : decode cX12_stop 62 = .ok (.iadd, 1) := by decide +kernel
theorem dX12_stop_63 : decode cX12_stop 63 = .ok (.iload 5, 2) := by decide +kernel
theorem dX12_stop_65 : decode cX12_stop 65 = .ok (.iastore, 1) := by decide +kernel
theorem dX12_stop_66 : decode cX12_stop 66 = .ok (.aload_n 0, 1) := by decide +kernel
theorem dX12_stop_67 : decode cX12_stop 67 = .ok (.iload_n 2, 1) := by decide +kernel
theorem dX12_stop_68 : decode cX12_stop 68 = .ok (.iload_n 1, 1) := by decide +kernel
theorem dX12_stop_69 : decode cX12_stop 69 = .ok (.iconst 5, 1) := by decide +kernel
theorem dX12_stop_70 : decode cX12_stop 70 = .ok (.invokestatic 229, 3) := by decide +kernel
theorem dX12_stop_73 : decode cX12_stop 73 = .ok (.invokevirtual 232, 3) := by decide +kernel
theorem dX12_stop_76 : decode cX12_stop 76 = .ok (.istore 6, 2) := by decide +kernel
theorem dX12_stop_78 : decode cX12_stop 78 = .ok (.iload 6, 2) := by decide +kernel
theorem dX12_stop_80 : decode cX12_stop 80 = .ok (.iload_n 3, 1) := by decide +kernel
theorem dX12_stop_81 : decode cX12_stop 81 = .ok (.if_icmp .le 10, 3) := by decide +kernel
theorem dX12_stop_84 : decode cX12_stop 84 = .ok (.iload 5, 2) := by decide +kernel
theorem dX12_stop_86 : decode cX12_stop 86 = .ok (.istore 4, 2) := by decide +kernel
theorem dX12_stop_88 : decode cX12_stop 88 = .ok (.iload 6, 2) := by decide +kernel
theorem dX12_stop_90 : decode cX12_stop 90 = .ok (.istore_n 3, 1) := by decide +kernel
theorem dX12_stop_91 : decode cX12_stop 91 = .ok (.iinc 5 1, 3) := by decide +kernel
theorem dX12_stop_94 : decode cX12_stop 94 = .ok (.goto (-47), 3) := by decide +kernel
theorem dX12_stop_97 : decode cX12_stop 97 = .ok (.iload 4, 2) := by decide +kernel
theorem dX12_stop_99 : decode cX12_stop 99 = .ok (.ireturn, 1) := by decide +kernel
theorem dX12_swap_0 : decode cX12_swap 0 = .ok (.iload_n 1, 1) := by decide +kernel
theorem dX12_swap_1 : decode cX12_swap 1 = .ok (.i2l, 1) := by decide +kernel
theorem dX12_swap_2 : decode cX12_swap 2 = .ok (.lconst 0, 1) := by decide +kernel
theorem dX12_swap_3 : decode cX12_swap 3 = .ok (.ldc2_w 241, 3) := by decide +kernel
theorem dX12_swap_6 : decode cX12_swap 6 = .ok (.invokestatic 47, 3) := by decide +kernel
theorem dX12_swap_9 : decode cX12_swap 9 = .ok (.ifCond .ne 9, 3) := by decide +kernel
theorem dX12_swap_12 : decode cX12_swap 12 = .ok (.aload_n 0, 1) := by decide +kernel
theorem dX12_swap_13 : decode cX12_swap 13 = .ok (.iconst 1, 1) := by decide +kernel
theorem dX12_swap_14 : decode cX12_swap 14 = .ok (.invokevirtual 126, 3) := by decide +kernel
theorem dX12_swap_17 : decode cX12_swap 17 = .ok (.ireturn, 1) := by decide +kernel
theorem dX12_swap_18 : decode cX12_swap 18 = .ok (.aload_n 0, 1) := by decide +kernel
theorem dX12_swap_19 : decode cX12_swap 19 = .ok (.invokevirtual 226, 3) := by decide +kernel
theorem dX12_swap_22 : decode cX12_swap 22 = .ok (.aload_n 0, 1) := by decide +kernel
theorem dX12_swap_23 : decode cX12_swap 23 = .ok (.iload_n 1, 1) := by decide +kernel
theorem dX12_swap_24 : decode cX12_swap 24 = .ok (.iconst 4, 1) := by decide +kernel
theorem dX12_swap_25 : decode cX12_swap 25 = .ok (.invokevirtual 232, 3) := by decide +kernel
theorem dX12_swap_28 : decode cX12_swap 28 = .ok (.istore_n 2, 1) := by decide +kernel
theorem dX12_swap_29 : decode cX12_swap 29 = .ok (.iconst (-1), 1) := by decide +kernel
theorem dX12_swap_30 : decode cX12_swap 30 = .ok (.istore_n 3, 1) := by decide +kernel
theorem dX12_swap_31 : decode cX12_swap 31 = .ok (.iconst 0, 1) := by decide +kernel
theorem dX12_swap_32 : decode cX12_swap 32 = .ok (.istore 4, 2) := by decide +kernel
theorem dX12_swap_34 : decode cX12_swap 34 = .ok (.iload 4, 2) := by decide +kernel
theorem dX12_swap_36 : decode cX12_swap 36 = .ok (.aload_n 0, 1) := by decide +kernel
theorem dX12_swap_37 : decode cX12_swap 37 = .ok (.getfield 7, 3) := by decide +kernel
theorem dX12_swap_40 : decode cX12_swap 40 = .ok (.iconst 0, 1) := by decide +kernel
theorem dX12_swap_41 : decode cX12_swap 41 = .ok (.iaload, 1) := by decide +kernel
theorem dX12_swap_42 : decode cX12_swap 42 = .ok (.if_icmp .ge 90, 3) := by decide +kernel
theorem dX12_swap_45 : decode cX12_swap 45 = .ok (.iload 4, 2) := by decide +kernel
theorem dX12_swap_47 : decode cX12_swap 47 = .ok (.iconst 1, 1) := by decide +kernel
theorem dX12_swap_48 : decode cX12_swap 48 = .ok (.iadd, 1) := by decide +kernel
theorem dX12_swap_49 : decode cX12_swap 49 = .ok (.istore 5, 2) := by decide +kernel
theorem dX12_swap_51 : decode cX12_swap 51 = .ok (.iload 5, 2) := by decide +kernel
theorem dX12_swap_53 : decode cX12_swap 53 = .ok (.aload_n 0, 1) := by decide +kernel
theorem dX12_swap_54 : decode cX12_swap 54 = .ok (.getfield 7, 3) := by decide +kernel
theorem dX12_swap_57 : decode cX12_swap 57 = .ok (.iconst 0, 1) := by decide +kernel
theorem dX12_swap_58 : decode cX12_swap 58 = .ok (.iaload, 1) := by decide +kernel
theorem dX12_swap_59 : decode cX12_swap 59 = .ok (.if_icmp .ge 67, 3) := by decide +kernel
theorem dX12_swap_62 : decode cX12_swap 62 = .ok (.aload_n 0, 1) := by decide +kernel
theorem dX12_swap_63 : decode cX12_swap 63 = .ok (.iload 4, 2) := by decide +kernel
theorem dX12_swap_65 : decode cX12_swap 65 = .ok (.iconst 2, 1) := by decide +kernel
theorem dX12_swap_66 : decode cX12_swap 66 = .ok (.invokevirtual 146, 3) := by decide +kernel
theorem dX12_swap_69 : decode cX12_swap 69 = .ok (.istore 6, 2) := by decide +kernel
theorem dX12_swap_71 : decode cX12_swap 71 = .ok (.aload_n 0, 1) := by decide +kernel
theorem dX12_swap_72 : decode cX12_swap 72 = .ok (.iload 4, 2) := by decide +kernel
theorem dX12_swap_74 : decode cX12_swap 74 = .ok (.iconst 2, 1) := by decide +kernel
theorem dX12_swap_75 : decode cX12_swap 75 = .ok (.aload_n 0, 1) := by decide +kernel
theorem dX12_swap_76 : decode cX12_swap 76 = .ok (.iload 5, 2) := by decide +kernel
theorem dX12_swap_78 : decode cX12_swap 78 = .ok (.iconst 2, 1) := by decide +kernel
theorem dX12_swap_79 : decode cX12_swap 79 = .ok (.invokevirtual 146, 3) := by decide +kernel
theorem dX12_swap_82 : decode cX12_swap 82 = .ok (.invokevirtual 164, 3) := by decide +kernel
theorem dX12_swap_85 : decode cX12_swap 85 = .ok (.aload_n 0, 1) := by decide +kernel
theorem dX12_swap_86 : decode cX12_swap 86 = .ok (.iload 5, 2) := by decide +kernel
theorem dX12_swap_88 : decode cX12_swap 88 = .ok (.iconst 2, 1) := by decide +kernel
theorem dX12_swap_89 : decode cX12_swap 89 = .ok (.iload 6, 2) := by decide +kernel
theorem dX12_swap_91 : decode cX12_swap 91 = .ok (.invokevirtual 164, 3) := by decide +kernel
theorem dX12_swap_94 : decode cX12_swap 94 = .ok (.aload_n 0, 1) := by decide +kernel
theorem dX12_swap_95 : decode cX12_swap 95 = .ok (.iload_n 1, 1) := by decide +kernel
theorem dX12_swap_96 : decode cX12_swap 96 = .ok (.iconst 4, 1) := by decide +kernel
theorem dX12_swap_97 : decode cX12_swap 97 = .ok (.invokevirtual 232, 3) := by decide +kernel
theorem dX12_swap_100 : decode cX12_swap 100 = .ok (.istore 7, 2) := by decide +kernel
theorem dX12_swap_102 : decode cX12_swap 102 = .ok (.iload 7, 2) := by decide +kernel
theorem dX12_swap_104 : decode cX12_swap 104 = .ok (.iload_n 2, 1) := by decide +kernel
theorem dX12_swap_105 : decode cX12_swap 105 = .ok (.if_icmp .le 15, 3) := by decide +kernel
theorem dX12_swap_108 : decode cX12_swap 108 = .ok (.bipush 10, 2) := by decide +kernel
theorem dX12_swap_110 : decode cX12_swap 110 = .ok (.iload 4, 2) := by decide +kernel
theorem dX12_swap_112 : decode cX12_swap 112 = .ok (.imul, 1) := by decide +kernel
theorem dX12_swap_113 : decode cX12_swap 113 = .ok (.iload 5, 2) := by decide +kernel
theorem dX12_swap_115 : decode cX12_swap 115 = .ok (.iadd, 1) := by decide +kernel
theorem dX12_swap_116 : decode cX12_swap 116 = .ok (.istore_n 3, 1) := by decide +kernel
theorem dX12_swap_117 : decode cX12_swap 117 = .ok (.iload 7, 2) := by decide +kernel
theorem dX12_swap_119 : decode cX12_swap 119 = .ok (.istore_n 2, 1) := by decide +kernel
theorem dX12_swap_120 : decode cX12_swap 120 = .ok (.iinc 5 1, 3) := by decide +kernel
theorem dX12_swap_123 : decode cX12_swap 123 = .ok (.goto (-72), 3) := by decide +kernel
theorem dX12_swap_126 : decode cX12_swap 126 = .ok (.iinc 4 1, 3) := by decide +kernel
theorem dX12_swap_129 : decode cX12_swap 129 = .ok (.goto (-95), 3) := by decide +kernel
theorem dX12_swap_132 : decode cX12_swap 132 = .ok (.iload_n 3, 1) := by decide +kernel
theorem dX12_swap_133 : decode cX12_swap 133 = .ok (.ireturn, 1) := by decide +kernel
theorem dX12_sunFor_0 : decode cX12_sunFor 0 = .ok (.iload_n 1, 1) := by decide +kernel
theorem dX12_sunFor_1 : decode cX12_sunFor 1 = .ok (.invokestatic 174, 3) := by decide +kernel
theorem dX12_sunFor_4 : decode cX12_sunFor 4 = .ok (.ifCond .eq 27, 3) := by decide +kernel
theorem dX12_sunFor_7 : decode cX12_sunFor 7 = .ok (.iload_n 2, 1) := by decide +kernel
theorem dX12_sunFor_8 : decode cX12_sunFor 8 = .ok (.i2l, 1) := by decide +kernel
theorem dX12_sunFor_9 : decode cX12_sunFor 9 = .ok (.lconst 0, 1) := by decide +kernel
theorem dX12_sunFor_10 : decode cX12_sunFor 10 = .ok (.ldc2_w 205, 3) := by decide +kernel
theorem dX12_sunFor_13 : decode cX12_sunFor 13 = .ok (.invokestatic 47, 3) := by decide +kernel
theorem dX12_sunFor_16 : decode cX12_sunFor 16 = .ok (.ifCond .eq 15, 3) := by decide +kernel
theorem dX12_sunFor_19 : decode cX12_sunFor 19 = .ok (.iload_n 3, 1) := by decide +kernel
theorem dX12_sunFor_20 : decode cX12_sunFor 20 = .ok (.i2l, 1) := by decide +kernel
theorem dX12_sunFor_21 : decode cX12_sunFor 21 = .ok (.lconst 0, 1) := by decide +kernel
theorem dX12_sunFor_22 : decode cX12_sunFor 22 = .ok (.ldc2_w 187, 3) := by decide +kernel
theorem dX12_sunFor_25 : decode cX12_sunFor 25 = .ok (.invokestatic 47, 3) := by decide +kernel
theorem dX12_sunFor_28 : decode cX12_sunFor 28 = .ok (.ifCond .ne 9, 3) := by decide +kernel
theorem dX12_sunFor_31 : decode cX12_sunFor 31 = .ok (.aload_n 0, 1) := by decide +kernel
theorem dX12_sunFor_32 : decode cX12_sunFor 32 = .ok (.iconst 1, 1) := by decide +kernel
theorem dX12_sunFor_33 : decode cX12_sunFor 33 = .ok (.invokevirtual 126, 3) := by decide +kernel
theorem dX12_sunFor_36 : decode cX12_sunFor 36 = .ok (.ireturn, 1) := by decide +kernel
theorem dX12_sunFor_37 : decode cX12_sunFor 37 = .ok (.aload_n 0, 1) := by decide +kernel
theorem dX12_sunFor_38 : decode cX12_sunFor 38 = .ok (.invokevirtual 226, 3) := by decide +kernel
theorem dX12_sunFor_41 : decode cX12_sunFor 41 = .ok (.iconst 0, 1) := by decide +kernel
theorem dX12_sunFor_42 : decode cX12_sunFor 42 = .ok (.istore 4, 2) := by decide +kernel
theorem dX12_sunFor_44 : decode cX12_sunFor 44 = .ok (.iload 4, 2) := by decide +kernel
theorem dX12_sunFor_46 : decode cX12_sunFor 46 = .ok (.bipush 9, 2) := by decide +kernel
theorem dX12_sunFor_48 : decode cX12_sunFor 48 = .ok (.if_icmp .gt 40, 3) := by decide +kernel
theorem dX12_sunFor_51 : decode cX12_sunFor 51 = .ok (.aload_n 0, 1) := by decide +kernel
theorem dX12_sunFor_52 : decode cX12_sunFor 52 = .ok (.getfield 7, 3) := by decide +kernel
theorem dX12_sunFor_55 : decode cX12_sunFor 55 = .ok (.bipush 8, 2) := by decide +kernel
theorem dX12_sunFor_57 : decode cX12_sunFor 57 = .ok (.iload_n 1, 1) := by decide +kernel
theorem dX12_sunFor_58 : decode cX12_sunFor 58 = .ok (.iadd, 1) := by decide +kernel
theorem dX12_sunFor_59 : decode cX12_sunFor 59 = .ok (.iload 4, 2) := by decide +kernel
theorem dX12_sunFor_61 : decode cX12_sunFor 61 = .ok (.iastore, 1) := by decide +kernel
theorem dX12_sunFor_62 : decode cX12_sunFor 62 = .ok (.aload_n 0, 1) := by decide +kernel
theorem dX12_sunFor_63 : decode cX12_sunFor 63 = .ok (.iload_n 3, 1) := by decide +kernel
theorem dX12_sunFor_64 : decode cX12_sunFor 64 = .ok (.iconst 4, 1) := by decide +kernel
theorem dX12_sunFor_65 : decode cX12_sunFor 65 = .ok (.invokevirtual 232, 3) := by decide +kernel
theorem dX12_sunFor_68 : decode cX12_sunFor 68 = .ok (.aload_n 0, 1) := by decide +kernel
theorem dX12_sunFor_69 : decode cX12_sunFor 69 = .ok (.getfield 7, 3) := by decide +kernel
theorem dX12_sunFor_72 : decode cX12_sunFor 72 = .ok (.iconst 4, 1) := by decide +kernel
theorem dX12_sunFor_73 : decode cX12_sunFor 73 = .ok (.iaload, 1) := by decide +kernel
theorem dX12_sunFor_74 : decode cX12_sunFor 74 = .ok (.iload_n 2, 1) := by decide +kernel
theorem dX12_sunFor_75 : decode cX12_sunFor 75 = .ok (.iadd, 1) := by decide +kernel
theorem dX12_sunFor_76 : decode cX12_sunFor 76 = .ok (.if_icmp .lt 6, 3) := by decide +kernel
theorem dX12_sunFor_79 : decode cX12_sunFor 79 = .ok (.iload 4, 2) := by decide +kernel
theorem dX12_sunFor_81 : decode cX12_sunFor 81 = .ok (.ireturn, 1) := by decide +kernel
theorem dX12_sunFor_82 : decode cX12_sunFor 82 = .ok (.iinc 4 1, 3) := by decide +kernel
theorem dX12_sunFor_85 : decode cX12_sunFor 85 = .ok (.goto (-41), 3) := by decide +kernel
theorem dX12_sunFor_88 : decode cX12_sunFor 88 = .ok (.aload_n 0, 1) := by decide +kernel
theorem dX12_sunFor_89 : decode cX12_sunFor 89 = .ok (.iconst 2, 1) := by decide +kernel
theorem dX12_sunFor_90 : decode cX12_sunFor 90 = .ok (.invokevirtual 126, 3) := by decide +kernel
theorem dX12_sunFor_93 : decode cX12_sunFor 93 = .ok (.ireturn, 1) := by decide +kernel
theorem dX12_sweepFor_0 : decode cX12_sweepFor 0 = .ok (.aload_n 0, 1) := by decide +kernel
theorem dX12_sweepFor_1 : decode cX12_sweepFor 1 = .ok (.iload_n 1, 1) := by decide +kernel
theorem dX12_sweepFor_2 : decode cX12_sweepFor 2 = .ok (.invokevirtual 199, 3) := by decide +kernel
theorem dX12_sweepFor_5 : decode cX12_sweepFor 5 = .ok (.ifCond .eq 15, 3) := by decide +kernel
theorem dX12_sweepFor_8 : decode cX12_sweepFor 8 = .ok (.iload_n 2, 1) := by decide +kernel
theorem dX12_sweepFor_9 : decode cX12_sweepFor 9 = .ok (.i2l, 1) := by decide +kernel
theorem dX12_sweepFor_10 : decode cX12_sweepFor 10 = .ok (.lconst 0, 1) := by decide +kernel
theorem dX12_sweepFor_11 : decode cX12_sweepFor 11 = .ok (.ldc2_w 212, 3) := by decide +kernel
theorem dX12_sweepFor_14 : decode cX12_sweepFor 14 = .ok (.invokestatic 47, 3) := by decide +kernel
theorem dX12_sweepFor_17 : decode cX12_sweepFor 17 = .ok (.ifCond .ne 9, 3) := by decide +kernel
theorem dX12_sweepFor_20 : decode cX12_sweepFor 20 = .ok (.aload_n 0, 1) := by decide +kernel
theorem dX12_sweepFor_21 : decode cX12_sweepFor 21 = .ok (.iconst 1, 1) := by decide +kernel
theorem dX12_sweepFor_22 : decode cX12_sweepFor 22 = .ok (.invokevirtual 126, 3) := by decide +kernel
theorem dX12_sweepFor_25 : decode cX12_sweepFor 25 = .ok (.ireturn, 1) := by decide +kernel
theorem dX12_sweepFor_26 : decode cX12_sweepFor 26 = .ok (.aload_n 0, 1) := by decide +kernel
theorem dX12_sweepFor_27 : decode cX12_sweepFor 27 = .ok (.invokevirtual 226, 3) := by decide +kernel
theorem dX12_sweepFor_30 : decode cX12_sweepFor 30 = .ok (.iconst 0, 1) := by decide +kernel
theorem dX12_sweepFor_31 : decode cX12_sweepFor 31 = .ok (.istore_n 3, 1) := by decide +kernel
theorem dX12_sweepFor_32 : decode cX12_sweepFor 32 = .ok (.iconst (-1), 1) := by decide +kernel
theorem dX12_sweepFor_33 : decode cX12_sweepFor 33 = .ok (.istore 4, 2) := by decide +kernel
theorem dX12_sweepFor_35 : decode cX12_sweepFor 35 = .ok (.iconst 1, 1) := by decide +kernel
theorem dX12_sweepFor_36 : decode cX12_sweepFor 36 = .ok (.istore 5, 2) := by decide +kernel
theorem dX12_sweepFor_38 : decode cX12_sweepFor 38 = .ok (.iload 5, 2) := by decide +kernel
theorem dX12_sweepFor_40 : decode cX12_sweepFor 40 = .ok (.bipush 30, 2) := by decide +kernel
theorem dX12_sweepFor_42 : decode cX12_sweepFor 42 = .ok (.if_icmp .gt 43, 3) := by decide +kernel
theorem dX12_sweepFor_45 : decode cX12_sweepFor 45 = .ok (.aload_n 0, 1) := by decide +kernel
theorem dX12_sweepFor_46 : decode cX12_sweepFor 46 = .ok (.getfield 7, 3) := by decide +kernel
theorem dX12_sweepFor_49 : decode cX12_sweepFor 49 = .ok (.iconst 3, 1) := by decide +kernel
theorem dX12_sweepFor_50 : decode cX12_sweepFor 50 = .ok (.iload 5, 2) := by decide +kernel
theorem dX12_sweepFor_52 : decode cX12_sweepFor 52 = .ok (.iastore, 1) := by decide +kernel
theorem dX12_sweepFor_53 : decode cX12_sweepFor 53 = .ok (.aload_n 0, 1) := by decide +kernel
theorem dX12_sweepFor_54 : decode cX12_sweepFor 54 = .ok (.iload_n 2, 1) := by decide +kernel
theorem dX12_sweepFor_55 : decode cX12_sweepFor 55 = .ok (.iload_n 1, 1) := by decide +kernel
theorem dX12_sweepFor_56 : decode cX12_sweepFor 56 = .ok (.iconst 5, 1) := by decide +kernel
theorem dX12_sweepFor_57 : decode cX12_sweepFor 57 = .ok (.invokestatic 229, 3) := by decide +kernel
theorem dX12_sweepFor_60 : decode cX12_sweepFor 60 = .ok (.invokevirtual 232, 3) := by decide +kernel
theorem dX12_sweepFor_63 : decode cX12_sweepFor 63 = .ok (.istore 6, 2) := by decide +kernel
theorem dX12_sweepFor_65 : decode cX12_sweepFor 65 = .ok (.iload 6, 2) := by decide +kernel
theorem dX12_sweepFor_67 : decode cX12_sweepFor 67 = .ok (.iload 4, 2) := by decide +kernel
theorem dX12_sweepFor_69 : decode cX12_sweepFor 69 = .ok (.if_icmp .le 10, 3) := by decide +kernel
theorem dX12_sweepFor_72 : decode cX12_sweepFor 72 = .ok (.iload 5, 2) := by decide +kernel
theorem dX12_sweepFor_74 : decode cX12_sweepFor 74 = .ok (.istore_n 3, 1) := by decide +kernel
theorem dX12_sweepFor_75 : decode cX12_sweepFor 75 = .ok (.iload 6, 2) := by decide +kernel
theorem dX12_sweepFor_77 : decode cX12_sweepFor 77 = .ok (.istore 4, 2) := by decide +kernel
theorem dX12_sweepFor_79 : decode cX12_sweepFor 79 = .ok (.iinc 5 1, 3) := by decide +kernel
theorem dX12_sweepFor_82 : decode cX12_sweepFor 82 = .ok (.goto (-44), 3) := by decide +kernel
theorem dX12_sweepFor_85 : decode cX12_sweepFor 85 = .ok (.iload_n 3, 1) := by decide +kernel
theorem dX12_sweepFor_86 : decode cX12_sweepFor 86 = .ok (.ireturn, 1) := by decide +kernel
theorem dX12_whence_0 : decode cX12_whence 0 = .ok (.iload_n 1, 1) := by decide +kernel
theorem dX12_whence_1 : decode cX12_whence 1 = .ok (.invokestatic 243, 3) := by decide +kernel
theorem dX12_whence_4 : decode cX12_whence 4 = .ok (.ifCond .eq 21, 3) := by decide +kernel
theorem dX12_whence_7 : decode cX12_whence 7 = .ok (.aload_n 0, 1) := by decide +kernel
theorem dX12_whence_8 : decode cX12_whence 8 = .ok (.iload_n 2, 1) := by decide +kernel
theorem dX12_whence_9 : decode cX12_whence 9 = .ok (.invokevirtual 199, 3) := by decide +kernel
theorem dX12_whence_12 : decode cX12_whence 12 = .ok (.ifCond .eq 13, 3) := by decide +kernel
theorem dX12_whence_15 : decode cX12_whence 15 = .ok (.iload_n 3, 1) := by decide +kernel
theorem dX12_whence_16 : decode cX12_whence 16 = .ok (.i2l, 1) := by decide +kernel
theorem dX12_whence_17 : decode cX12_whence 17 = .ok (.lconst 0, 1) := by decide +kernel
theorem dX12_whence_18 : decode cX12_whence 18 = .ok (.lconst 1, 1) := by decide +kernel
theorem dX12_whence_19 : decode cX12_whence 19 = .ok (.invokestatic 47, 3) := by decide +kernel
theorem dX12_whence_22 : decode cX12_whence 22 = .ok (.ifCond .ne 9, 3) := by decide +kernel
theorem dX12_whence_25 : decode cX12_whence 25 = .ok (.aload_n 0, 1) := by decide +kernel
theorem dX12_whence_26 : decode cX12_whence 26 = .ok (.iconst 1, 1) := by decide +kernel
theorem dX12_whence_27 : decode cX12_whence 27 = .ok (.invokevirtual 126, 3) := by decide +kernel
theorem dX12_whence_30 : decode cX12_whence 30 = .ok (.ireturn, 1) := by decide +kernel
theorem dX12_whence_31 : decode cX12_whence 31 = .ok (.aload_n 0, 1) := by decide +kernel
theorem dX12_whence_32 : decode cX12_whence 32 = .ok (.getfield 34, 3) := by decide +kernel
theorem dX12_whence_35 : decode cX12_whence 35 = .ok (.iload_n 1, 1) := by decide +kernel
theorem dX12_whence_36 : decode cX12_whence 36 = .ok (.iaload, 1) := by decide +kernel
theorem dX12_whence_37 : decode cX12_whence 37 = .ok (.ifCond .ne 9, 3) := by decide +kernel
theorem dX12_whence_40 : decode cX12_whence 40 = .ok (.aload_n 0, 1) := by decide +kernel
theorem dX12_whence_41 : decode cX12_whence 41 = .ok (.iconst 2, 1) := by decide +kernel
theorem dX12_whence_42 : decode cX12_whence 42 = .ok (.invokevirtual 126, 3) := by decide +kernel
theorem dX12_whence_45 : decode cX12_whence 45 = .ok (.ireturn, 1) := by decide +kernel
theorem dX12_whence_46 : decode cX12_whence 46 = .ok (.aload_n 0, 1) := by decide +kernel
theorem dX12_whence_47 : decode cX12_whence 47 = .ok (.invokevirtual 226, 3) := by decide +kernel
theorem dX12_whence_50 : decode cX12_whence 50 = .ok (.iconst 0, 1) := by decide +kernel
theorem dX12_whence_51 : decode cX12_whence 51 = .ok (.istore 4, 2) := by decide +kernel
theorem dX12_whence_53 : decode cX12_whence 53 = .ok (.iconst 0, 1) := by decide +kernel
theorem dX12_whence_54 : decode cX12_whence 54 = .ok (.istore 5, 2) := by decide +kernel
theorem dX12_whence_56 : decode cX12_whence 56 = .ok (.iconst 0, 1) := by decide +kernel
theorem dX12_whence_57 : decode cX12_whence 57 = .ok (.istore 6, 2) := by decide +kernel
theorem dX12_whence_59 : decode cX12_whence 59 = .ok (.iload 6, 2) := by decide +kernel
theorem dX12_whence_61 : decode cX12_whence 61 = .ok (.bipush 112, 2) := by decide +kernel
theorem dX12_whence_63 : decode cX12_whence 63 = .ok (.if_icmp .ge 148, 3) := by decide +kernel
theorem dX12_whence_66 : decode cX12_whence 66 = .ok (.aload_n 0, 1) := by decide +kernel
theorem dX12_whence_67 : decode cX12_whence 67 = .ok (.iload_n 2, 1) := by decide +kernel
theorem dX12_whence_68 : decode cX12_whence 68 = .ok (.iconst 0, 1) := by decide +kernel
theorem dX12_whence_69 : decode cX12_whence 69 = .ok (.iload 6, 2) := by decide +kernel
theorem dX12_whence_71 : decode cX12_whence 71 = .ok (.bipush 16, 2) := by decide +kernel
theorem dX12_whence_73 : decode cX12_whence 73 = .ok (.idiv, 1) := by decide +kernel
theorem dX12_whence_74 : decode cX12_whence 74 = .ok (.invokevirtual 164, 3) := by decide +kernel
theorem dX12_whence_77 : decode cX12_whence 77 = .ok (.aload_n 0, 1) := by decide +kernel
theorem dX12_whence_78 : decode cX12_whence 78 = .ok (.iload_n 2, 1) := by decide +kernel
theorem dX12_whence_79 : decode cX12_whence 79 = .ok (.iconst 3, 1) := by decide +kernel
theorem dX12_whence_80 : decode cX12_whence 80 = .ok (.iconst 0, 1) := by decide +kernel
theorem dX12_whence_81 : decode cX12_whence 81 = .ok (.invokevirtual 164, 3) := by decide +kernel
theorem dX12_whence_84 : decode cX12_whence 84 = .ok (.aload_n 0, 1) := by decide +kernel
theorem dX12_whence_85 : decode cX12_whence 85 = .ok (.iload_n 2, 1) := by decide +kernel
theorem dX12_whence_86 : decode cX12_whence 86 = .ok (.iconst 4, 1) := by decide +kernel
theorem dX12_whence_87 : decode cX12_whence 87 = .ok (.iload 6, 2) := by decide +kernel
theorem dX12_whence_89 : decode cX12_whence 89 = .ok (.bipush 16, 2) := by decide +kernel
theorem dX12_whence_91 : decode cX12_whence 91 = .ok (.irem, 1) := by decide +kernel
theorem dX12_whence_92 : decode cX12_whence 92 = .ok (.invokevirtual 164, 3) := by decide +kernel
theorem dX12_whence_95 : decode cX12_whence 95 = .ok (.iconst 1, 1) := by decide +kernel
theorem dX12_whence_96 : decode cX12_whence 96 = .ok (.istore 7, 2) := by decide +kernel
theorem dX12_whence_98 : decode cX12_whence 98 = .ok (.iconst 0, 1) := by decide +kernel
theorem dX12_whence_99 : decode cX12_whence 99 = .ok (.istore 8, 2) := by decide +kernel
theorem dX12_whence_101 : decode cX12_whence 101 = .ok (.iload 8, 2) := by decide +kernel
theorem dX12_whence_103 : decode cX12_whence 103 = .ok (.aload_n 0, 1) := by decide +kernel
theorem dX12_whence_104 : decode cX12_whence 104 = .ok (.getfield 37, 3) := by decide +kernel
theorem dX12_whence_107 : decode cX12_whence 107 = .ok (.iload_n 1, 1) := by decide +kernel
theorem dX12_whence_108 : decode cX12_whence 108 = .ok (.iaload, 1) := by decide +kernel
theorem dX12_whence_109 : decode cX12_whence 109 = .ok (.if_icmp .ge 46, 3) := by decide +kernel
theorem dX12_whence_112 : decode cX12_whence 112 = .ok (.iload 7, 2) := by decide +kernel
theorem dX12_whence_114 : decode cX12_whence 114 = .ok (.ifCond .eq 41, 3) := by decide +kernel
theorem dX12_whence_117 : decode cX12_whence 117 = .ok (.aload_n 0, 1) := by decide +kernel
theorem dX12_whence_118 : decode cX12_whence 118 = .ok (.invokevirtual 171, 3) := by decide +kernel
theorem dX12_whence_121 : decode cX12_whence 121 = .ok (.aload_n 0, 1) := by decide +kernel
theorem dX12_whence_122 : decode cX12_whence 122 = .ok (.getfield 40, 3) := by decide +kernel
theorem dX12_whence_125 : decode cX12_whence 125 = .ok (.bipush 40, 2) := by decide +kernel
theorem dX12_whence_127 : decode cX12_whence 127 = .ok (.iload_n 1, 1) := by decide +kernel
theorem dX12_whence_128 : decode cX12_whence 128 = .ok (.imul, 1) := by decide +kernel
theorem dX12_whence_129 : decode cX12_whence 129 = .ok (.iload 8, 2) := by decide +kernel
theorem dX12_whence_131 : decode cX12_whence 131 = .ok (.iadd, 1) := by decide +kernel
theorem dX12_whence_132 : decode cX12_whence 132 = .ok (.iaload, 1) := by decide +kernel
theorem dX12_whence_133 : decode cX12_whence 133 = .ok (.aload_n 0, 1) := by decide +kernel
theorem dX12_whence_134 : decode cX12_whence 134 = .ok (.iload_n 2, 1) := by decide +kernel
theorem dX12_whence_135 : decode cX12_whence 135 = .ok (.iconst 4, 1) := by decide +kernel
theorem dX12_whence_136 : decode cX12_whence 136 = .ok (.invokevirtual 146, 3) := by decide +kernel
theorem dX12_whence_139 : decode cX12_whence 139 = .ok (.if_icmp .ne 7, 3) := by decide +kernel
theorem dX12_whence_142 : decode cX12_whence 142 = .ok (.iconst 1, 1) := by decide +kernel
theorem dX12_whence_143 : decode cX12_whence 143 = .ok (.goto 4, 3) := by decide +kernel
theorem dX12_whence_146 : decode cX12_whence 146 = .ok (.iconst 0, 1) := by decide +kernel
theorem dX12_whence_147 : decode cX12_whence 147 = .ok (.istore 7, 2) := by decide +kernel
theorem dX12_whence_149 : decode cX12_whence 149 = .ok (.iinc 8 1, 3) := by decide +kernel
theorem dX12_whence_152 : decode cX12_whence 152 = .ok (.goto (-51), 3) := by decide +kernel
theorem dX12_whence_155 : decode cX12_whence 155 = .ok (.aload_n 0, 1) := by decide +kernel
theorem dX12_whence_156 : decode cX12_whence 156 = .ok (.invokevirtual 223, 3) := by decide +kernel
theorem dX12_whence_159 : decode cX12_whence 159 = .ok (.iload 7, 2) := by decide +kernel
theorem dX12_whence_161 : decode cX12_whence 161 = .ok (.ifCond .eq 25, 3) := by decide +kernel
theorem dX12_whence_164 : decode cX12_whence 164 = .ok (.iload 4, 2) := by decide +kernel
theorem dX12_whence_166 : decode cX12_whence 166 = .ok (.ifCond .ne 20, 3) := by decide +kernel
theorem dX12_whence_169 : decode cX12_whence 169 = .ok (.bipush 100, 2) := by decide +kernel
theorem dX12_whence_171 : decode cX12_whence 171 = .ok (.iload 6, 2) := by decide +kernel
theorem dX12_whence_173 : decode cX12_whence 173 = .ok (.bipush 16, 2) := by decide +kernel
theorem dX12_whence_175 : decode cX12_whence 175 = .ok (.idiv, 1) := by decide +kernel
theorem dX12_whence_176 : decode cX12_whence 176 = .ok (.imul, 1) := by decide +kernel
theorem dX12_whence_177 : decode cX12_whence 177 = .ok (.iload 6, 2) := by decide +kernel
theorem dX12_whence_179 : decode cX12_whence 179 = .ok (.bipush 16, 2) := by decide +kernel
theorem dX12_whence_181 : decode cX12_whence 181 = .ok (.irem, 1) := by decide +kernel
theorem dX12_whence_182 : decode cX12_whence 182 = .ok (.iadd, 1) := by decide +kernel
theorem dX12_whence_183 : decode cX12_whence 183 = .ok (.goto 5, 3) := by decide +kernel
theorem dX12_whence_186 : decode cX12_whence 186 = .ok (.iload 5, 2) := by decide +kernel
theorem dX12_whence_188 : decode cX12_whence 188 = .ok (.istore 5, 2) := by decide +kernel
theorem dX12_whence_190 : decode cX12_whence 190 = .ok (.iload 4, 2) := by decide +kernel
theorem dX12_whence_192 : decode cX12_whence 192 = .ok (.iload 7, 2) := by decide +kernel
theorem dX12_whence_194 : decode cX12_whence 194 = .ok (.ifCond .eq 7, 3) := by decide +kernel
theorem dX12_whence_197 : decode cX12_whence 197 = .ok (.iconst 1, 1) := by decide +kernel
theorem dX12_whence_198 : decode cX12_whence 198 = .ok (.goto 4, 3) := by decide +kernel
theorem dX12_whence_201 : decode cX12_whence 201 = .ok (.iconst 0, 1) := by decide +kernel
theorem dX12_whence_202 : decode cX12_whence 202 = .ok (.iadd, 1) := by decide +kernel
theorem dX12_whence_203 : decode cX12_whence 203 = .ok (.istore 4, 2) := by decide +kernel
theorem dX12_whence_205 : decode cX12_whence 205 = .ok (.iinc 6 1, 3) := by decide +kernel
theorem dX12_whence_208 : decode cX12_whence 208 = .ok (.goto (-149), 3) := by decide +kernel
theorem dX12_whence_211 : decode cX12_whence 211 = .ok (.iload_n 3, 1) := by decide +kernel
theorem dX12_whence_212 : decode cX12_whence 212 = .ok (.ifCond .ne 8, 3) := by decide +kernel
theorem dX12_whence_215 : decode cX12_whence 215 = .ok (.iload 4, 2) := by decide +kernel
theorem dX12_whence_217 : decode cX12_whence 217 = .ok (.goto 18, 3) := by decide +kernel
theorem dX12_whence_220 : decode cX12_whence 220 = .ok (.iload 4, 2) := by decide +kernel
theorem dX12_whence_222 : decode cX12_whence 222 = .ok (.ifCond .ne 11, 3) := by decide +kernel
theorem dX12_whence_225 : decode cX12_whence 225 = .ok (.aload_n 0, 1) := by decide +kernel
theorem dX12_whence_226 : decode cX12_whence 226 = .ok (.iconst 2, 1) := by decide +kernel
theorem dX12_whence_227 : decode cX12_whence 227 = .ok (.invokevirtual 126, 3) := by decide +kernel
theorem dX12_whence_230 : decode cX12_whence 230 = .ok (.goto 5, 3) := by decide +kernel
theorem dX12_whence_233 : decode cX12_whence 233 = .ok (.iload 5, 2) := by decide +kernel
theorem dX12_whence_235 : decode cX12_whence 235 = .ok (.ireturn, 1) := by decide +kernel
theorem dX12_bare_0 : decode cX12_bare 0 = .ok (.iload_n 1, 1) := by decide +kernel
theorem dX12_bare_1 : decode cX12_bare 1 = .ok (.i2l, 1) := by decide +kernel
theorem dX12_bare_2 : decode cX12_bare 2 = .ok (.lconst 0, 1) := by decide +kernel
theorem dX12_bare_3 : decode cX12_bare 3 = .ok (.ldc2_w 212, 3) := by decide +kernel
theorem dX12_bare_6 : decode cX12_bare 6 = .ok (.invokestatic 47, 3) := by decide +kernel
theorem dX12_bare_9 : decode cX12_bare 9 = .ok (.ifCond .ne 9, 3) := by decide +kernel
theorem dX12_bare_12 : decode cX12_bare 12 = .ok (.aload_n 0, 1) := by decide +kernel
theorem dX12_bare_13 : decode cX12_bare 13 = .ok (.iconst 1, 1) := by decide +kernel
theorem dX12_bare_14 : decode cX12_bare 14 = .ok (.invokevirtual 126, 3) := by decide +kernel
theorem dX12_bare_17 : decode cX12_bare 17 = .ok (.ireturn, 1) := by decide +kernel
theorem dX12_bare_18 : decode cX12_bare 18 = .ok (.aload_n 0, 1) := by decide +kernel
theorem dX12_bare_19 : decode cX12_bare 19 = .ok (.invokevirtual 226, 3) := by decide +kernel
theorem dX12_bare_22 : decode cX12_bare 22 = .ok (.aload_n 0, 1) := by decide +kernel
theorem dX12_bare_23 : decode cX12_bare 23 = .ok (.iload_n 1, 1) := by decide +kernel
theorem dX12_bare_24 : decode cX12_bare 24 = .ok (.invokevirtual 214, 3) := by decide +kernel
theorem dX12_bare_27 : decode cX12_bare 27 = .ok (.iconst 0, 1) := by decide +kernel
theorem dX12_bare_28 : decode cX12_bare 28 = .ok (.istore_n 2, 1) := by decide +kernel
theorem dX12_bare_29 : decode cX12_bare 29 = .ok (.iconst 0, 1) := by decide +kernel
theorem dX12_bare_30 : decode cX12_bare 30 = .ok (.istore_n 3, 1) := by decide +kernel
theorem dX12_bare_31 : decode cX12_bare 31 = .ok (.iload_n 3, 1) := by decide +kernel
theorem dX12_bare_32 : decode cX12_bare 32 = .ok (.bipush 16, 2) := by decide +kernel
theorem dX12_bare_34 : decode cX12_bare 34 = .ok (.if_icmp .ge 27, 3) := by decide +kernel
theorem dX12_bare_37 : decode cX12_bare 37 = .ok (.iload_n 2, 1) := by decide +kernel
theorem dX12_bare_38 : decode cX12_bare 38 = .ok (.aload_n 0, 1) := by decide +kernel
theorem dX12_bare_39 : decode cX12_bare 39 = .ok (.iload_n 3, 1) := by decide +kernel
theorem dX12_bare_40 : decode cX12_bare 40 = .ok (.invokevirtual 184, 3) := by decide +kernel
theorem dX12_bare_43 : decode cX12_bare 43 = .ok (.ifCond .ne 9, 3) := by decide +kernel
theorem dX12_bare_46 : decode cX12_bare 46 = .ok (.iconst 1, 1) := by decide +kernel
theorem dX12_bare_47 : decode cX12_bare 47 = .ok (.iload_n 3, 1) := by decide +kernel
theorem dX12_bare_48 : decode cX12_bare 48 = .ok (.ishl, 1) := by decide +kernel
theorem dX12_bare_49 : decode cX12_bare 49 = .ok (.goto 4, 3) := by decide +kernel
theorem dX12_bare_52 : decode cX12_bare 52 = .ok (.iconst 0, 1) := by decide +kernel
theorem dX12_bare_53 : decode cX12_bare 53 = .ok (.ior, 1) := by decide +kernel
theorem dX12_bare_54 : decode cX12_bare 54 = .ok (.istore_n 2, 1) := by decide +kernel
theorem dX12_bare_55 : decode cX12_bare 55 = .ok (.iinc 3 1, 3) := by decide +kernel
theorem dX12_bare_58 : decode cX12_bare 58 = .ok (.goto (-27), 3) := by decide +kernel
theorem dX12_bare_61 : decode cX12_bare 61 = .ok (.aload_n 0, 1) := by decide +kernel
theorem dX12_bare_62 : decode cX12_bare 62 = .ok (.invokevirtual 223, 3) := by decide +kernel
theorem dX12_bare_65 : decode cX12_bare 65 = .ok (.iload_n 2, 1) := by decide +kernel
theorem dX12_bare_66 : decode cX12_bare 66 = .ok (.ireturn, 1) := by decide +kernel
theorem dX12_crowd_0 : decode cX12_crowd 0 = .ok (.iload_n 1, 1) := by decide +kernel
theorem dX12_crowd_1 : decode cX12_crowd 1 = .ok (.i2l, 1) := by decide +kernel
theorem dX12_crowd_2 : decode cX12_crowd 2 = .ok (.lconst 0, 1) := by decide +kernel
theorem dX12_crowd_3 : decode cX12_crowd 3 = .ok (.ldc2_w 212, 3) := by decide +kernel
theorem dX12_crowd_6 : decode cX12_crowd 6 = .ok (.invokestatic 47, 3) := by decide +kernel
theorem dX12_crowd_9 : decode cX12_crowd 9 = .ok (.ifCond .eq 13, 3) := by decide +kernel
theorem dX12_crowd_12 : decode cX12_crowd 12 = .ok (.iload_n 2, 1) := by decide +kernel
theorem dX12_crowd_13 : decode cX12_crowd 13 = .ok (.i2l, 1) := by decide +kernel
theorem dX12_crowd_14 : decode cX12_crowd 14 = .ok (.lconst 0, 1) := by decide +kernel
theorem dX12_crowd_15 : decode cX12_crowd 15 = .ok (.lconst 1, 1) := by decide +kernel
theorem dX12_crowd_16 : decode cX12_crowd 16 = .ok (.invokestatic 47, 3) := by decide +kernel
theorem dX12_crowd_19 : decode cX12_crowd 19 = .ok (.ifCond .ne 9, 3) := by decide +kernel
theorem dX12_crowd_22 : decode cX12_crowd 22 = .ok (.aload_n 0, 1) := by decide +kernel
theorem dX12_crowd_23 : decode cX12_crowd 23 = .ok (.iconst 1, 1) := by decide +kernel
theorem dX12_crowd_24 : decode cX12_crowd 24 = .ok (.invokevirtual 126, 3) := by decide +kernel
theorem dX12_crowd_27 : decode cX12_crowd 27 = .ok (.ireturn, 1) := by decide +kernel
theorem dX12_crowd_28 : decode cX12_crowd 28 = .ok (.aload_n 0, 1) := by decide +kernel
theorem dX12_crowd_29 : decode cX12_crowd 29 = .ok (.invokevirtual 226, 3) := by decide +kernel
theorem dX12_crowd_32 : decode cX12_crowd 32 = .ok (.aload_n 0, 1) := by decide +kernel
theorem dX12_crowd_33 : decode cX12_crowd 33 = .ok (.iload_n 1, 1) := by decide +kernel
theorem dX12_crowd_34 : decode cX12_crowd 34 = .ok (.invokevirtual 214, 3) := by decide +kernel
theorem dX12_crowd_37 : decode cX12_crowd 37 = .ok (.iconst 0, 1) := by decide +kernel
theorem dX12_crowd_38 : decode cX12_crowd 38 = .ok (.istore_n 3, 1) := by decide +kernel
theorem dX12_crowd_39 : decode cX12_crowd 39 = .ok (.iconst 1, 1) := by decide +kernel
theorem dX12_crowd_40 : decode cX12_crowd 40 = .ok (.istore 4, 2) := by decide +kernel
theorem dX12_crowd_42 : decode cX12_crowd 42 = .ok (.iload 4, 2) := by decide +kernel
theorem dX12_crowd_44 : decode cX12_crowd 44 = .ok (.bipush 16, 2) := by decide +kernel
theorem dX12_crowd_46 : decode cX12_crowd 46 = .ok (.if_icmp .ge 36, 3) := by decide +kernel
theorem dX12_crowd_49 : decode cX12_crowd 49 = .ok (.aload_n 0, 1) := by decide +kernel
theorem dX12_crowd_50 : decode cX12_crowd 50 = .ok (.iload 4, 2) := by decide +kernel
theorem dX12_crowd_52 : decode cX12_crowd 52 = .ok (.invokevirtual 184, 3) := by decide +kernel
theorem dX12_crowd_55 : decode cX12_crowd 55 = .ok (.invokestatic 246, 3) := by decide +kernel
theorem dX12_crowd_58 : decode cX12_crowd 58 = .ok (.aload_n 0, 1) := by decide +kernel
theorem dX12_crowd_59 : decode cX12_crowd 59 = .ok (.iload_n 3, 1) := by decide +kernel
theorem dX12_crowd_60 : decode cX12_crowd 60 = .ok (.invokevirtual 184, 3) := by decide +kernel
theorem dX12_crowd_63 : decode cX12_crowd 63 = .ok (.invokestatic 246, 3) := by decide +kernel
theorem dX12_crowd_66 : decode cX12_crowd 66 = .ok (.if_icmp .le 8, 3) := by decide +kernel
theorem dX12_crowd_69 : decode cX12_crowd 69 = .ok (.iload 4, 2) := by decide +kernel
theorem dX12_crowd_71 : decode cX12_crowd 71 = .ok (.goto 4, 3) := by decide +kernel
theorem dX12_crowd_74 : decode cX12_crowd 74 = .ok (.iload_n 3, 1) := by decide +kernel
theorem dX12_crowd_75 : decode cX12_crowd 75 = .ok (.istore_n 3, 1) := by decide +kernel
theorem dX12_crowd_76 : decode cX12_crowd 76 = .ok (.iinc 4 1, 3) := by decide +kernel
theorem dX12_crowd_79 : decode cX12_crowd 79 = .ok (.goto (-37), 3) := by decide +kernel
theorem dX12_crowd_82 : decode cX12_crowd 82 = .ok (.iload_n 2, 1) := by decide +kernel
theorem dX12_crowd_83 : decode cX12_crowd 83 = .ok (.ifCond .ne 7, 3) := by decide +kernel
theorem dX12_crowd_86 : decode cX12_crowd 86 = .ok (.iload_n 3, 1) := by decide +kernel
theorem dX12_crowd_87 : decode cX12_crowd 87 = .ok (.goto 11, 3) := by decide +kernel
theorem dX12_crowd_90 : decode cX12_crowd 90 = .ok (.aload_n 0, 1) := by decide +kernel
theorem dX12_crowd_91 : decode cX12_crowd 91 = .ok (.iload_n 3, 1) := by decide +kernel
theorem dX12_crowd_92 : decode cX12_crowd 92 = .ok (.invokevirtual 184, 3) := by decide +kernel
theorem dX12_crowd_95 : decode cX12_crowd 95 = .ok (.invokestatic 246, 3) := by decide +kernel
theorem dX12_crowd_98 : decode cX12_crowd 98 = .ok (.istore 4, 2) := by decide +kernel
theorem dX12_crowd_100 : decode cX12_crowd 100 = .ok (.aload_n 0, 1) := by decide +kernel
theorem dX12_crowd_101 : decode cX12_crowd 101 = .ok (.invokevirtual 223, 3) := by decide +kernel
theorem dX12_crowd_104 : decode cX12_crowd 104 = .ok (.iload 4, 2) := by decide +kernel
theorem dX12_crowd_106 : decode cX12_crowd 106 = .ok (.ireturn, 1) := by decide +kernel
theorem dX12_light_0 : decode cX12_light 0 = .ok (.iload_n 1, 1) := by decide +kernel
theorem dX12_light_1 : decode cX12_light 1 = .ok (.i2l, 1) := by decide +kernel
theorem dX12_light_2 : decode cX12_light 2 = .ok (.lconst 0, 1) := by decide +kernel
theorem dX12_light_3 : decode cX12_light 3 = .ok (.ldc2_w 212, 3) := by decide +kernel
theorem dX12_light_6 : decode cX12_light 6 = .ok (.invokestatic 47, 3) := by decide +kernel
theorem dX12_light_9 : decode cX12_light 9 = .ok (.ifCond .ne 9, 3) := by decide +kernel
theorem dX12_light_12 : decode cX12_light 12 = .ok (.aload_n 0, 1) := by decide +kernel
theorem dX12_light_13 : decode cX12_light 13 = .ok (.iconst 1, 1) := by decide +kernel
theorem dX12_light_14 : decode cX12_light 14 = .ok (.invokevirtual 126, 3) := by decide +kernel
theorem dX12_light_17 : decode cX12_light 17 = .ok (.ireturn, 1) := by decide +kernel
theorem dX12_light_18 : decode cX12_light 18 = .ok (.aload_n 0, 1) := by decide +kernel
theorem dX12_light_19 : decode cX12_light 19 = .ok (.invokevirtual 226, 3) := by decide +kernel
theorem dX12_light_22 : decode cX12_light 22 = .ok (.aload_n 0, 1) := by decide +kernel
theorem dX12_light_23 : decode cX12_light 23 = .ok (.iload_n 1, 1) := by decide +kernel
theorem dX12_light_24 : decode cX12_light 24 = .ok (.iconst 4, 1) := by decide +kernel
theorem dX12_light_25 : decode cX12_light 25 = .ok (.invokevirtual 232, 3) := by decide +kernel
theorem dX12_light_28 : decode cX12_light 28 = .ok (.aload_n 0, 1) := by decide +kernel
theorem dX12_light_29 : decode cX12_light 29 = .ok (.getfield 7, 3) := by decide +kernel
theorem dX12_light_32 : decode cX12_light 32 = .ok (.iconst 4, 1) := by decide +kernel
theorem dX12_light_33 : decode cX12_light 33 = .ok (.iaload, 1) := by decide +kernel
theorem dX12_light_34 : decode cX12_light 34 = .ok (.isub, 1) := by decide +kernel
theorem dX12_light_35 : decode cX12_light 35 = .ok (.ireturn, 1) := by decide +kernel
theorem dX12_areDust_0 : decode cX12_areDust 0 = .ok (.iconst 1, 1) := by decide +kernel
theorem dX12_areDust_1 : decode cX12_areDust 1 = .ok (.istore_n 2, 1) := by decide +kernel
theorem dX12_areDust_2 : decode cX12_areDust 2 = .ok (.iconst 0, 1) := by decide +kernel
theorem dX12_areDust_3 : decode cX12_areDust 3 = .ok (.istore_n 3, 1) := by decide +kernel
theorem dX12_areDust_4 : decode cX12_areDust 4 = .ok (.iload_n 3, 1) := by decide +kernel
theorem dX12_areDust_5 : decode cX12_areDust 5 = .ok (.aload_n 0, 1) := by decide +kernel
theorem dX12_areDust_6 : decode cX12_areDust 6 = .ok (.getfield 7, 3) := by decide +kernel
theorem dX12_areDust_9 : decode cX12_areDust 9 = .ok (.iconst 0, 1) := by decide +kernel
theorem dX12_areDust_10 : decode cX12_areDust 10 = .ok (.iaload, 1) := by decide +kernel
theorem dX12_areDust_11 : decode cX12_areDust 11 = .ok (.if_icmp .ge 35, 3) := by decide +kernel
theorem dX12_areDust_14 : decode cX12_areDust 14 = .ok (.iload_n 2, 1) := by decide +kernel
theorem dX12_areDust_15 : decode cX12_areDust 15 = .ok (.ifCond .eq 23, 3) := by decide +kernel
theorem dX12_areDust_18 : decode cX12_areDust 18 = .ok (.iload_n 1, 1) := by decide +kernel
theorem dX12_areDust_19 : decode cX12_areDust 19 = .ok (.iload_n 3, 1) := by decide +kernel
theorem dX12_areDust_20 : decode cX12_areDust 20 = .ok (.ishr, 1) := by decide +kernel
theorem dX12_areDust_21 : decode cX12_areDust 21 = .ok (.iconst 1, 1) := by decide +kernel
theorem dX12_areDust_22 : decode cX12_areDust 22 = .ok (.iand, 1) := by decide +kernel
theorem dX12_areDust_23 : decode cX12_areDust 23 = .ok (.ifCond .eq 11, 3) := by decide +kernel
theorem dX12_areDust_26 : decode cX12_areDust 26 = .ok (.aload_n 0, 1) := by decide +kernel
theorem dX12_areDust_27 : decode cX12_areDust 27 = .ok (.iload_n 3, 1) := by decide +kernel
theorem dX12_areDust_28 : decode cX12_areDust 28 = .ok (.invokevirtual 149, 3) := by decide +kernel
theorem dX12_areDust_31 : decode cX12_areDust 31 = .ok (.ifCond .eq 7, 3) := by decide +kernel
theorem dX12_areDust_34 : decode cX12_areDust 34 = .ok (.iconst 1, 1) := by decide +kernel
theorem dX12_areDust_35 : decode cX12_areDust 35 = .ok (.goto 4, 3) := by decide +kernel
theorem dX12_areDust_38 : decode cX12_areDust 38 = .ok (.iconst 0, 1) := by decide +kernel
theorem dX12_areDust_39 : decode cX12_areDust 39 = .ok (.istore_n 2, 1) := by decide +kernel
theorem dX12_areDust_40 : decode cX12_areDust 40 = .ok (.iinc 3 1, 3) := by decide +kernel
theorem dX12_areDust_43 : decode cX12_areDust 43 = .ok (.goto (-39), 3) := by decide +kernel
theorem dX12_areDust_46 : decode cX12_areDust 46 = .ok (.iload_n 2, 1) := by decide +kernel
theorem dX12_areDust_47 : decode cX12_areDust 47 = .ok (.ireturn, 1) := by decide +kernel
theorem dX12_late_0 : decode cX12_late 0 = .ok (.iload_n 1, 1) := by decide +kernel
theorem dX12_late_1 : decode cX12_late 1 = .ok (.i2l, 1) := by decide +kernel
theorem dX12_late_2 : decode cX12_late 2 = .ok (.lconst 0, 1) := by decide +kernel
theorem dX12_late_3 : decode cX12_late 3 = .ok (.iconst 1, 1) := by decide +kernel
theorem dX12_late_4 : decode cX12_late 4 = .ok (.aload_n 0, 1) := by decide +kernel
theorem dX12_late_5 : decode cX12_late 5 = .ok (.getfield 7, 3) := by decide +kernel
theorem dX12_late_8 : decode cX12_late 8 = .ok (.iconst 0, 1) := by decide +kernel
theorem dX12_late_9 : decode cX12_late 9 = .ok (.iaload, 1) := by decide +kernel
theorem dX12_late_10 : decode cX12_late 10 = .ok (.ishl, 1) := by decide +kernel
theorem dX12_late_11 : decode cX12_late 11 = .ok (.iconst 1, 1) := by decide +kernel
theorem dX12_late_12 : decode cX12_late 12 = .ok (.isub, 1) := by decide +kernel
theorem dX12_late_13 : decode cX12_late 13 = .ok (.i2l, 1) := by decide +kernel
theorem dX12_late_14 : decode cX12_late 14 = .ok (.invokestatic 47, 3) := by decide +kernel
theorem dX12_late_17 : decode cX12_late 17 = .ok (.ifCond .ne 9, 3) := by decide +kernel
theorem dX12_late_20 : decode cX12_late 20 = .ok (.aload_n 0, 1) := by decide +kernel
theorem dX12_late_21 : decode cX12_late 21 = .ok (.iconst 1, 1) := by decide +kernel
theorem dX12_late_22 : decode cX12_late 22 = .ok (.invokevirtual 126, 3) := by decide +kernel
theorem dX12_late_25 : decode cX12_late 25 = .ok (.ireturn, 1) := by decide +kernel
theorem dX12_late_26 : decode cX12_late 26 = .ok (.aload_n 0, 1) := by decide +kernel
theorem dX12_late_27 : decode cX12_late 27 = .ok (.invokevirtual 226, 3) := by decide +kernel
theorem dX12_late_30 : decode cX12_late 30 = .ok (.iconst 0, 1) := by decide +kernel
theorem dX12_late_31 : decode cX12_late 31 = .ok (.istore_n 2, 1) := by decide +kernel
theorem dX12_late_32 : decode cX12_late 32 = .ok (.iload_n 2, 1) := by decide +kernel
theorem dX12_late_33 : decode cX12_late 33 = .ok (.bipush 60, 2) := by decide +kernel
theorem dX12_late_35 : decode cX12_late 35 = .ok (.if_icmp .ge 21, 3) := by decide +kernel
theorem dX12_late_38 : decode cX12_late 38 = .ok (.aload_n 0, 1) := by decide +kernel
theorem dX12_late_39 : decode cX12_late 39 = .ok (.iload_n 1, 1) := by decide +kernel
theorem dX12_late_40 : decode cX12_late 40 = .ok (.invokevirtual 249, 3) := by decide +kernel
theorem dX12_late_43 : decode cX12_late 43 = .ok (.ifCond .ne 13, 3) := by decide +kernel
theorem dX12_late_46 : decode cX12_late 46 = .ok (.aload_n 0, 1) := by decide +kernel
theorem dX12_late_47 : decode cX12_late 47 = .ok (.invokevirtual 171, 3) := by decide +kernel
theorem dX12_late_50 : decode cX12_late 50 = .ok (.iinc 2 1, 3) := by decide +kernel
theorem dX12_late_53 : decode cX12_late 53 = .ok (.goto (-21), 3) := by decide +kernel
theorem dX12_late_56 : decode cX12_late 56 = .ok (.aload_n 0, 1) := by decide +kernel
theorem dX12_late_57 : decode cX12_late 57 = .ok (.iload_n 1, 1) := by decide +kernel
theorem dX12_late_58 : decode cX12_late 58 = .ok (.invokevirtual 249, 3) := by decide +kernel
theorem dX12_late_61 : decode cX12_late 61 = .ok (.istore_n 3, 1) := by decide +kernel
theorem dX12_late_62 : decode cX12_late 62 = .ok (.aload_n 0, 1) := by decide +kernel
theorem dX12_late_63 : decode cX12_late 63 = .ok (.invokevirtual 223, 3) := by decide +kernel
theorem dX12_late_66 : decode cX12_late 66 = .ok (.iload_n 3, 1) := by decide +kernel
theorem dX12_late_67 : decode cX12_late 67 = .ok (.ifCond .eq 7, 3) := by decide +kernel
theorem dX12_late_70 : decode cX12_late 70 = .ok (.iload_n 2, 1) := by decide +kernel
theorem dX12_late_71 : decode cX12_late 71 = .ok (.goto 8, 3) := by decide +kernel
theorem dX12_late_74 : decode cX12_late 74 = .ok (.aload_n 0, 1) := by decide +kernel
theorem dX12_late_75 : decode cX12_late 75 = .ok (.iconst 2, 1) := by decide +kernel
theorem dX12_late_76 : decode cX12_late 76 = .ok (.invokevirtual 126, 3) := by decide +kernel
theorem dX12_late_79 : decode cX12_late 79 = .ok (.ireturn, 1) := by decide +kernel
theorem dX12_common_0 : decode cX12_common 0 = .ok (.iload_n 0, 1) := by decide +kernel
theorem dX12_common_1 : decode cX12_common 1 = .ok (.istore_n 2, 1) := by decide +kernel
theorem dX12_common_2 : decode cX12_common 2 = .ok (.iload_n 1, 1) := by decide +kernel
theorem dX12_common_3 : decode cX12_common 3 = .ok (.istore_n 3, 1) := by decide +kernel
theorem dX12_common_4 : decode cX12_common 4 = .ok (.iload_n 3, 1) := by decide +kernel
theorem dX12_common_5 : decode cX12_common 5 = .ok (.ifCond .eq 16, 3) := by decide +kernel
theorem dX12_common_8 : decode cX12_common 8 = .ok (.iload_n 2, 1) := by decide +kernel
theorem dX12_common_9 : decode cX12_common 9 = .ok (.iload_n 3, 1) := by decide +kernel
theorem dX12_common_10 : decode cX12_common 10 = .ok (.irem, 1) := by decide +kernel
theorem dX12_common_11 : decode cX12_common 11 = .ok (.istore 4, 2) := by decide +kernel
theorem dX12_common_13 : decode cX12_common 13 = .ok (.iload_n 3, 1) := by decide +kernel
theorem dX12_common_14 : decode cX12_common 14 = .ok (.istore_n 2, 1) := by decide +kernel
theorem dX12_common_15 : decode cX12_common 15 = .ok (.iload 4, 2) := by decide +kernel
theorem dX12_common_17 : decode cX12_common 17 = .ok (.istore_n 3, 1) := by decide +kernel
theorem dX12_common_18 : decode cX12_common 18 = .ok (.goto (-14), 3) := by decide +kernel
theorem dX12_common_21 : decode cX12_common 21 = .ok (.iload_n 2, 1) := by decide +kernel
theorem dX12_common_22 : decode cX12_common 22 = .ok (.ireturn, 1) := by decide +kernel
theorem dX12_odds_0 : decode cX12_odds 0 = .ok (.aload_n 0, 1) := by decide +kernel
theorem dX12_odds_1 : decode cX12_odds 1 = .ok (.iload_n 1, 1) := by decide +kernel
theorem dX12_odds_2 : decode cX12_odds 2 = .ok (.invokevirtual 199, 3) := by decide +kernel
theorem dX12_odds_5 : decode cX12_odds 5 = .ok (.ifCond .eq 25, 3) := by decide +kernel
theorem dX12_odds_8 : decode cX12_odds 8 = .ok (.iload_n 2, 1) := by decide +kernel
theorem dX12_odds_9 : decode cX12_odds 9 = .ok (.i2l, 1) := by decide +kernel
theorem dX12_odds_10 : decode cX12_odds 10 = .ok (.lconst 0, 1) := by decide +kernel
theorem dX12_odds_11 : decode cX12_odds 11 = .ok (.ldc2_w 212, 3) := by decide +kernel
theorem dX12_odds_14 : decode cX12_odds 14 = .ok (.invokestatic 47, 3) := by decide +kernel
theorem dX12_odds_17 : decode cX12_odds 17 = .ok (.ifCond .eq 13, 3) := by decide +kernel
theorem dX12_odds_20 : decode cX12_odds 20 = .ok (.iload_n 3, 1) := by decide +kernel
theorem dX12_odds_21 : decode cX12_odds 21 = .ok (.i2l, 1) := by decide +kernel
theorem dX12_odds_22 : decode cX12_odds 22 = .ok (.lconst 0, 1) := by decide +kernel
theorem dX12_odds_23 : decode cX12_odds 23 = .ok (.lconst 1, 1) := by decide +kernel
theorem dX12_odds_24 : decode cX12_odds 24 = .ok (.invokestatic 47, 3) := by decide +kernel
theorem dX12_odds_27 : decode cX12_odds 27 = .ok (.ifCond .ne 9, 3) := by decide +kernel
theorem dX12_odds_30 : decode cX12_odds 30 = .ok (.aload_n 0, 1) := by decide +kernel
theorem dX12_odds_31 : decode cX12_odds 31 = .ok (.iconst 1, 1) := by decide +kernel
theorem dX12_odds_32 : decode cX12_odds 32 = .ok (.invokevirtual 126, 3) := by decide +kernel
theorem dX12_odds_35 : decode cX12_odds 35 = .ok (.ireturn, 1) := by decide +kernel
theorem dX12_odds_36 : decode cX12_odds 36 = .ok (.aload_n 0, 1) := by decide +kernel
theorem dX12_odds_37 : decode cX12_odds 37 = .ok (.invokevirtual 226, 3) := by decide +kernel
theorem dX12_odds_40 : decode cX12_odds 40 = .ok (.iconst 0, 1) := by decide +kernel
theorem dX12_odds_41 : decode cX12_odds 41 = .ok (.istore 4, 2) := by decide +kernel
theorem dX12_odds_43 : decode cX12_odds 43 = .ok (.iconst 0, 1) := by decide +kernel
theorem dX12_odds_44 : decode cX12_odds 44 = .ok (.istore 5, 2) := by decide +kernel
theorem dX12_odds_46 : decode cX12_odds 46 = .ok (.iload 5, 2) := by decide +kernel
theorem dX12_odds_48 : decode cX12_odds 48 = .ok (.bipush 9, 2) := by decide +kernel
theorem dX12_odds_50 : decode cX12_odds 50 = .ok (.if_icmp .gt 44, 3) := by decide +kernel
theorem dX12_odds_53 : decode cX12_odds 53 = .ok (.aload_n 0, 1) := by decide +kernel
theorem dX12_odds_54 : decode cX12_odds 54 = .ok (.getfield 7, 3) := by decide +kernel
theorem dX12_odds_57 : decode cX12_odds 57 = .ok (.iconst 2, 1) := by decide +kernel
theorem dX12_odds_58 : decode cX12_odds 58 = .ok (.iload 5, 2) := by decide +kernel
theorem dX12_odds_60 : decode cX12_odds 60 = .ok (.iastore, 1) := by decide +kernel
theorem dX12_odds_61 : decode cX12_odds 61 = .ok (.aload_n 0, 1) := by decide +kernel
theorem dX12_odds_62 : decode cX12_odds 62 = .ok (.iload_n 2, 1) := by decide +kernel
theorem dX12_odds_63 : decode cX12_odds 63 = .ok (.invokevirtual 214, 3) := by decide +kernel
theorem dX12_odds_66 : decode cX12_odds 66 = .ok (.iload 4, 2) := by decide +kernel
theorem dX12_odds_68 : decode cX12_odds 68 = .ok (.aload_n 0, 1) := by decide +kernel
theorem dX12_odds_69 : decode cX12_odds 69 = .ok (.iload_n 1, 1) := by decide +kernel
theorem dX12_odds_70 : decode cX12_odds 70 = .ok (.invokevirtual 202, 3) := by decide +kernel
theorem dX12_odds_73 : decode cX12_odds 73 = .ok (.ifCond .eq 7, 3) := by decide +kernel
theorem dX12_odds_76 : decode cX12_odds 76 = .ok (.iconst 1, 1) := by decide +kernel
theorem dX12_odds_77 : decode cX12_odds 77 = .ok (.goto 4, 3) := by decide +kernel
theorem dX12_odds_80 : decode cX12_odds 80 = .ok (.iconst 0, 1) := by decide +kernel
theorem dX12_odds_81 : decode cX12_odds 81 = .ok (.iadd, 1) := by decide +kernel
theorem dX12_odds_82 : decode cX12_odds 82 = .ok (.istore 4, 2) := by decide +kernel
theorem dX12_odds_84 : decode cX12_odds 84 = .ok (.aload_n 0, 1) := by decide +kernel
theorem dX12_odds_85 : decode cX12_odds 85 = .ok (.invokevirtual 223, 3) := by decide +kernel
theorem dX12_odds_88 : decode cX12_odds 88 = .ok (.iinc 5 1, 3) := by decide +kernel
theorem dX12_odds_91 : decode cX12_odds 91 = .ok (.goto (-45), 3) := by decide +kernel
theorem dX12_odds_94 : decode cX12_odds 94 = .ok (.iload_n 3, 1) := by decide +kernel
theorem dX12_odds_95 : decode cX12_odds 95 = .ok (.ifCond .ne 8, 3) := by decide +kernel
theorem dX12_odds_98 : decode cX12_odds 98 = .ok (.iload 4, 2) := by decide +kernel
theorem dX12_odds_100 : decode cX12_odds 100 = .ok (.goto 5, 3) := by decide +kernel
theorem dX12_odds_103 : decode cX12_odds 103 = .ok (.bipush 10, 2) := by decide +kernel
theorem dX12_odds_105 : decode cX12_odds 105 = .ok (.iload 4, 2) := by decide +kernel
theorem dX12_odds_107 : decode cX12_odds 107 = .ok (.bipush 10, 2) := by decide +kernel
theorem dX12_odds_109 : decode cX12_odds 109 = .ok (.invokestatic 252, 3) := by decide +kernel
theorem dX12_odds_112 : decode cX12_odds 112 = .ok (.idiv, 1) := by decide +kernel
theorem dX12_odds_113 : decode cX12_odds 113 = .ok (.ireturn, 1) := by decide +kernel
theorem dX12_seed_0 : decode cX12_seed 0 = .ok (.aload_n 0, 1) := by decide +kernel
theorem dX12_seed_1 : decode cX12_seed 1 = .ok (.iconst 5, 1) := by decide +kernel
theorem dX12_seed_2 : decode cX12_seed 2 = .ok (.iload_n 1, 1) := by decide +kernel
theorem dX12_seed_3 : decode cX12_seed 3 = .ok (.invokevirtual 179, 3) := by decide +kernel
theorem dX12_seed_6 : decode cX12_seed 6 = .ok (.ireturn, 1) := by decide +kernel
theorem dX12_ran_0 : decode cX12_ran 0 = .ok (.aload_n 0, 1) := by decide +kernel
theorem dX12_ran_1 : decode cX12_ran 1 = .ok (.getfield 255, 3) := by decide +kernel
theorem dX12_ran_4 : decode cX12_ran 4 = .ok (.bipush 40, 2) := by decide +kernel
theorem dX12_ran_6 : decode cX12_ran 6 = .ok (.if_icmp .ge 23, 3) := by decide +kernel
theorem dX12_ran_9 : decode cX12_ran 9 = .ok (.aload_n 0, 1) := by decide +kernel
theorem dX12_ran_10 : decode cX12_ran 10 = .ok (.getfield 31, 3) := by decide +kernel
theorem dX12_ran_13 : decode cX12_ran 13 = .ok (.aload_n 0, 1) := by decide +kernel
theorem dX12_ran_14 : decode cX12_ran 14 = .ok (.getfield 255, 3) := by decide +kernel
theorem dX12_ran_17 : decode cX12_ran 17 = .ok (.iload_n 1, 1) := by decide +kernel
theorem dX12_ran_18 : decode cX12_ran 18 = .ok (.iastore, 1) := by decide +kernel
theorem dX12_ran_19 : decode cX12_ran 19 = .ok (.aload_n 0, 1) := by decide +kernel
theorem dX12_ran_20 : decode cX12_ran 20 = .ok (.dup, 1) := by decide +kernel
theorem dX12_ran_21 : decode cX12_ran 21 = .ok (.getfield 255, 3) := by decide +kernel
theorem dX12_ran_24 : decode cX12_ran 24 = .ok (.iconst 1, 1) := by decide +kernel
theorem dX12_ran_25 : decode cX12_ran 25 = .ok (.iadd, 1) := by decide +kernel
theorem dX12_ran_26 : decode cX12_ran 26 = .ok (.putfield 255, 3) := by decide +kernel
theorem dX12_ran_29 : decode cX12_ran 29 = .ok (.return_, 1) := by decide +kernel
theorem dX12_liesBy_0 : decode cX12_liesBy 0 = .ok (.iload_n 1, 1) := by decide +kernel
theorem dX12_liesBy_1 : decode cX12_liesBy 1 = .ok (.lookupswitch 58 #[(0, 27), (1, 40)], 27) := by decide +kernel
theorem dX12_liesBy_28 : decode cX12_liesBy 28 = .ok (.aload_n 0, 1) := by decide +kernel
theorem dX12_liesBy_29 : decode cX12_liesBy 29 = .ok (.bipush 10, 2) := by decide +kernel
theorem dX12_liesBy_31 : decode cX12_liesBy 31 = .ok (.invokevirtual 258, 3) := by decide +kernel
theorem dX12_liesBy_34 : decode cX12_liesBy 34 = .ok (.iload_n 2, 1) := by decide +kernel
theorem dX12_liesBy_35 : decode cX12_liesBy 35 = .ok (.aload_n 0, 1) := by decide +kernel
theorem dX12_liesBy_36 : decode cX12_liesBy 36 = .ok (.getfield 261, 3) := by decide +kernel
theorem dX12_liesBy_39 : decode cX12_liesBy 39 = .ok (.iadd, 1) := by decide +kernel
theorem dX12_liesBy_40 : decode cX12_liesBy 40 = .ok (.ireturn, 1) := by decide +kernel
theorem dX12_liesBy_41 : decode cX12_liesBy 41 = .ok (.aload_n 0, 1) := by decide +kernel
theorem dX12_liesBy_42 : decode cX12_liesBy 42 = .ok (.bipush 20, 2) := by decide +kernel
theorem dX12_liesBy_44 : decode cX12_liesBy 44 = .ok (.invokevirtual 258, 3) := by decide +kernel
theorem dX12_liesBy_47 : decode cX12_liesBy 47 = .ok (.aload_n 0, 1) := by decide +kernel
theorem dX12_liesBy_48 : decode cX12_liesBy 48 = .ok (.iconst 1, 1) := by decide +kernel
theorem dX12_liesBy_49 : decode cX12_liesBy 49 = .ok (.invokestatic 209, 3) := by decide +kernel
theorem dX12_liesBy_52 : decode cX12_liesBy 52 = .ok (.iload_n 2, 1) := by decide +kernel
theorem dX12_liesBy_53 : decode cX12_liesBy 53 = .ok (.invokevirtual 264, 3) := by decide +kernel
theorem dX12_liesBy_56 : decode cX12_liesBy 56 = .ok (.iconst 3, 1) := by decide +kernel
theorem dX12_liesBy_57 : decode cX12_liesBy 57 = .ok (.imul, 1) := by decide +kernel
theorem dX12_liesBy_58 : decode cX12_liesBy 58 = .ok (.ireturn, 1) := by decide +kernel
theorem dX12_liesBy_59 : decode cX12_liesBy 59 = .ok (.aload_n 0, 1) := by decide +kernel
theorem dX12_liesBy_60 : decode cX12_liesBy 60 = .ok (.iload_n 1, 1) := by decide +kernel
theorem dX12_liesBy_61 : decode cX12_liesBy 61 = .ok (.invokestatic 209, 3) := by decide +kernel
theorem dX12_liesBy_64 : decode cX12_liesBy 64 = .ok (.iload_n 2, 1) := by decide +kernel
theorem dX12_liesBy_65 : decode cX12_liesBy 65 = .ok (.invokevirtual 264, 3) := by decide +kernel
theorem dX12_liesBy_68 : decode cX12_liesBy 68 = .ok (.ireturn, 1) := by decide +kernel
theorem dX12_shinesBy_0 : decode cX12_shinesBy 0 = .ok (.iconst 0, 1) := by decide +kernel
theorem dX12_shinesBy_1 : decode cX12_shinesBy 1 = .ok (.istore_n 3, 1) := by decide +kernel
theorem dX12_shinesBy_2 : decode cX12_shinesBy 2 = .ok (.iload_n 1, 1) := by decide +kernel
theorem dX12_shinesBy_3 : decode cX12_shinesBy 3 = .ok (.lookupswitch 107 #[(0, 33), (2, 56), (5, 89)], 33) := by decide +kernel
theorem dX12_shinesBy_36 : decode cX12_shinesBy 36 = .ok (.aload_n 0, 1) := by decide +kernel
theorem dX12_shinesBy_37 : decode cX12_shinesBy 37 = .ok (.bipush 11, 2) := by decide +kernel
theorem dX12_shinesBy_39 : decode cX12_shinesBy 39 = .ok (.invokevirtual 258, 3) := by decide +kernel
theorem dX12_shinesBy_42 : decode cX12_shinesBy 42 = .ok (.aload_n 0, 1) := by decide +kernel
theorem dX12_shinesBy_43 : decode cX12_shinesBy 43 = .ok (.aload_n 0, 1) := by decide +kernel
theorem dX12_shinesBy_44 : decode cX12_shinesBy 44 = .ok (.aload_n 0, 1) := by decide +kernel
theorem dX12_shinesBy_45 : decode cX12_shinesBy 45 = .ok (.getfield 261, 3) := by decide +kernel
theorem dX12_shinesBy_48 : decode cX12_shinesBy 48 = .ok (.iconst 0, 1) := by decide +kernel
theorem dX12_shinesBy_49 : decode cX12_shinesBy 49 = .ok (.invokevirtual 146, 3) := by decide +kernel
theorem dX12_shinesBy_52 : decode cX12_shinesBy 52 = .ok (.iload_n 2, 1) := by decide +kernel
theorem dX12_shinesBy_53 : decode cX12_shinesBy 53 = .ok (.invokevirtual 264, 3) := by decide +kernel
theorem dX12_shinesBy_56 : decode cX12_shinesBy 56 = .ok (.iconst 2, 1) := by decide +kernel
theorem dX12_shinesBy_57 : decode cX12_shinesBy 57 = .ok (.imul, 1) := by decide +kernel
theorem dX12_shinesBy_58 : decode cX12_shinesBy 58 = .ok (.ireturn, 1) := by decide +kernel
theorem dX12_shinesBy_59 : decode cX12_shinesBy 59 = .ok (.aload_n 0, 1) := by decide +kernel
theorem dX12_shinesBy_60 : decode cX12_shinesBy 60 = .ok (.bipush 30, 2) := by decide +kernel
theorem dX12_shinesBy_62 : decode cX12_shinesBy 62 = .ok (.invokevirtual 258, 3) := by decide +kernel
theorem dX12_shinesBy_65 : decode cX12_shinesBy 65 = .ok (.aload_n 0, 1) := by decide +kernel
theorem dX12_shinesBy_66 : decode cX12_shinesBy 66 = .ok (.iconst 2, 1) := by decide +kernel
theorem dX12_shinesBy_67 : decode cX12_shinesBy 67 = .ok (.invokestatic 209, 3) := by decide +kernel
theorem dX12_shinesBy_70 : decode cX12_shinesBy 70 = .ok (.iload_n 2, 1) := by decide +kernel
theorem dX12_shinesBy_71 : decode cX12_shinesBy 71 = .ok (.invokevirtual 267, 3) := by decide +kernel
theorem dX12_shinesBy_74 : decode cX12_shinesBy 74 = .ok (.istore_n 3, 1) := by decide +kernel
theorem dX12_shinesBy_75 : decode cX12_shinesBy 75 = .ok (.iload_n 3, 1) := by decide +kernel
theorem dX12_shinesBy_76 : decode cX12_shinesBy 76 = .ok (.aload_n 0, 1) := by decide +kernel
theorem dX12_shinesBy_77 : decode cX12_shinesBy 77 = .ok (.aload_n 0, 1) := by decide +kernel
theorem dX12_shinesBy_78 : decode cX12_shinesBy 78 = .ok (.aload_n 0, 1) := by decide +kernel
theorem dX12_shinesBy_79 : decode cX12_shinesBy 79 = .ok (.getfield 261, 3) := by decide +kernel
theorem dX12_shinesBy_82 : decode cX12_shinesBy 82 = .ok (.iconst 0, 1) := by decide +kernel
theorem dX12_shinesBy_83 : decode cX12_shinesBy 83 = .ok (.invokevirtual 146, 3) := by decide +kernel
theorem dX12_shinesBy_86 : decode cX12_shinesBy 86 = .ok (.iconst 1, 1) := by decide +kernel
theorem dX12_shinesBy_87 : decode cX12_shinesBy 87 = .ok (.invokevirtual 270, 3) := by decide +kernel
theorem dX12_shinesBy_90 : decode cX12_shinesBy 90 = .ok (.isub, 1) := by decide +kernel
theorem dX12_shinesBy_91 : decode cX12_shinesBy 91 = .ok (.ireturn, 1) := by decide +kernel
theorem dX12_shinesBy_92 : decode cX12_shinesBy 92 = .ok (.aload_n 0, 1) := by decide +kernel
theorem dX12_shinesBy_93 : decode cX12_shinesBy 93 = .ok (.bipush 60, 2) := by decide +kernel
theorem dX12_shinesBy_95 : decode cX12_shinesBy 95 = .ok (.invokevirtual 258, 3) := by decide +kernel
theorem dX12_shinesBy_98 : decode cX12_shinesBy 98 = .ok (.aload_n 0, 1) := by decide +kernel
theorem dX12_shinesBy_99 : decode cX12_shinesBy 99 = .ok (.iconst 5, 1) := by decide +kernel
theorem dX12_shinesBy_100 : decode cX12_shinesBy 100 = .ok (.invokestatic 209, 3) := by decide +kernel
theorem dX12_shinesBy_103 : decode cX12_shinesBy 103 = .ok (.iload_n 2, 1) := by decide +kernel
theorem dX12_shinesBy_104 : decode cX12_shinesBy 104 = .ok (.iconst 1, 1) := by decide +kernel
theorem dX12_shinesBy_105 : decode cX12_shinesBy 105 = .ok (.iadd, 1) := by decide +kernel
theorem dX12_shinesBy_106 : decode cX12_shinesBy 106 = .ok (.invokevirtual 267, 3) := by decide +kernel
theorem dX12_shinesBy_109 : decode cX12_shinesBy 109 = .ok (.ireturn, 1) := by decide +kernel
theorem dX12_shinesBy_110 : decode cX12_shinesBy 110 = .ok (.aload_n 0, 1) := by decide +kernel
theorem dX12_shinesBy_111 : decode cX12_shinesBy 111 = .ok (.iload_n 1, 1) := by decide +kernel
theorem dX12_shinesBy_112 : decode cX12_shinesBy 112 = .ok (.invokestatic 209, 3) := by decide +kernel
theorem dX12_shinesBy_115 : decode cX12_shinesBy 115 = .ok (.iload_n 2, 1) := by decide +kernel
theorem dX12_shinesBy_116 : decode cX12_shinesBy 116 = .ok (.invokevirtual 267, 3) := by decide +kernel
theorem dX12_shinesBy_119 : decode cX12_shinesBy 119 = .ok (.ireturn, 1) := by decide +kernel
theorem dX12_driftsBy_0 : decode cX12_driftsBy 0 = .ok (.iload_n 1, 1) := by decide +kernel
theorem dX12_driftsBy_1 : decode cX12_driftsBy 1 = .ok (.lookupswitch 92 #[(0, 35), (3, 53), (6, 70)], 35) := by decide +kernel
theorem dX12_driftsBy_36 : decode cX12_driftsBy 36 = .ok (.aload_n 0, 1) := by decide +kernel
theorem dX12_driftsBy_37 : decode cX12_driftsBy 37 = .ok (.bipush 12, 2) := by decide +kernel
theorem dX12_driftsBy_39 : decode cX12_driftsBy 39 = .ok (.invokevirtual 258, 3) := by decide +kernel
theorem dX12_driftsBy_42 : decode cX12_driftsBy 42 = .ok (.iload_n 2, 1) := by decide +kernel
theorem dX12_driftsBy_43 : decode cX12_driftsBy 43 = .ok (.aload_n 0, 1) := by decide +kernel
theorem dX12_driftsBy_44 : decode cX12_driftsBy 44 = .ok (.aload_n 0, 1) := by decide +kernel
theorem dX12_driftsBy_45 : decode cX12_driftsBy 45 = .ok (.getfield 261, 3) := by decide +kernel
theorem dX12_driftsBy_48 : decode cX12_driftsBy 48 = .ok (.iconst 1, 1) := by decide +kernel
theorem dX12_driftsBy_49 : decode cX12_driftsBy 49 = .ok (.invokevirtual 146, 3) := by decide +kernel
theorem dX12_driftsBy_52 : decode cX12_driftsBy 52 = .ok (.isub, 1) := by decide +kernel
theorem dX12_driftsBy_53 : decode cX12_driftsBy 53 = .ok (.ireturn, 1) := by decide +kernel
theorem dX12_driftsBy_54 : decode cX12_driftsBy 54 = .ok (.aload_n 0, 1) := by decide +kernel
theorem dX12_driftsBy_55 : decode cX12_driftsBy 55 = .ok (.bipush 40, 2) := by decide +kernel
theorem dX12_driftsBy_57 : decode cX12_driftsBy 57 = .ok (.invokevirtual 258, 3) := by decide +kernel
theorem dX12_driftsBy_60 : decode cX12_driftsBy 60 = .ok (.aload_n 0, 1) := by decide +kernel
theorem dX12_driftsBy_61 : decode cX12_driftsBy 61 = .ok (.iconst 3, 1) := by decide +kernel
theorem dX12_driftsBy_62 : decode cX12_driftsBy 62 = .ok (.invokestatic 209, 3) := by decide +kernel
theorem dX12_driftsBy_65 : decode cX12_driftsBy 65 = .ok (.iload_n 2, 1) := by decide +kernel
theorem dX12_driftsBy_66 : decode cX12_driftsBy 66 = .ok (.invokevirtual 270, 3) := by decide +kernel
theorem dX12_driftsBy_69 : decode cX12_driftsBy 69 = .ok (.ineg, 1) := by decide +kernel
theorem dX12_driftsBy_70 : decode cX12_driftsBy 70 = .ok (.ireturn, 1) := by decide +kernel
theorem dX12_driftsBy_71 : decode cX12_driftsBy 71 = .ok (.aload_n 0, 1) := by decide +kernel
theorem dX12_driftsBy_72 : decode cX12_driftsBy 72 = .ok (.bipush 70, 2) := by decide +kernel
theorem dX12_driftsBy_74 : decode cX12_driftsBy 74 = .ok (.invokevirtual 258, 3) := by decide +kernel
theorem dX12_driftsBy_77 : decode cX12_driftsBy 77 = .ok (.aload_n 0, 1) := by decide +kernel
theorem dX12_driftsBy_78 : decode cX12_driftsBy 78 = .ok (.bipush 6, 2) := by decide +kernel
theorem dX12_driftsBy_80 : decode cX12_driftsBy 80 = .ok (.invokestatic 209, 3) := by decide +kernel
theorem dX12_driftsBy_83 : decode cX12_driftsBy 83 = .ok (.iload_n 2, 1) := by decide +kernel
theorem dX12_driftsBy_84 : decode cX12_driftsBy 84 = .ok (.invokevirtual 270, 3) := by decide +kernel
theorem dX12_driftsBy_87 : decode cX12_driftsBy 87 = .ok (.aload_n 0, 1) := by decide +kernel
theorem dX12_driftsBy_88 : decode cX12_driftsBy 88 = .ok (.getfield 261, 3) := by decide +kernel
theorem dX12_driftsBy_91 : decode cX12_driftsBy 91 = .ok (.ixor, 1) := by decide +kernel
theorem dX12_driftsBy_92 : decode cX12_driftsBy 92 = .ok (.ireturn, 1) := by decide +kernel
theorem dX12_driftsBy_93 : decode cX12_driftsBy 93 = .ok (.aload_n 0, 1) := by decide +kernel
theorem dX12_driftsBy_94 : decode cX12_driftsBy 94 = .ok (.iload_n 1, 1) := by decide +kernel
theorem dX12_driftsBy_95 : decode cX12_driftsBy 95 = .ok (.invokestatic 209, 3) := by decide +kernel
theorem dX12_driftsBy_98 : decode cX12_driftsBy 98 = .ok (.iload_n 2, 1) := by decide +kernel
theorem dX12_driftsBy_99 : decode cX12_driftsBy 99 = .ok (.invokevirtual 270, 3) := by decide +kernel
theorem dX12_driftsBy_102 : decode cX12_driftsBy 102 = .ok (.ireturn, 1) := by decide +kernel
theorem dX12_tellsBy_0 : decode cX12_tellsBy 0 = .ok (.iconst 0, 1) := by decide +kernel
theorem dX12_tellsBy_1 : decode cX12_tellsBy 1 = .ok (.istore_n 3, 1) := by decide +kernel
theorem dX12_tellsBy_2 : decode cX12_tellsBy 2 = .ok (.iload_n 1, 1) := by decide +kernel
theorem dX12_tellsBy_3 : decode cX12_tellsBy 3 = .ok (.lookupswitch 138 #[(0, 33), (4, 71), (6, 104)], 33) := by decide +kernel
theorem dX12_tellsBy_36 : decode cX12_tellsBy 36 = .ok (.aload_n 0, 1) := by decide +kernel
theorem dX12_tellsBy_37 : decode cX12_tellsBy 37 = .ok (.bipush 13, 2) := by decide +kernel
theorem dX12_tellsBy_39 : decode cX12_tellsBy 39 = .ok (.invokevirtual 258, 3) := by decide +kernel
theorem dX12_tellsBy_42 : decode cX12_tellsBy 42 = .ok (.aload_n 0, 1) := by decide +kernel
theorem dX12_tellsBy_43 : decode cX12_tellsBy 43 = .ok (.aload_n 0, 1) := by decide +kernel
theorem dX12_tellsBy_44 : decode cX12_tellsBy 44 = .ok (.aload_n 0, 1) := by decide +kernel
theorem dX12_tellsBy_45 : decode cX12_tellsBy 45 = .ok (.getfield 261, 3) := by decide +kernel
theorem dX12_tellsBy_48 : decode cX12_tellsBy 48 = .ok (.iconst 0, 1) := by decide +kernel
theorem dX12_tellsBy_49 : decode cX12_tellsBy 49 = .ok (.invokevirtual 146, 3) := by decide +kernel
theorem dX12_tellsBy_52 : decode cX12_tellsBy 52 = .ok (.iload_n 2, 1) := by decide +kernel
theorem dX12_tellsBy_53 : decode cX12_tellsBy 53 = .ok (.invokevirtual 267, 3) := by decide +kernel
theorem dX12_tellsBy_56 : decode cX12_tellsBy 56 = .ok (.istore_n 3, 1) := by decide +kernel
theorem dX12_tellsBy_57 : decode cX12_tellsBy 57 = .ok (.iload_n 3, 1) := by decide +kernel
theorem dX12_tellsBy_58 : decode cX12_tellsBy 58 = .ok (.aload_n 0, 1) := by decide +kernel
theorem dX12_tellsBy_59 : decode cX12_tellsBy 59 = .ok (.aload_n 0, 1) := by decide +kernel
theorem dX12_tellsBy_60 : decode cX12_tellsBy 60 = .ok (.aload_n 0, 1) := by decide +kernel
theorem dX12_tellsBy_61 : decode cX12_tellsBy 61 = .ok (.getfield 261, 3) := by decide +kernel
theorem dX12_tellsBy_64 : decode cX12_tellsBy 64 = .ok (.iconst 0, 1) := by decide +kernel
theorem dX12_tellsBy_65 : decode cX12_tellsBy 65 = .ok (.invokevirtual 146, 3) := by decide +kernel
theorem dX12_tellsBy_68 : decode cX12_tellsBy 68 = .ok (.iload_n 2, 1) := by decide +kernel
theorem dX12_tellsBy_69 : decode cX12_tellsBy 69 = .ok (.invokevirtual 270, 3) := by decide +kernel
theorem dX12_tellsBy_72 : decode cX12_tellsBy 72 = .ok (.ixor, 1) := by decide +kernel
theorem dX12_tellsBy_73 : decode cX12_tellsBy 73 = .ok (.ireturn, 1) := by decide +kernel
theorem dX12_tellsBy_74 : decode cX12_tellsBy 74 = .ok (.aload_n 0, 1) := by decide +kernel
theorem dX12_tellsBy_75 : decode cX12_tellsBy 75 = .ok (.bipush 50, 2) := by decide +kernel
theorem dX12_tellsBy_77 : decode cX12_tellsBy 77 = .ok (.invokevirtual 258, 3) := by decide +kernel
theorem dX12_tellsBy_80 : decode cX12_tellsBy 80 = .ok (.aload_n 0, 1) := by decide +kernel
theorem dX12_tellsBy_81 : decode cX12_tellsBy 81 = .ok (.iconst 4, 1) := by decide +kernel
theorem dX12_tellsBy_82 : decode cX12_tellsBy 82 = .ok (.invokestatic 209, 3) := by decide +kernel
theorem dX12_tellsBy_85 : decode cX12_tellsBy 85 = .ok (.iload_n 2, 1) := by decide +kernel
theorem dX12_tellsBy_86 : decode cX12_tellsBy 86 = .ok (.invokevirtual 273, 3) := by decide +kernel
theorem dX12_tellsBy_89 : decode cX12_tellsBy 89 = .ok (.istore_n 3, 1) := by decide +kernel
theorem dX12_tellsBy_90 : decode cX12_tellsBy 90 = .ok (.iload_n 3, 1) := by decide +kernel
theorem dX12_tellsBy_91 : decode cX12_tellsBy 91 = .ok (.aload_n 0, 1) := by decide +kernel
theorem dX12_tellsBy_92 : decode cX12_tellsBy 92 = .ok (.aload_n 0, 1) := by decide +kernel
theorem dX12_tellsBy_93 : decode cX12_tellsBy 93 = .ok (.aload_n 0, 1) := by decide +kernel
theorem dX12_tellsBy_94 : decode cX12_tellsBy 94 = .ok (.getfield 261, 3) := by decide +kernel
theorem dX12_tellsBy_97 : decode cX12_tellsBy 97 = .ok (.iconst 0, 1) := by decide +kernel
theorem dX12_tellsBy_98 : decode cX12_tellsBy 98 = .ok (.invokevirtual 146, 3) := by decide +kernel
theorem dX12_tellsBy_101 : decode cX12_tellsBy 101 = .ok (.iconst 2, 1) := by decide +kernel
theorem dX12_tellsBy_102 : decode cX12_tellsBy 102 = .ok (.invokevirtual 264, 3) := by decide +kernel
theorem dX12_tellsBy_105 : decode cX12_tellsBy 105 = .ok (.isub, 1) := by decide +kernel
theorem dX12_tellsBy_106 : decode cX12_tellsBy 106 = .ok (.ireturn, 1) := by decide +kernel
theorem dX12_tellsBy_107 : decode cX12_tellsBy 107 = .ok (.aload_n 0, 1) := by decide +kernel
theorem dX12_tellsBy_108 : decode cX12_tellsBy 108 = .ok (.bipush 71, 2) := by decide +kernel
theorem dX12_tellsBy_110 : decode cX12_tellsBy 110 = .ok (.invokevirtual 258, 3) := by decide +kernel
theorem dX12_tellsBy_113 : decode cX12_tellsBy 113 = .ok (.aload_n 0, 1) := by decide +kernel
theorem dX12_tellsBy_114 : decode cX12_tellsBy 114 = .ok (.aload_n 0, 1) := by decide +kernel
theorem dX12_tellsBy_115 : decode cX12_tellsBy 115 = .ok (.aload_n 0, 1) := by decide +kernel
theorem dX12_tellsBy_116 : decode cX12_tellsBy 116 = .ok (.getfield 261, 3) := by decide +kernel
theorem dX12_tellsBy_119 : decode cX12_tellsBy 119 = .ok (.iconst 0, 1) := by decide +kernel
theorem dX12_tellsBy_120 : decode cX12_tellsBy 120 = .ok (.invokevirtual 146, 3) := by decide +kernel
theorem dX12_tellsBy_123 : decode cX12_tellsBy 123 = .ok (.iload_n 2, 1) := by decide +kernel
theorem dX12_tellsBy_124 : decode cX12_tellsBy 124 = .ok (.invokevirtual 267, 3) := by decide +kernel
theorem dX12_tellsBy_127 : decode cX12_tellsBy 127 = .ok (.istore_n 3, 1) := by decide +kernel
theorem dX12_tellsBy_128 : decode cX12_tellsBy 128 = .ok (.iload_n 3, 1) := by decide +kernel
theorem dX12_tellsBy_129 : decode cX12_tellsBy 129 = .ok (.aload_n 0, 1) := by decide +kernel
theorem dX12_tellsBy_130 : decode cX12_tellsBy 130 = .ok (.bipush 6, 2) := by decide +kernel
theorem dX12_tellsBy_132 : decode cX12_tellsBy 132 = .ok (.invokestatic 209, 3) := by decide +kernel
theorem dX12_tellsBy_135 : decode cX12_tellsBy 135 = .ok (.iload_n 2, 1) := by decide +kernel
theorem dX12_tellsBy_136 : decode cX12_tellsBy 136 = .ok (.invokevirtual 273, 3) := by decide +kernel
theorem dX12_tellsBy_139 : decode cX12_tellsBy 139 = .ok (.isub, 1) := by decide +kernel
theorem dX12_tellsBy_140 : decode cX12_tellsBy 140 = .ok (.ireturn, 1) := by decide +kernel
theorem dX12_tellsBy_141 : decode cX12_tellsBy 141 = .ok (.aload_n 0, 1) := by decide +kernel
theorem dX12_tellsBy_142 : decode cX12_tellsBy 142 = .ok (.iload_n 1, 1) := by decide +kernel
theorem dX12_tellsBy_143 : decode cX12_tellsBy 143 = .ok (.invokestatic 209, 3) := by decide +kernel
theorem dX12_tellsBy_146 : decode cX12_tellsBy 146 = .ok (.iload_n 2, 1) := by decide +kernel
theorem dX12_tellsBy_147 : decode cX12_tellsBy 147 = .ok (.invokevirtual 273, 3) := by decide +kernel
theorem dX12_tellsBy_150 : decode cX12_tellsBy 150 = .ok (.ireturn, 1) := by decide +kernel
theorem dX12_voice_0 : decode cX12_voice 0 = .ok (.aload_n 0, 1) := by decide +kernel
theorem dX12_voice_1 : decode cX12_voice 1 = .ok (.iload_n 1, 1) := by decide +kernel
theorem dX12_voice_2 : decode cX12_voice 2 = .ok (.invokevirtual 199, 3) := by decide +kernel
theorem dX12_voice_5 : decode cX12_voice 5 = .ok (.ifCond .eq 15, 3) := by decide +kernel
theorem dX12_voice_8 : decode cX12_voice 8 = .ok (.iload_n 2, 1) := by decide +kernel
theorem dX12_voice_9 : decode cX12_voice 9 = .ok (.i2l, 1) := by decide +kernel
theorem dX12_voice_10 : decode cX12_voice 10 = .ok (.lconst 0, 1) := by decide +kernel
theorem dX12_voice_11 : decode cX12_voice 11 = .ok (.ldc2_w 182, 3) := by decide +kernel
theorem dX12_voice_14 : decode cX12_voice 14 = .ok (.invokestatic 47, 3) := by decide +kernel
theorem dX12_voice_17 : decode cX12_voice 17 = .ok (.ifCond .ne 9, 3) := by decide +kernel
theorem dX12_voice_20 : decode cX12_voice 20 = .ok (.aload_n 0, 1) := by decide +kernel
theorem dX12_voice_21 : decode cX12_voice 21 = .ok (.iconst 1, 1) := by decide +kernel
theorem dX12_voice_22 : decode cX12_voice 22 = .ok (.invokevirtual 126, 3) := by decide +kernel
theorem dX12_voice_25 : decode cX12_voice 25 = .ok (.ireturn, 1) := by decide +kernel
theorem dX12_voice_26 : decode cX12_voice 26 = .ok (.aload_n 0, 1) := by decide +kernel
theorem dX12_voice_27 : decode cX12_voice 27 = .ok (.iload_n 1, 1) := by decide +kernel
theorem dX12_voice_28 : decode cX12_voice 28 = .ok (.putfield 261, 3) := by decide +kernel
theorem dX12_voice_31 : decode cX12_voice 31 = .ok (.aload_n 0, 1) := by decide +kernel
theorem dX12_voice_32 : decode cX12_voice 32 = .ok (.iconst 0, 1) := by decide +kernel
theorem dX12_voice_33 : decode cX12_voice 33 = .ok (.putfield 255, 3) := by decide +kernel
theorem dX12_voice_36 : decode cX12_voice 36 = .ok (.aload_n 0, 1) := by decide +kernel
theorem dX12_voice_37 : decode cX12_voice 37 = .ok (.aload_n 0, 1) := by decide +kernel
theorem dX12_voice_38 : decode cX12_voice 38 = .ok (.getfield 261, 3) := by decide +kernel
theorem dX12_voice_41 : decode cX12_voice 41 = .ok (.iconst 0, 1) := by decide +kernel
theorem dX12_voice_42 : decode cX12_voice 42 = .ok (.invokevirtual 146, 3) := by decide +kernel
theorem dX12_voice_45 : decode cX12_voice 45 = .ok (.istore 4, 2) := by decide +kernel
theorem dX12_voice_47 : decode cX12_voice 47 = .ok (.iload_n 2, 1) := by decide +kernel
theorem dX12_voice_48 : decode cX12_voice 48 = .ok (.ifCond .ne 13, 3) := by decide +kernel
theorem dX12_voice_51 : decode cX12_voice 51 = .ok (.aload_n 0, 1) := by decide +kernel
theorem dX12_voice_52 : decode cX12_voice 52 = .ok (.iload 4, 2) := by decide +kernel
theorem dX12_voice_54 : decode cX12_voice 54 = .ok (.iload_n 3, 1) := by decide +kernel
theorem dX12_voice_55 : decode cX12_voice 55 = .ok (.invokevirtual 264, 3) := by decide +kernel
theorem dX12_voice_58 : decode cX12_voice 58 = .ok (.goto 40, 3) := by decide +kernel
theorem dX12_voice_61 : decode cX12_voice 61 = .ok (.iload_n 2, 1) := by decide +kernel
theorem dX12_voice_62 : decode cX12_voice 62 = .ok (.iconst 1, 1) := by decide +kernel
theorem dX12_voice_63 : decode cX12_voice 63 = .ok (.if_icmp .ne 13, 3) := by decide +kernel
theorem dX12_voice_66 : decode cX12_voice 66 = .ok (.aload_n 0, 1) := by decide +kernel
theorem dX12_voice_67 : decode cX12_voice 67 = .ok (.iload 4, 2) := by decide +kernel
theorem dX12_voice_69 : decode cX12_voice 69 = .ok (.iload_n 3, 1) := by decide +kernel
theorem dX12_voice_70 : decode cX12_voice 70 = .ok (.invokevirtual 267, 3) := by decide +kernel
theorem dX12_voice_73 : decode cX12_voice 73 = .ok (.goto 25, 3) := by decide +kernel
theorem dX12_voice_76 : decode cX12_voice 76 = .ok (.iload_n 2, 1) := by decide +kernel
theorem dX12_voice_77 : decode cX12_voice 77 = .ok (.iconst 2, 1) := by decide +kernel
theorem dX12_voice_78 : decode cX12_voice 78 = .ok (.if_icmp .ne 13, 3) := by decide +kernel
theorem dX12_voice_81 : decode cX12_voice 81 = .ok (.aload_n 0, 1) := by decide +kernel
theorem dX12_voice_82 : decode cX12_voice 82 = .ok (.iload 4, 2) := by decide +kernel
theorem dX12_voice_84 : decode cX12_voice 84 = .ok (.iload_n 3, 1) := by decide +kernel
theorem dX12_voice_85 : decode cX12_voice 85 = .ok (.invokevirtual 270, 3) := by decide +kernel
theorem dX12_voice_88 : decode cX12_voice 88 = .ok (.goto 10, 3) := by decide +kernel
theorem dX12_voice_91 : decode cX12_voice 91 = .ok (.aload_n 0, 1) := by decide +kernel
theorem dX12_voice_92 : decode cX12_voice 92 = .ok (.iload 4, 2) := by decide +kernel
theorem dX12_voice_94 : decode cX12_voice 94 = .ok (.iload_n 3, 1) := by decide +kernel
theorem dX12_voice_95 : decode cX12_voice 95 = .ok (.invokevirtual 273, 3) := by decide +kernel
theorem dX12_voice_98 : decode cX12_voice 98 = .ok (.ireturn, 1) := by decide +kernel
theorem dX12_trace_0 : decode cX12_trace 0 = .ok (.iload_n 1, 1) := by decide +kernel
theorem dX12_trace_1 : decode cX12_trace 1 = .ok (.i2l, 1) := by decide +kernel
theorem dX12_trace_2 : decode cX12_trace 2 = .ok (.lconst 0, 1) := by decide +kernel
theorem dX12_trace_3 : decode cX12_trace 3 = .ok (.aload_n 0, 1) := by decide +kernel
theorem dX12_trace_4 : decode cX12_trace 4 = .ok (.getfield 255, 3) := by decide +kernel
theorem dX12_trace_7 : decode cX12_trace 7 = .ok (.iconst 1, 1) := by decide +kernel
theorem dX12_trace_8 : decode cX12_trace 8 = .ok (.isub, 1) := by decide +kernel
theorem dX12_trace_9 : decode cX12_trace 9 = .ok (.i2l, 1) := by decide +kernel
theorem dX12_trace_10 : decode cX12_trace 10 = .ok (.invokestatic 47, 3) := by decide +kernel
theorem dX12_trace_13 : decode cX12_trace 13 = .ok (.ifCond .eq 12, 3) := by decide +kernel
theorem dX12_trace_16 : decode cX12_trace 16 = .ok (.aload_n 0, 1) := by decide +kernel
theorem dX12_trace_17 : decode cX12_trace 17 = .ok (.getfield 31, 3) := by decide +kernel
theorem dX12_trace_20 : decode cX12_trace 20 = .ok (.iload_n 1, 1) := by decide +kernel
theorem dX12_trace_21 : decode cX12_trace 21 = .ok (.iaload, 1) := by decide +kernel
theorem dX12_trace_22 : decode cX12_trace 22 = .ok (.goto 8, 3) := by decide +kernel
theorem dX12_trace_25 : decode cX12_trace 25 = .ok (.aload_n 0, 1) := by decide +kernel
theorem dX12_trace_26 : decode cX12_trace 26 = .ok (.iconst 2, 1) := by decide +kernel
theorem dX12_trace_27 : decode cX12_trace 27 = .ok (.invokevirtual 126, 3) := by decide +kernel
theorem dX12_trace_30 : decode cX12_trace 30 = .ok (.ireturn, 1) := by decide +kernel
theorem dX12_isSheet_0 : decode cX12_isSheet 0 = .ok (.iload_n 0, 1) := by decide +kernel
theorem dX12_isSheet_1 : decode cX12_isSheet 1 = .ok (.i2l, 1) := by decide +kernel
theorem dX12_isSheet_2 : decode cX12_isSheet 2 = .ok (.lconst 0, 1) := by decide +kernel
theorem dX12_isSheet_3 : decode cX12_isSheet 3 = .ok (.ldc2_w 182, 3) := by decide +kernel
theorem dX12_isSheet_6 : decode cX12_isSheet 6 = .ok (.invokestatic 47, 3) := by decide +kernel
theorem dX12_isSheet_9 : decode cX12_isSheet 9 = .ok (.ireturn, 1) := by decide +kernel
theorem dX12_sheet_0 : decode cX12_sheet 0 = .ok (.iload_n 1, 1) := by decide +kernel
theorem dX12_sheet_1 : decode cX12_sheet 1 = .ok (.invokestatic 243, 3) := by decide +kernel
theorem dX12_sheet_4 : decode cX12_sheet 4 = .ok (.ifCond .eq 25, 3) := by decide +kernel
theorem dX12_sheet_7 : decode cX12_sheet 7 = .ok (.iload_n 2, 1) := by decide +kernel
theorem dX12_sheet_8 : decode cX12_sheet 8 = .ok (.ifCond .eq 27, 3) := by decide +kernel
theorem dX12_sheet_11 : decode cX12_sheet 11 = .ok (.iload_n 2, 1) := by decide +kernel
theorem dX12_sheet_12 : decode cX12_sheet 12 = .ok (.bipush 8, 2) := by decide +kernel
theorem dX12_sheet_14 : decode cX12_sheet 14 = .ok (.if_icmp .eq 21, 3) := by decide +kernel
theorem dX12_sheet_17 : decode cX12_sheet 17 = .ok (.iload_n 2, 1) := by decide +kernel
theorem dX12_sheet_18 : decode cX12_sheet 18 = .ok (.bipush 16, 2) := by decide +kernel
theorem dX12_sheet_20 : decode cX12_sheet 20 = .ok (.if_icmp .eq 15, 3) := by decide +kernel
theorem dX12_sheet_23 : decode cX12_sheet 23 = .ok (.iload_n 2, 1) := by decide +kernel
theorem dX12_sheet_24 : decode cX12_sheet 24 = .ok (.bipush 32, 2) := by decide +kernel
theorem dX12_sheet_26 : decode cX12_sheet 26 = .ok (.if_icmp .eq 9, 3) := by decide +kernel
theorem dX12_sheet_29 : decode cX12_sheet 29 = .ok (.aload_n 0, 1) := by decide +kernel
theorem dX12_sheet_30 : decode cX12_sheet 30 = .ok (.iconst 1, 1) := by decide +kernel
theorem dX12_sheet_31 : decode cX12_sheet 31 = .ok (.invokevirtual 126, 3) := by decide +kernel
theorem dX12_sheet_34 : decode cX12_sheet 34 = .ok (.ireturn, 1) := by decide +kernel
theorem dX12_sheet_35 : decode cX12_sheet 35 = .ok (.iload_n 2, 1) := by decide +kernel
theorem dX12_sheet_36 : decode cX12_sheet 36 = .ok (.ifCond .eq 13, 3) := by decide +kernel
theorem dX12_sheet_39 : decode cX12_sheet 39 = .ok (.iload_n 3, 1) := by decide +kernel
theorem dX12_sheet_40 : decode cX12_sheet 40 = .ok (.ifCond .ge 9, 3) := by decide +kernel
theorem dX12_sheet_43 : decode cX12_sheet 43 = .ok (.aload_n 0, 1) := by decide +kernel
theorem dX12_sheet_44 : decode cX12_sheet 44 = .ok (.iconst 3, 1) := by decide +kernel
theorem dX12_sheet_45 : decode cX12_sheet 45 = .ok (.invokevirtual 126, 3) := by decide +kernel
theorem dX12_sheet_48 : decode cX12_sheet 48 = .ok (.ireturn, 1) := by decide +kernel
theorem dX12_sheet_49 : decode cX12_sheet 49 = .ok (.iload_n 2, 1) := by decide +kernel
theorem dX12_sheet_50 : decode cX12_sheet 50 = .ok (.ifCond .eq 15, 3) := by decide +kernel
theorem dX12_sheet_53 : decode cX12_sheet 53 = .ok (.iload_n 3, 1) := by decide +kernel
theorem dX12_sheet_54 : decode cX12_sheet 54 = .ok (.bipush 40, 2) := by decide +kernel
theorem dX12_sheet_56 : decode cX12_sheet 56 = .ok (.if_icmp .le 9, 3) := by decide +kernel
theorem dX12_sheet_59 : decode cX12_sheet 59 = .ok (.aload_n 0, 1) := by decide +kernel
theorem dX12_sheet_60 : decode cX12_sheet 60 = .ok (.iconst 1, 1) := by decide +kernel
theorem dX12_sheet_61 : decode cX12_sheet 61 = .ok (.invokevirtual 126, 3) := by decide +kernel
theorem dX12_sheet_64 : decode cX12_sheet 64 = .ok (.ireturn, 1) := by decide +kernel
theorem dX12_sheet_65 : decode cX12_sheet 65 = .ok (.aload_n 0, 1) := by decide +kernel
theorem dX12_sheet_66 : decode cX12_sheet 66 = .ok (.getfield 34, 3) := by decide +kernel
theorem dX12_sheet_69 : decode cX12_sheet 69 = .ok (.iload_n 1, 1) := by decide +kernel
theorem dX12_sheet_70 : decode cX12_sheet 70 = .ok (.iload_n 2, 1) := by decide +kernel
theorem dX12_sheet_71 : decode cX12_sheet 71 = .ok (.iastore, 1) := by decide +kernel
theorem dX12_sheet_72 : decode cX12_sheet 72 = .ok (.aload_n 0, 1) := by decide +kernel
theorem dX12_sheet_73 : decode cX12_sheet 73 = .ok (.getfield 37, 3) := by decide +kernel
theorem dX12_sheet_76 : decode cX12_sheet 76 = .ok (.iload_n 1, 1) := by decide +kernel
theorem dX12_sheet_77 : decode cX12_sheet 77 = .ok (.iload_n 2, 1) := by decide +kernel
theorem dX12_sheet_78 : decode cX12_sheet 78 = .ok (.ifCond .ne 7, 3) := by decide +kernel
theorem dX12_sheet_81 : decode cX12_sheet 81 = .ok (.iconst 0, 1) := by decide +kernel
theorem dX12_sheet_82 : decode cX12_sheet 82 = .ok (.goto 4, 3) := by decide +kernel
theorem dX12_sheet_85 : decode cX12_sheet 85 = .ok (.iload_n 3, 1) := by decide +kernel
theorem dX12_sheet_86 : decode cX12_sheet 86 = .ok (.iastore, 1) := by decide +kernel
theorem dX12_sheet_87 : decode cX12_sheet 87 = .ok (.iconst 0, 1) := by decide +kernel
theorem dX12_sheet_88 : decode cX12_sheet 88 = .ok (.istore 4, 2) := by decide +kernel
theorem dX12_sheet_90 : decode cX12_sheet 90 = .ok (.iload 4, 2) := by decide +kernel
theorem dX12_sheet_92 : decode cX12_sheet 92 = .ok (.bipush 40, 2) := by decide +kernel
theorem dX12_sheet_94 : decode cX12_sheet 94 = .ok (.if_icmp .ge 22, 3) := by decide +kernel
theorem dX12_sheet_97 : decode cX12_sheet 97 = .ok (.aload_n 0, 1) := by decide +kernel
theorem dX12_sheet_98 : decode cX12_sheet 98 = .ok (.getfield 40, 3) := by decide +kernel
theorem dX12_sheet_101 : decode cX12_sheet 101 = .ok (.bipush 40, 2) := by decide +kernel
theorem dX12_sheet_103 : decode cX12_sheet 103 = .ok (.iload_n 1, 1) := by decide +kernel
theorem dX12_sheet_104 : decode cX12_sheet 104 = .ok (.imul, 1) := by decide +kernel
theorem dX12_sheet_105 : decode cX12_sheet 105 = .ok (.iload 4, 2) := by decide +kernel
theorem dX12_sheet_107 : decode cX12_sheet 107 = .ok (.iadd, 1) := by decide +kernel
theorem dX12_sheet_108 : decode cX12_sheet 108 = .ok (.iconst 0, 1) := by decide +kernel
theorem dX12_sheet_109 : decode cX12_sheet 109 = .ok (.iastore, 1) := by decide +kernel
theorem dX12_sheet_110 : decode cX12_sheet 110 = .ok (.iinc 4 1, 3) := by decide +kernel
theorem dX12_sheet_113 : decode cX12_sheet 113 = .ok (.goto (-23), 3) := by decide +kernel
theorem dX12_sheet_116 : decode cX12_sheet 116 = .ok (.iconst 1, 1) := by decide +kernel
theorem dX12_sheet_117 : decode cX12_sheet 117 = .ok (.ireturn, 1) := by decide +kernel
theorem dX12_put_0 : decode cX12_put 0 = .ok (.iload_n 1, 1) := by decide +kernel
theorem dX12_put_1 : decode cX12_put 1 = .ok (.invokestatic 243, 3) := by decide +kernel
theorem dX12_put_4 : decode cX12_put 4 = .ok (.ifCond .ne 9, 3) := by decide +kernel
theorem dX12_put_7 : decode cX12_put 7 = .ok (.aload_n 0, 1) := by decide +kernel
theorem dX12_put_8 : decode cX12_put 8 = .ok (.iconst 1, 1) := by decide +kernel
theorem dX12_put_9 : decode cX12_put 9 = .ok (.invokevirtual 126, 3) := by decide +kernel
theorem dX12_put_12 : decode cX12_put 12 = .ok (.ireturn, 1) := by decide +kernel
theorem dX12_put_13 : decode cX12_put 13 = .ok (.aload_n 0, 1) := by decide +kernel
theorem dX12_put_14 : decode cX12_put 14 = .ok (.getfield 34, 3) := by decide +kernel
theorem dX12_put_17 : decode cX12_put 17 = .ok (.iload_n 1, 1) := by decide +kernel
theorem dX12_put_18 : decode cX12_put 18 = .ok (.iaload, 1) := by decide +kernel
theorem dX12_put_19 : decode cX12_put 19 = .ok (.ifCond .ne 9, 3) := by decide +kernel
theorem dX12_put_22 : decode cX12_put 22 = .ok (.aload_n 0, 1) := by decide +kernel
theorem dX12_put_23 : decode cX12_put 23 = .ok (.iconst 2, 1) := by decide +kernel
theorem dX12_put_24 : decode cX12_put 24 = .ok (.invokevirtual 126, 3) := by decide +kernel
theorem dX12_put_27 : decode cX12_put 27 = .ok (.ireturn, 1) := by decide +kernel
theorem dX12_put_28 : decode cX12_put 28 = .ok (.iload_n 2, 1) := by decide +kernel
theorem dX12_put_29 : decode cX12_put 29 = .ok (.i2l, 1) := by decide +kernel
theorem dX12_put_30 : decode cX12_put 30 = .ok (.lconst 0, 1) := by decide +kernel
theorem dX12_put_31 : decode cX12_put 31 = .ok (.aload_n 0, 1) := by decide +kernel
theorem dX12_put_32 : decode cX12_put 32 = .ok (.getfield 37, 3) := by decide +kernel
theorem dX12_put_35 : decode cX12_put 35 = .ok (.iload_n 1, 1) := by decide +kernel
theorem dX12_put_36 : decode cX12_put 36 = .ok (.iaload, 1) := by decide +kernel
theorem dX12_put_37 : decode cX12_put 37 = .ok (.iconst 1, 1) := by decide +kernel
theorem dX12_put_38 : decode cX12_put 38 = .ok (.isub, 1) := by decide +kernel
theorem dX12_put_39 : decode cX12_put 39 = .ok (.i2l, 1) := by decide +kernel
theorem dX12_put_40 : decode cX12_put 40 = .ok (.invokestatic 47, 3) := by decide +kernel
theorem dX12_put_43 : decode cX12_put 43 = .ok (.ifCond .ne 9, 3) := by decide +kernel
theorem dX12_put_46 : decode cX12_put 46 = .ok (.aload_n 0, 1) := by decide +kernel
theorem dX12_put_47 : decode cX12_put 47 = .ok (.iconst 1, 1) := by decide +kernel
theorem dX12_put_48 : decode cX12_put 48 = .ok (.invokevirtual 126, 3) := by decide +kernel
theorem dX12_put_51 : decode cX12_put 51 = .ok (.ireturn, 1) := by decide +kernel
theorem dX12_put_52 : decode cX12_put 52 = .ok (.aload_n 0, 1) := by decide +kernel
theorem dX12_put_53 : decode cX12_put 53 = .ok (.getfield 40, 3) := by decide +kernel
theorem dX12_put_56 : decode cX12_put 56 = .ok (.bipush 40, 2) := by decide +kernel
theorem dX12_put_58 : decode cX12_put 58 = .ok (.iload_n 1, 1) := by decide +kernel
theorem dX12_put_59 : decode cX12_put 59 = .ok (.imul, 1) := by decide +kernel
theorem dX12_put_60 : decode cX12_put 60 = .ok (.iload_n 2, 1) := by decide +kernel
theorem dX12_put_61 : decode cX12_put 61 = .ok (.iadd, 1) := by decide +kernel
theorem dX12_put_62 : decode cX12_put 62 = .ok (.aload_n 0, 1) := by decide +kernel
theorem dX12_put_63 : decode cX12_put 63 = .ok (.getfield 34, 3) := by decide +kernel
theorem dX12_put_66 : decode cX12_put 66 = .ok (.iload_n 1, 1) := by decide +kernel
theorem dX12_put_67 : decode cX12_put 67 = .ok (.iaload, 1) := by decide +kernel
theorem dX12_put_68 : decode cX12_put 68 = .ok (.bipush 8, 2) := by decide +kernel
theorem dX12_put_70 : decode cX12_put 70 = .ok (.if_icmp .ne 8, 3) := by decide +kernel
theorem dX12_put_73 : decode cX12_put 73 = .ok (.iload_n 3, 1) := by decide +kernel
theorem dX12_put_74 : decode cX12_put 74 = .ok (.i2b, 1) := by decide +kernel
theorem dX12_put_75 : decode cX12_put 75 = .ok (.goto 20, 3) := by decide +kernel
theorem dX12_put_78 : decode cX12_put 78 = .ok (.aload_n 0, 1) := by decide +kernel
theorem dX12_put_79 : decode cX12_put 79 = .ok (.getfield 34, 3) := by decide +kernel
theorem dX12_put_82 : decode cX12_put 82 = .ok (.iload_n 1, 1) := by decide +kernel
theorem dX12_put_83 : decode cX12_put 83 = .ok (.iaload, 1) := by decide +kernel
theorem dX12_put_84 : decode cX12_put 84 = .ok (.bipush 16, 2) := by decide +kernel
theorem dX12_put_86 : decode cX12_put 86 = .ok (.if_icmp .ne 8, 3) := by decide +kernel
theorem dX12_put_89 : decode cX12_put 89 = .ok (.iload_n 3, 1) := by decide +kernel
theorem dX12_put_90 : decode cX12_put 90 = .ok (.i2s, 1) := by decide +kernel
theorem dX12_put_91 : decode cX12_put 91 = .ok (.goto 4, 3) := by decide +kernel
theorem dX12_put_94 : decode cX12_put 94 = .ok (.iload_n 3, 1) := by decide +kernel
theorem dX12_put_95 : decode cX12_put 95 = .ok (.iastore, 1) := by decide +kernel
theorem dX12_put_96 : decode cX12_put 96 = .ok (.iconst 1, 1) := by decide +kernel
theorem dX12_put_97 : decode cX12_put 97 = .ok (.ireturn, 1) := by decide +kernel
theorem dX12_move_0 : decode cX12_move 0 = .ok (.iload_n 1, 1) := by decide +kernel
theorem dX12_move_1 : decode cX12_move 1 = .ok (.invokestatic 243, 3) := by decide +kernel
theorem dX12_move_4 : decode cX12_move 4 = .ok (.ifCond .eq 10, 3) := by decide +kernel
theorem dX12_move_7 : decode cX12_move 7 = .ok (.iload_n 3, 1) := by decide +kernel
theorem dX12_move_8 : decode cX12_move 8 = .ok (.invokestatic 243, 3) := by decide +kernel
theorem dX12_move_11 : decode cX12_move 11 = .ok (.ifCond .ne 9, 3) := by decide +kernel
theorem dX12_move_14 : decode cX12_move 14 = .ok (.aload_n 0, 1) := by decide +kernel
theorem dX12_move_15 : decode cX12_move 15 = .ok (.iconst 1, 1) := by decide +kernel
theorem dX12_move_16 : decode cX12_move 16 = .ok (.invokevirtual 126, 3) := by decide +kernel
theorem dX12_move_19 : decode cX12_move 19 = .ok (.ireturn, 1) := by decide +kernel
theorem dX12_move_20 : decode cX12_move 20 = .ok (.aload_n 0, 1) := by decide +kernel
theorem dX12_move_21 : decode cX12_move 21 = .ok (.getfield 34, 3) := by decide +kernel
theorem dX12_move_24 : decode cX12_move 24 = .ok (.iload_n 1, 1) := by decide +kernel
theorem dX12_move_25 : decode cX12_move 25 = .ok (.iaload, 1) := by decide +kernel
theorem dX12_move_26 : decode cX12_move 26 = .ok (.ifCond .eq 12, 3) := by decide +kernel
theorem dX12_move_29 : decode cX12_move 29 = .ok (.aload_n 0, 1) := by decide +kernel
theorem dX12_move_30 : decode cX12_move 30 = .ok (.getfield 34, 3) := by decide +kernel
theorem dX12_move_33 : decode cX12_move 33 = .ok (.iload_n 3, 1) := by decide +kernel
theorem dX12_move_34 : decode cX12_move 34 = .ok (.iaload, 1) := by decide +kernel
theorem dX12_move_35 : decode cX12_move 35 = .ok (.ifCond .ne 9, 3) := by decide +kernel
theorem dX12_move_38 : decode cX12_move 38 = .ok (.aload_n 0, 1) := by decide +kernel
theorem dX12_move_39 : decode cX12_move 39 = .ok (.iconst 2, 1) := by decide +kernel
theorem dX12_move_40 : decode cX12_move 40 = .ok (.invokevirtual 126, 3) := by decide +kernel
theorem dX12_move_43 : decode cX12_move 43 = .ok (.ireturn, 1) := by decide +kernel
theorem dX12_move_44 : decode cX12_move 44 = .ok (.aload_n 0, 1) := by decide +kernel
theorem dX12_move_45 : decode cX12_move 45 = .ok (.getfield 34, 3) := by decide +kernel
theorem dX12_move_48 : decode cX12_move 48 = .ok (.iload_n 1, 1) := by decide +kernel
theorem dX12_move_49 : decode cX12_move 49 = .ok (.iaload, 1) := by decide +kernel
theorem dX12_move_50 : decode cX12_move 50 = .ok (.aload_n 0, 1) := by decide +kernel
theorem dX12_move_51 : decode cX12_move 51 = .ok (.getfield 34, 3) := by decide +kernel
theorem dX12_move_54 : decode cX12_move 54 = .ok (.iload_n 3, 1) := by decide +kernel
theorem dX12_move_55 : decode cX12_move 55 = .ok (.iaload, 1) := by decide +kernel
theorem dX12_move_56 : decode cX12_move 56 = .ok (.if_icmp .eq 9, 3) := by decide +kernel
theorem dX12_move_59 : decode cX12_move 59 = .ok (.aload_n 0, 1) := by decide +kernel
theorem dX12_move_60 : decode cX12_move 60 = .ok (.iconst 5, 1) := by decide +kernel
theorem dX12_move_61 : decode cX12_move 61 = .ok (.invokevirtual 126, 3) := by decide +kernel
theorem dX12_move_64 : decode cX12_move 64 = .ok (.ireturn, 1) := by decide +kernel
theorem dX12_move_65 : decode cX12_move 65 = .ok (.iload 5, 2) := by decide +kernel
theorem dX12_move_67 : decode cX12_move 67 = .ok (.ifCond .lt 39, 3) := by decide +kernel
theorem dX12_move_70 : decode cX12_move 70 = .ok (.iload_n 2, 1) := by decide +kernel
theorem dX12_move_71 : decode cX12_move 71 = .ok (.ifCond .lt 35, 3) := by decide +kernel
theorem dX12_move_74 : decode cX12_move 74 = .ok (.iload 4, 2) := by decide +kernel
theorem dX12_move_76 : decode cX12_move 76 = .ok (.ifCond .lt 30, 3) := by decide +kernel
theorem dX12_move_79 : decode cX12_move 79 = .ok (.iload 5, 2) := by decide +kernel
theorem dX12_move_81 : decode cX12_move 81 = .ok (.aload_n 0, 1) := by decide +kernel
theorem dX12_move_82 : decode cX12_move 82 = .ok (.getfield 37, 3) := by decide +kernel
theorem dX12_move_85 : decode cX12_move 85 = .ok (.iload_n 1, 1) := by decide +kernel
theorem dX12_move_86 : decode cX12_move 86 = .ok (.iaload, 1) := by decide +kernel
theorem dX12_move_87 : decode cX12_move 87 = .ok (.iload_n 2, 1) := by decide +kernel
theorem dX12_move_88 : decode cX12_move 88 = .ok (.isub, 1) := by decide +kernel
theorem dX12_move_89 : decode cX12_move 89 = .ok (.if_icmp .gt 17, 3) := by decide +kernel
theorem dX12_move_92 : decode cX12_move 92 = .ok (.iload 5, 2) := by decide +kernel
theorem dX12_move_94 : decode cX12_move 94 = .ok (.aload_n 0, 1) := by decide +kernel
theorem dX12_move_95 : decode cX12_move 95 = .ok (.getfield 37, 3) := by decide +kernel
theorem dX12_move_98 : decode cX12_move 98 = .ok (.iload_n 3, 1) := by decide +kernel
theorem dX12_move_99 : decode cX12_move 99 = .ok (.iaload, 1) := by decide +kernel
theorem dX12_move_100 : decode cX12_move 100 = .ok (.iload 4, 2) := by decide +kernel
theorem dX12_move_102 : decode cX12_move 102 = .ok (.isub, 1) := by decide +kernel
theorem dX12_move_103 : decode cX12_move 103 = .ok (.if_icmp .le 9, 3) := by decide +kernel
theorem dX12_move_106 : decode cX12_move 106 = .ok (.aload_n 0, 1) := by decide +kernel
theorem dX12_move_107 : decode cX12_move 107 = .ok (.iconst 1, 1) := by decide +kernel
theorem dX12_move_108 : decode cX12_move 108 = .ok (.invokevirtual 126, 3) := by decide +kernel
theorem dX12_move_111 : decode cX12_move 111 = .ok (.ireturn, 1) := by decide +kernel
theorem dX12_move_112 : decode cX12_move 112 = .ok (.iconst 0, 1) := by decide +kernel
theorem dX12_move_113 : decode cX12_move 113 = .ok (.istore 6, 2) := by decide +kernel
theorem dX12_move_115 : decode cX12_move 115 = .ok (.iload 6, 2) := by decide +kernel
theorem dX12_move_117 : decode cX12_move 117 = .ok (.iload 5, 2) := by decide +kernel
theorem dX12_move_119 : decode cX12_move 119 = .ok (.if_icmp .ge 30, 3) := by decide +kernel
theorem dX12_move_122 : decode cX12_move 122 = .ok (.aload_n 0, 1) := by decide +kernel
theorem dX12_move_123 : decode cX12_move 123 = .ok (.getfield 43, 3) := by decide +kernel
theorem dX12_move_126 : decode cX12_move 126 = .ok (.iload 6, 2) := by decide +kernel
theorem dX12_move_128 : decode cX12_move 128 = .ok (.aload_n 0, 1) := by decide +kernel
theorem dX12_move_129 : decode cX12_move 129 = .ok (.getfield 40, 3) := by decide +kernel
theorem dX12_move_132 : decode cX12_move 132 = .ok (.bipush 40, 2) := by decide +kernel
theorem dX12_move_134 : decode cX12_move 134 = .ok (.iload_n 1, 1) := by decide +kernel
theorem dX12_move_135 : decode cX12_move 135 = .ok (.imul, 1) := by decide +kernel
theorem dX12_move_136 : decode cX12_move 136 = .ok (.iload_n 2, 1) := by decide +kernel
theorem dX12_move_137 : decode cX12_move 137 = .ok (.iadd, 1) := by decide +kernel
theorem dX12_move_138 : decode cX12_move 138 = .ok (.iload 6, 2) := by decide +kernel
theorem dX12_move_140 : decode cX12_move 140 = .ok (.iadd, 1) := by decide +kernel
theorem dX12_move_141 : decode cX12_move 141 = .ok (.iaload, 1) := by decide +kernel
theorem dX12_move_142 : decode cX12_move 142 = .ok (.iastore, 1) := by decide +kernel
theorem dX12_move_143 : decode cX12_move 143 = .ok (.iinc 6 1, 3) := by decide +kernel
theorem dX12_move_146 : decode cX12_move 146 = .ok (.goto (-31), 3) := by decide +kernel
theorem dX12_move_149 : decode cX12_move 149 = .ok (.iconst 0, 1) := by decide +kernel
theorem dX12_move_150 : decode cX12_move 150 = .ok (.istore 6, 2) := by decide +kernel
theorem dX12_move_152 : decode cX12_move 152 = .ok (.iload 6, 2) := by decide +kernel
theorem dX12_move_154 : decode cX12_move 154 = .ok (.iload 5, 2) := by decide +kernel
theorem dX12_move_156 : decode cX12_move 156 = .ok (.if_icmp .ge 31, 3) := by decide +kernel
theorem dX12_move_159 : decode cX12_move 159 = .ok (.aload_n 0, 1) := by decide +kernel
theorem dX12_move_160 : decode cX12_move 160 = .ok (.getfield 40, 3) := by decide +kernel
theorem dX12_move_163 : decode cX12_move 163 = .ok (.bipush 40, 2) := by decide +kernel
theorem dX12_move_165 : decode cX12_move 165 = .ok (.iload_n 3, 1) := by decide +kernel
theorem dX12_move_166 : decode cX12_move 166 = .ok (.imul, 1) := by decide +kernel
theorem dX12_move_167 : decode cX12_move 167 = .ok (.iload 4, 2) := by decide +kernel
theorem dX12_move_169 : decode cX12_move 169 = .ok (.iadd, 1) := by decide +kernel
theorem dX12_move_170 : decode cX12_move 170 = .ok (.iload 6, 2) := by decide +kernel
theorem dX12_move_172 : decode cX12_move 172 = .ok (.iadd, 1) := by decide +kernel
theorem dX12_move_173 : decode cX12_move 173 = .ok (.aload_n 0, 1) := by decide +kernel
theorem dX12_move_174 : decode cX12_move 174 = .ok (.getfield 43, 3) := by decide +kernel
theorem dX12_move_177 : decode cX12_move 177 = .ok (.iload 6, 2) := by decide +kernel
theorem dX12_move_179 : decode cX12_move 179 = .ok (.iaload, 1) := by decide +kernel
theorem dX12_move_180 : decode cX12_move 180 = .ok (.iastore, 1) := by decide +kernel
theorem dX12_move_181 : decode cX12_move 181 = .ok (.iinc 6 1, 3) := by decide +kernel
theorem dX12_move_184 : decode cX12_move 184 = .ok (.goto (-32), 3) := by decide +kernel
theorem dX12_move_187 : decode cX12_move 187 = .ok (.iload 5, 2) := by decide +kernel
theorem dX12_move_189 : decode cX12_move 189 = .ok (.ireturn, 1) := by decide +kernel
theorem dX12_suns_0 : decode cX12_suns 0 = .ok (.iload_n 1, 1) := by decide +kernel
theorem dX12_suns_1 : decode cX12_suns 1 = .ok (.invokestatic 243, 3) := by decide +kernel
theorem dX12_suns_4 : decode cX12_suns 4 = .ok (.ifCond .ne 9, 3) := by decide +kernel
theorem dX12_suns_7 : decode cX12_suns 7 = .ok (.aload_n 0, 1) := by decide +kernel
theorem dX12_suns_8 : decode cX12_suns 8 = .ok (.iconst 1, 1) := by decide +kernel
theorem dX12_suns_9 : decode cX12_suns 9 = .ok (.invokevirtual 126, 3) := by decide +kernel
theorem dX12_suns_12 : decode cX12_suns 12 = .ok (.ireturn, 1) := by decide +kernel
theorem dX12_suns_13 : decode cX12_suns 13 = .ok (.aload_n 0, 1) := by decide +kernel
theorem dX12_suns_14 : decode cX12_suns 14 = .ok (.getfield 34, 3) := by decide +kernel
theorem dX12_suns_17 : decode cX12_suns 17 = .ok (.iload_n 1, 1) := by decide +kernel
theorem dX12_suns_18 : decode cX12_suns 18 = .ok (.iaload, 1) := by decide +kernel
theorem dX12_suns_19 : decode cX12_suns 19 = .ok (.ifCond .ne 9, 3) := by decide +kernel
theorem dX12_suns_22 : decode cX12_suns 22 = .ok (.aload_n 0, 1) := by decide +kernel
theorem dX12_suns_23 : decode cX12_suns 23 = .ok (.iconst 2, 1) := by decide +kernel
theorem dX12_suns_24 : decode cX12_suns 24 = .ok (.invokevirtual 126, 3) := by decide +kernel
theorem dX12_suns_27 : decode cX12_suns 27 = .ok (.ireturn, 1) := by decide +kernel
theorem dX12_suns_28 : decode cX12_suns 28 = .ok (.iconst 0, 1) := by decide +kernel
theorem dX12_suns_29 : decode cX12_suns 29 = .ok (.istore_n 2, 1) := by decide +kernel
theorem dX12_suns_30 : decode cX12_suns 30 = .ok (.iload_n 2, 1) := by decide +kernel
theorem dX12_suns_31 : decode cX12_suns 31 = .ok (.aload_n 0, 1) := by decide +kernel
theorem dX12_suns_32 : decode cX12_suns 32 = .ok (.getfield 37, 3) := by decide +kernel
theorem dX12_suns_35 : decode cX12_suns 35 = .ok (.iload_n 1, 1) := by decide +kernel
theorem dX12_suns_36 : decode cX12_suns 36 = .ok (.iaload, 1) := by decide +kernel
theorem dX12_suns_37 : decode cX12_suns 37 = .ok (.if_icmp .ge 57, 3) := by decide +kernel
theorem dX12_suns_40 : decode cX12_suns 40 = .ok (.iload_n 2, 1) := by decide +kernel
theorem dX12_suns_41 : decode cX12_suns 41 = .ok (.bipush 16, 2) := by decide +kernel
theorem dX12_suns_43 : decode cX12_suns 43 = .ok (.if_icmp .ge 51, 3) := by decide +kernel
theorem dX12_suns_46 : decode cX12_suns 46 = .ok (.aload_n 0, 1) := by decide +kernel
theorem dX12_suns_47 : decode cX12_suns 47 = .ok (.getfield 40, 3) := by decide +kernel
theorem dX12_suns_50 : decode cX12_suns 50 = .ok (.bipush 40, 2) := by decide +kernel
theorem dX12_suns_52 : decode cX12_suns 52 = .ok (.iload_n 1, 1) := by decide +kernel
theorem dX12_suns_53 : decode cX12_suns 53 = .ok (.imul, 1) := by decide +kernel
theorem dX12_suns_54 : decode cX12_suns 54 = .ok (.iload_n 2, 1) := by decide +kernel
theorem dX12_suns_55 : decode cX12_suns 55 = .ok (.iadd, 1) := by decide +kernel
theorem dX12_suns_56 : decode cX12_suns 56 = .ok (.iaload, 1) := by decide +kernel
theorem dX12_suns_57 : decode cX12_suns 57 = .ok (.i2l, 1) := by decide +kernel
theorem dX12_suns_58 : decode cX12_suns 58 = .ok (.lconst 0, 1) := by decide +kernel
theorem dX12_suns_59 : decode cX12_suns 59 = .ok (.ldc2_w 177, 3) := by decide +kernel
theorem dX12_suns_62 : decode cX12_suns 62 = .ok (.invokestatic 47, 3) := by decide +kernel
theorem dX12_suns_65 : decode cX12_suns 65 = .ok (.ifCond .eq 29, 3) := by decide +kernel
theorem dX12_suns_68 : decode cX12_suns 68 = .ok (.aload_n 0, 1) := by decide +kernel
theorem dX12_suns_69 : decode cX12_suns 69 = .ok (.getfield 7, 3) := by decide +kernel
theorem dX12_suns_72 : decode cX12_suns 72 = .ok (.bipush 8, 2) := by decide +kernel
theorem dX12_suns_74 : decode cX12_suns 74 = .ok (.iload_n 2, 1) := by decide +kernel
theorem dX12_suns_75 : decode cX12_suns 75 = .ok (.iadd, 1) := by decide +kernel
theorem dX12_suns_76 : decode cX12_suns 76 = .ok (.aload_n 0, 1) := by decide +kernel
theorem dX12_suns_77 : decode cX12_suns 77 = .ok (.getfield 40, 3) := by decide +kernel
theorem dX12_suns_80 : decode cX12_suns 80 = .ok (.bipush 40, 2) := by decide +kernel
theorem dX12_suns_82 : decode cX12_suns 82 = .ok (.iload_n 1, 1) := by decide +kernel
theorem dX12_suns_83 : decode cX12_suns 83 = .ok (.imul, 1) := by decide +kernel
theorem dX12_suns_84 : decode cX12_suns 84 = .ok (.iload_n 2, 1) := by decide +kernel
theorem dX12_suns_85 : decode cX12_suns 85 = .ok (.iadd, 1) := by decide +kernel
theorem dX12_suns_86 : decode cX12_suns 86 = .ok (.iaload, 1) := by decide +kernel
theorem dX12_suns_87 : decode cX12_suns 87 = .ok (.iastore, 1) := by decide +kernel
theorem dX12_suns_88 : decode cX12_suns 88 = .ok (.iinc 2 1, 3) := by decide +kernel
theorem dX12_suns_91 : decode cX12_suns 91 = .ok (.goto (-61), 3) := by decide +kernel
theorem dX12_suns_94 : decode cX12_suns 94 = .ok (.iload_n 2, 1) := by decide +kernel
theorem dX12_suns_95 : decode cX12_suns 95 = .ok (.ireturn, 1) := by decide +kernel
theorem dX12_judge_0 : decode cX12_judge 0 = .ok (.iload_n 1, 1) := by decide +kernel
theorem dX12_judge_1 : decode cX12_judge 1 = .ok (.invokestatic 243, 3) := by decide +kernel
theorem dX12_judge_4 : decode cX12_judge 4 = .ok (.ifCond .ne 9, 3) := by decide +kernel
theorem dX12_judge_7 : decode cX12_judge 7 = .ok (.aload_n 0, 1) := by decide +kernel
theorem dX12_judge_8 : decode cX12_judge 8 = .ok (.iconst 1, 1) := by decide +kernel
theorem dX12_judge_9 : decode cX12_judge 9 = .ok (.invokevirtual 126, 3) := by decide +kernel
theorem dX12_judge_12 : decode cX12_judge 12 = .ok (.ireturn, 1) := by decide +kernel
theorem dX12_judge_13 : decode cX12_judge 13 = .ok (.aload_n 0, 1) := by decide +kernel
theorem dX12_judge_14 : decode cX12_judge 14 = .ok (.getfield 34, 3) := by decide +kernel
theorem dX12_judge_17 : decode cX12_judge 17 = .ok (.iload_n 1, 1) := by decide +kernel
theorem dX12_judge_18 : decode cX12_judge 18 = .ok (.iaload, 1) := by decide +kernel
theorem dX12_judge_19 : decode cX12_judge 19 = .ok (.ifCond .ne 9, 3) := by decide +kernel
theorem dX12_judge_22 : decode cX12_judge 22 = .ok (.aload_n 0, 1) := by decide +kernel
theorem dX12_judge_23 : decode cX12_judge 23 = .ok (.iconst 2, 1) := by decide +kernel
theorem dX12_judge_24 : decode cX12_judge 24 = .ok (.invokevirtual 126, 3) := by decide +kernel
theorem dX12_judge_27 : decode cX12_judge 27 = .ok (.ireturn, 1) := by decide +kernel
theorem dX12_judge_28 : decode cX12_judge 28 = .ok (.iconst 0, 1) := by decide +kernel
theorem dX12_judge_29 : decode cX12_judge 29 = .ok (.istore_n 2, 1) := by decide +kernel
theorem dX12_judge_30 : decode cX12_judge 30 = .ok (.iload_n 2, 1) := by decide +kernel
theorem dX12_judge_31 : decode cX12_judge 31 = .ok (.aload_n 0, 1) := by decide +kernel
theorem dX12_judge_32 : decode cX12_judge 32 = .ok (.getfield 37, 3) := by decide +kernel
theorem dX12_judge_35 : decode cX12_judge 35 = .ok (.iload_n 1, 1) := by decide +kernel
theorem dX12_judge_36 : decode cX12_judge 36 = .ok (.iaload, 1) := by decide +kernel
theorem dX12_judge_37 : decode cX12_judge 37 = .ok (.if_icmp .ge 39, 3) := by decide +kernel
theorem dX12_judge_40 : decode cX12_judge 40 = .ok (.iload_n 2, 1) := by decide +kernel
theorem dX12_judge_41 : decode cX12_judge 41 = .ok (.aload_n 0, 1) := by decide +kernel
theorem dX12_judge_42 : decode cX12_judge 42 = .ok (.getfield 7, 3) := by decide +kernel
theorem dX12_judge_45 : decode cX12_judge 45 = .ok (.iconst 0, 1) := by decide +kernel
theorem dX12_judge_46 : decode cX12_judge 46 = .ok (.iaload, 1) := by decide +kernel
theorem dX12_judge_47 : decode cX12_judge 47 = .ok (.if_icmp .ge 29, 3) := by decide +kernel
theorem dX12_judge_50 : decode cX12_judge 50 = .ok (.aload_n 0, 1) := by decide +kernel
theorem dX12_judge_51 : decode cX12_judge 51 = .ok (.getfield 40, 3) := by decide +kernel
theorem dX12_judge_54 : decode cX12_judge 54 = .ok (.bipush 40, 2) := by decide +kernel
theorem dX12_judge_56 : decode cX12_judge 56 = .ok (.iload_n 1, 1) := by decide +kernel
theorem dX12_judge_57 : decode cX12_judge 57 = .ok (.imul, 1) := by decide +kernel
theorem dX12_judge_58 : decode cX12_judge 58 = .ok (.iload_n 2, 1) := by decide +kernel
theorem dX12_judge_59 : decode cX12_judge 59 = .ok (.iadd, 1) := by decide +kernel
theorem dX12_judge_60 : decode cX12_judge 60 = .ok (.iaload, 1) := by decide +kernel
theorem dX12_judge_61 : decode cX12_judge 61 = .ok (.aload_n 0, 1) := by decide +kernel
theorem dX12_judge_62 : decode cX12_judge 62 = .ok (.iload_n 2, 1) := by decide +kernel
theorem dX12_judge_63 : decode cX12_judge 63 = .ok (.iconst 2, 1) := by decide +kernel
theorem dX12_judge_64 : decode cX12_judge 64 = .ok (.invokevirtual 146, 3) := by decide +kernel
theorem dX12_judge_67 : decode cX12_judge 67 = .ok (.if_icmp .ne 9, 3) := by decide +kernel
theorem dX12_judge_70 : decode cX12_judge 70 = .ok (.iinc 2 1, 3) := by decide +kernel
theorem dX12_judge_73 : decode cX12_judge 73 = .ok (.goto (-43), 3) := by decide +kernel
theorem dX12_judge_76 : decode cX12_judge 76 = .ok (.iload_n 2, 1) := by decide +kernel
theorem dX12_judge_77 : decode cX12_judge 77 = .ok (.aload_n 0, 1) := by decide +kernel
theorem dX12_judge_78 : decode cX12_judge 78 = .ok (.getfield 37, 3) := by decide +kernel
theorem dX12_judge_81 : decode cX12_judge 81 = .ok (.iload_n 1, 1) := by decide +kernel
theorem dX12_judge_82 : decode cX12_judge 82 = .ok (.iaload, 1) := by decide +kernel
theorem dX12_judge_83 : decode cX12_judge 83 = .ok (.if_icmp .ne 17, 3) := by decide +kernel
theorem dX12_judge_86 : decode cX12_judge 86 = .ok (.iload_n 2, 1) := by decide +kernel
theorem dX12_judge_87 : decode cX12_judge 87 = .ok (.aload_n 0, 1) := by decide +kernel
theorem dX12_judge_88 : decode cX12_judge 88 = .ok (.getfield 7, 3) := by decide +kernel
theorem dX12_judge_91 : decode cX12_judge 91 = .ok (.iconst 0, 1) := by decide +kernel
theorem dX12_judge_92 : decode cX12_judge 92 = .ok (.iaload, 1) := by decide +kernel
theorem dX12_judge_93 : decode cX12_judge 93 = .ok (.if_icmp .ne 7, 3) := by decide +kernel
theorem dX12_judge_96 : decode cX12_judge 96 = .ok (.iconst (-1), 1) := by decide +kernel
theorem dX12_judge_97 : decode cX12_judge 97 = .ok (.goto 4, 3) := by decide +kernel
theorem dX12_judge_100 : decode cX12_judge 100 = .ok (.iload_n 2, 1) := by decide +kernel
theorem dX12_judge_101 : decode cX12_judge 101 = .ok (.ireturn, 1) := by decide +kernel
theorem dX12_image_0 : decode cX12_image 0 = .ok (.iconst 0, 1) := by decide +kernel
theorem dX12_image_1 : decode cX12_image 1 = .ok (.istore_n 1, 1) := by decide +kernel
theorem dX12_image_2 : decode cX12_image 2 = .ok (.iload_n 1, 1) := by decide +kernel
theorem dX12_image_3 : decode cX12_image 3 = .ok (.sipush 260, 3) := by decide +kernel
theorem dX12_image_6 : decode cX12_image 6 = .ok (.if_icmp .ge 21, 3) := by decide +kernel
theorem dX12_image_9 : decode cX12_image 9 = .ok (.aload_n 0, 1) := by decide +kernel
theorem dX12_image_10 : decode cX12_image 10 = .ok (.getfield 13, 3) := by decide +kernel
theorem dX12_image_13 : decode cX12_image 13 = .ok (.iload_n 1, 1) := by decide +kernel
theorem dX12_image_14 : decode cX12_image 14 = .ok (.aload_n 0, 1) := by decide +kernel
theorem dX12_image_15 : decode cX12_image 15 = .ok (.getfield 7, 3) := by decide +kernel
theorem dX12_image_18 : decode cX12_image 18 = .ok (.iload_n 1, 1) := by decide +kernel
theorem dX12_image_19 : decode cX12_image 19 = .ok (.iaload, 1) := by decide +kernel
theorem dX12_image_20 : decode cX12_image 20 = .ok (.iastore, 1) := by decide +kernel
theorem dX12_image_21 : decode cX12_image 21 = .ok (.iinc 1 1, 3) := by decide +kernel
theorem dX12_image_24 : decode cX12_image 24 = .ok (.goto (-22), 3) := by decide +kernel
theorem dX12_image_27 : decode cX12_image 27 = .ok (.aload_n 0, 1) := by decide +kernel
theorem dX12_image_28 : decode cX12_image 28 = .ok (.dup, 1) := by decide +kernel
theorem dX12_image_29 : decode cX12_image 29 = .ok (.getfield 276, 3) := by decide +kernel
theorem dX12_image_32 : decode cX12_image 32 = .ok (.iconst 1, 1) := by decide +kernel
theorem dX12_image_33 : decode cX12_image 33 = .ok (.iadd, 1) := by decide +kernel
theorem dX12_image_34 : decode cX12_image 34 = .ok (.putfield 276, 3) := by decide +kernel
theorem dX12_image_37 : decode cX12_image 37 = .ok (.aload_n 0, 1) := by decide +kernel
theorem dX12_image_38 : decode cX12_image 38 = .ok (.getfield 276, 3) := by decide +kernel
theorem dX12_image_41 : decode cX12_image 41 = .ok (.ireturn, 1) := by decide +kernel
theorem dX12_restore_0 : decode cX12_restore 0 = .ok (.aload_n 0, 1) := by decide +kernel
theorem dX12_restore_1 : decode cX12_restore 1 = .ok (.getfield 276, 3) := by decide +kernel
theorem dX12_restore_4 : decode cX12_restore 4 = .ok (.ifCond .ne 9, 3) := by decide +kernel
theorem dX12_restore_7 : decode cX12_restore 7 = .ok (.aload_n 0, 1) := by decide +kernel
theorem dX12_restore_8 : decode cX12_restore 8 = .ok (.iconst 2, 1) := by decide +kernel
theorem dX12_restore_9 : decode cX12_restore 9 = .ok (.invokevirtual 126, 3) := by decide +kernel
theorem dX12_restore_12 : decode cX12_restore 12 = .ok (.ireturn, 1) := by decide +kernel
theorem dX12_restore_13 : decode cX12_restore 13 = .ok (.iconst 0, 1) := by decide +kernel
theorem dX12_restore_14 : decode cX12_restore 14 = .ok (.istore_n 1, 1) := by decide +kernel
theorem dX12_restore_15 : decode cX12_restore 15 = .ok (.iload_n 1, 1) := by decide +kernel
theorem dX12_restore_16 : decode cX12_restore 16 = .ok (.sipush 260, 3) := by decide +kernel
theorem dX12_restore_19 : decode cX12_restore 19 = .ok (.if_icmp .ge 21, 3) := by decide +kernel
theorem dX12_restore_22 : decode cX12_restore 22 = .ok (.aload_n 0, 1) := by decide +kernel
theorem dX12_restore_23 : decode cX12_restore 23 = .ok (.getfield 7, 3) := by decide +kernel
theorem dX12_restore_26 : decode cX12_restore 26 = .ok (.iload_n 1, 1) := by decide +kernel
theorem dX12_restore_27 : decode cX12_restore 27 = .ok (.aload_n 0, 1) := by decide +kernel
theorem dX12_restore_28 : decode cX12_restore 28 = .ok (.getfield 13, 3) := by decide +kernel
theorem dX12_restore_31 : decode cX12_restore 31 = .ok (.iload_n 1, 1) := by decide +kernel
theorem dX12_restore_32 : decode cX12_restore 32 = .ok (.iaload, 1) := by decide +kernel
theorem dX12_restore_33 : decode cX12_restore 33 = .ok (.iastore, 1) := by decide +kernel
theorem dX12_restore_34 : decode cX12_restore 34 = .ok (.iinc 1 1, 3) := by decide +kernel
theorem dX12_restore_37 : decode cX12_restore 37 = .ok (.goto (-22), 3) := by decide +kernel
theorem dX12_restore_40 : decode cX12_restore 40 = .ok (.aload_n 0, 1) := by decide +kernel
theorem dX12_restore_41 : decode cX12_restore 41 = .ok (.getfield 7, 3) := by decide +kernel
theorem dX12_restore_44 : decode cX12_restore 44 = .ok (.iconst 1, 1) := by decide +kernel
theorem dX12_restore_45 : decode cX12_restore 45 = .ok (.iaload, 1) := by decide +kernel
theorem dX12_restore_46 : decode cX12_restore 46 = .ok (.ireturn, 1) := by decide +kernel
theorem dX12_tell_0 : decode cX12_tell 0 = .ok (.aload_n 0, 1) := by decide +kernel
theorem dX12_tell_1 : decode cX12_tell 1 = .ok (.getfield 7, 3) := by decide +kernel
theorem dX12_tell_4 : decode cX12_tell 4 = .ok (.bipush 7, 2) := by decide +kernel
theorem dX12_tell_6 : decode cX12_tell 6 = .ok (.iaload, 1) := by decide +kernel
theorem dX12_tell_7 : decode cX12_tell 7 = .ok (.bipush 20, 2) := by decide +kernel
theorem dX12_tell_9 : decode cX12_tell 9 = .ok (.if_icmp .ne 9, 3) := by decide +kernel
theorem dX12_tell_12 : decode cX12_tell 12 = .ok (.aload_n 0, 1) := by decide +kernel
theorem dX12_tell_13 : decode cX12_tell 13 = .ok (.iconst 4, 1) := by decide +kernel
theorem dX12_tell_14 : decode cX12_tell 14 = .ok (.invokevirtual 126, 3) := by decide +kernel
theorem dX12_tell_17 : decode cX12_tell 17 = .ok (.ireturn, 1) := by decide +kernel
theorem dX12_tell_18 : decode cX12_tell 18 = .ok (.aload_n 0, 1) := by decide +kernel
theorem dX12_tell_19 : decode cX12_tell 19 = .ok (.getfield 7, 3) := by decide +kernel
theorem dX12_tell_22 : decode cX12_tell 22 = .ok (.bipush 90, 2) := by decide +kernel
theorem dX12_tell_24 : decode cX12_tell 24 = .ok (.aload_n 0, 1) := by decide +kernel
theorem dX12_tell_25 : decode cX12_tell 25 = .ok (.getfield 7, 3) := by decide +kernel
theorem dX12_tell_28 : decode cX12_tell 28 = .ok (.bipush 7, 2) := by decide +kernel
theorem dX12_tell_30 : decode cX12_tell 30 = .ok (.iaload, 1) := by decide +kernel
theorem dX12_tell_31 : decode cX12_tell 31 = .ok (.iadd, 1) := by decide +kernel
theorem dX12_tell_32 : decode cX12_tell 32 = .ok (.iload_n 1, 1) := by decide +kernel
theorem dX12_tell_33 : decode cX12_tell 33 = .ok (.iastore, 1) := by decide +kernel
theorem dX12_tell_34 : decode cX12_tell 34 = .ok (.aload_n 0, 1) := by decide +kernel
theorem dX12_tell_35 : decode cX12_tell 35 = .ok (.getfield 7, 3) := by decide +kernel
theorem dX12_tell_38 : decode cX12_tell 38 = .ok (.bipush 7, 2) := by decide +kernel
theorem dX12_tell_40 : decode cX12_tell 40 = .ok (.dup2, 1) := by decide +kernel
theorem dX12_tell_41 : decode cX12_tell 41 = .ok (.iaload, 1) := by decide +kernel
theorem dX12_tell_42 : decode cX12_tell 42 = .ok (.iconst 1, 1) := by decide +kernel
theorem dX12_tell_43 : decode cX12_tell 43 = .ok (.iadd, 1) := by decide +kernel
theorem dX12_tell_44 : decode cX12_tell 44 = .ok (.iastore, 1) := by decide +kernel
theorem dX12_tell_45 : decode cX12_tell 45 = .ok (.aload_n 0, 1) := by decide +kernel
theorem dX12_tell_46 : decode cX12_tell 46 = .ok (.getfield 7, 3) := by decide +kernel
theorem dX12_tell_49 : decode cX12_tell 49 = .ok (.bipush 7, 2) := by decide +kernel
theorem dX12_tell_51 : decode cX12_tell 51 = .ok (.iaload, 1) := by decide +kernel
theorem dX12_tell_52 : decode cX12_tell 52 = .ok (.ireturn, 1) := by decide +kernel
theorem dX12_check_0 : decode cX12_check 0 = .ok (.aload_n 0, 1) := by decide +kernel
theorem dX12_check_1 : decode cX12_check 1 = .ok (.getfield 7, 3) := by decide +kernel
theorem dX12_check_4 : decode cX12_check 4 = .ok (.bipush 7, 2) := by decide +kernel
theorem dX12_check_6 : decode cX12_check 6 = .ok (.iaload, 1) := by decide +kernel
theorem dX12_check_7 : decode cX12_check 7 = .ok (.istore_n 1, 1) := by decide +kernel
theorem dX12_check_8 : decode cX12_check 8 = .ok (.aload_n 0, 1) := by decide +kernel
theorem dX12_check_9 : decode cX12_check 9 = .ok (.getfield 7, 3) := by decide +kernel
theorem dX12_check_12 : decode cX12_check 12 = .ok (.bipush 7, 2) := by decide +kernel
theorem dX12_check_14 : decode cX12_check 14 = .ok (.iconst 0, 1) := by decide +kernel
theorem dX12_check_15 : decode cX12_check 15 = .ok (.iastore, 1) := by decide +kernel
theorem dX12_check_16 : decode cX12_check 16 = .ok (.aload_n 0, 1) := by decide +kernel
theorem dX12_check_17 : decode cX12_check 17 = .ok (.invokevirtual 226, 3) := by decide +kernel
theorem dX12_check_20 : decode cX12_check 20 = .ok (.iconst 0, 1) := by decide +kernel
theorem dX12_check_21 : decode cX12_check 21 = .ok (.istore_n 2, 1) := by decide +kernel
theorem dX12_check_22 : decode cX12_check 22 = .ok (.iconst 0, 1) := by decide +kernel
theorem dX12_check_23 : decode cX12_check 23 = .ok (.istore_n 3, 1) := by decide +kernel
theorem dX12_check_24 : decode cX12_check 24 = .ok (.iload_n 3, 1) := by decide +kernel
theorem dX12_check_25 : decode cX12_check 25 = .ok (.iload_n 1, 1) := by decide +kernel
theorem dX12_check_26 : decode cX12_check 26 = .ok (.if_icmp .ge 43, 3) := by decide +kernel
theorem dX12_check_29 : decode cX12_check 29 = .ok (.iload_n 2, 1) := by decide +kernel
theorem dX12_check_30 : decode cX12_check 30 = .ok (.ifCond .ne 39, 3) := by decide +kernel
theorem dX12_check_33 : decode cX12_check 33 = .ok (.aload_n 0, 1) := by decide +kernel
theorem dX12_check_34 : decode cX12_check 34 = .ok (.invokevirtual 171, 3) := by decide +kernel
theorem dX12_check_37 : decode cX12_check 37 = .ok (.aload_n 0, 1) := by decide +kernel
theorem dX12_check_38 : decode cX12_check 38 = .ok (.getfield 7, 3) := by decide +kernel
theorem dX12_check_41 : decode cX12_check 41 = .ok (.bipush 90, 2) := by decide +kernel
theorem dX12_check_43 : decode cX12_check 43 = .ok (.iload_n 3, 1) := by decide +kernel
theorem dX12_check_44 : decode cX12_check 44 = .ok (.iadd, 1) := by decide +kernel
theorem dX12_check_45 : decode cX12_check 45 = .ok (.iaload, 1) := by decide +kernel
theorem dX12_check_46 : decode cX12_check 46 = .ok (.aload_n 0, 1) := by decide +kernel
theorem dX12_check_47 : decode cX12_check 47 = .ok (.getfield 7, 3) := by decide +kernel
theorem dX12_check_50 : decode cX12_check 50 = .ok (.iconst 4, 1) := by decide +kernel
theorem dX12_check_51 : decode cX12_check 51 = .ok (.iaload, 1) := by decide +kernel
theorem dX12_check_52 : decode cX12_check 52 = .ok (.if_icmp .ne 7, 3) := by decide +kernel
theorem dX12_check_55 : decode cX12_check 55 = .ok (.iconst 0, 1) := by decide +kernel
theorem dX12_check_56 : decode cX12_check 56 = .ok (.goto 6, 3) := by decide +kernel
theorem dX12_check_59 : decode cX12_check 59 = .ok (.iconst 1, 1) := by decide +kernel
theorem dX12_check_60 : decode cX12_check 60 = .ok (.iload_n 3, 1) := by decide +kernel
theorem dX12_check_61 : decode cX12_check 61 = .ok (.iadd, 1) := by decide +kernel
theorem dX12_check_62 : decode cX12_check 62 = .ok (.istore_n 2, 1) := by decide +kernel
theorem dX12_check_63 : decode cX12_check 63 = .ok (.iinc 3 1, 3) := by decide +kernel
theorem dX12_check_66 : decode cX12_check 66 = .ok (.goto (-42), 3) := by decide +kernel
theorem dX12_check_69 : decode cX12_check 69 = .ok (.aload_n 0, 1) := by decide +kernel
theorem dX12_check_70 : decode cX12_check 70 = .ok (.invokevirtual 223, 3) := by decide +kernel
theorem dX12_check_73 : decode cX12_check 73 = .ok (.iload_n 2, 1) := by decide +kernel
theorem dX12_check_74 : decode cX12_check 74 = .ok (.ireturn, 1) := by decide +kernel
theorem dX12_sumOf_0 : decode cX12_sumOf 0 = .ok (.iconst 0, 1) := by decide +kernel
theorem dX12_sumOf_1 : decode cX12_sumOf 1 = .ok (.istore 4, 2) := by decide +kernel
theorem dX12_sumOf_3 : decode cX12_sumOf 3 = .ok (.iconst 0, 1) := by decide +kernel
theorem dX12_sumOf_4 : decode cX12_sumOf 4 = .ok (.istore 5, 2) := by decide +kernel
theorem dX12_sumOf_6 : decode cX12_sumOf 6 = .ok (.iload 5, 2) := by decide +kernel
theorem dX12_sumOf_8 : decode cX12_sumOf 8 = .ok (.iload_n 2, 1) := by decide +kernel
theorem dX12_sumOf_9 : decode cX12_sumOf 9 = .ok (.if_icmp .ge 25, 3) := by decide +kernel
theorem dX12_sumOf_12 : decode cX12_sumOf 12 = .ok (.iload 4, 2) := by decide +kernel
theorem dX12_sumOf_14 : decode cX12_sumOf 14 = .ok (.aload_n 0, 1) := by decide +kernel
theorem dX12_sumOf_15 : decode cX12_sumOf 15 = .ok (.getfield 7, 3) := by decide +kernel
theorem dX12_sumOf_18 : decode cX12_sumOf 18 = .ok (.iload_n 1, 1) := by decide +kernel
theorem dX12_sumOf_19 : decode cX12_sumOf 19 = .ok (.iload_n 3, 1) := by decide +kernel
theorem dX12_sumOf_20 : decode cX12_sumOf 20 = .ok (.iload 5, 2) := by decide +kernel
theorem dX12_sumOf_22 : decode cX12_sumOf 22 = .ok (.imul, 1) := by decide +kernel
theorem dX12_sumOf_23 : decode cX12_sumOf 23 = .ok (.iadd, 1) := by decide +kernel
theorem dX12_sumOf_24 : decode cX12_sumOf 24 = .ok (.iaload, 1) := by decide +kernel
theorem dX12_sumOf_25 : decode cX12_sumOf 25 = .ok (.iadd, 1) := by decide +kernel
theorem dX12_sumOf_26 : decode cX12_sumOf 26 = .ok (.istore 4, 2) := by decide +kernel
theorem dX12_sumOf_28 : decode cX12_sumOf 28 = .ok (.iinc 5 1, 3) := by decide +kernel
theorem dX12_sumOf_31 : decode cX12_sumOf 31 = .ok (.goto (-25), 3) := by decide +kernel
theorem dX12_sumOf_34 : decode cX12_sumOf 34 = .ok (.iload 4, 2) := by decide +kernel
theorem dX12_sumOf_36 : decode cX12_sumOf 36 = .ok (.ireturn, 1) := by decide +kernel
theorem dX12_count_0 : decode cX12_count 0 = .ok (.iload_n 1, 1) := by decide +kernel
theorem dX12_count_1 : decode cX12_count 1 = .ok (.tableswitch 119 0 10 #[59, 59, 59, 59, 59, 66, 76, 91, 99, 107, 112], 59) := by decide +kernel
theorem dX12_count_60 : decode cX12_count 60 = .ok (.aload_n 0, 1) := by decide +kernel
theorem dX12_count_61 : decode cX12_count 61 = .ok (.getfield 7, 3) := by decide +kernel
theorem dX12_count_64 : decode cX12_count 64 = .ok (.iload_n 1, 1) := by decide +kernel
theorem dX12_count_65 : decode cX12_count 65 = .ok (.iaload, 1) := by decide +kernel
theorem dX12_count_66 : decode cX12_count 66 = .ok (.ireturn, 1) := by decide +kernel
theorem dX12_count_67 : decode cX12_count 67 = .ok (.aload_n 0, 1) := by decide +kernel
theorem dX12_count_68 : decode cX12_count 68 = .ok (.bipush 8, 2) := by decide +kernel
theorem dX12_count_70 : decode cX12_count 70 = .ok (.bipush 16, 2) := by decide +kernel
theorem dX12_count_72 : decode cX12_count 72 = .ok (.iconst 1, 1) := by decide +kernel
theorem dX12_count_73 : decode cX12_count 73 = .ok (.invokevirtual 279, 3) := by decide +kernel
theorem dX12_count_76 : decode cX12_count 76 = .ok (.ireturn, 1) := by decide +kernel
theorem dX12_count_77 : decode cX12_count 77 = .ok (.aload_n 0, 1) := by decide +kernel
theorem dX12_count_78 : decode cX12_count 78 = .ok (.bipush 45, 2) := by decide +kernel
theorem dX12_count_80 : decode cX12_count 80 = .ok (.aload_n 0, 1) := by decide +kernel
theorem dX12_count_81 : decode cX12_count 81 = .ok (.getfield 7, 3) := by decide +kernel
theorem dX12_count_84 : decode cX12_count 84 = .ok (.iconst 0, 1) := by decide +kernel
theorem dX12_count_85 : decode cX12_count 85 = .ok (.iaload, 1) := by decide +kernel
theorem dX12_count_86 : decode cX12_count 86 = .ok (.bipush 6, 2) := by decide +kernel
theorem dX12_count_88 : decode cX12_count 88 = .ok (.invokevirtual 279, 3) := by decide +kernel
theorem dX12_count_91 : decode cX12_count 91 = .ok (.ireturn, 1) := by decide +kernel
theorem dX12_count_92 : decode cX12_count 92 = .ok (.aload_n 0, 1) := by decide +kernel
theorem dX12_count_93 : decode cX12_count 93 = .ok (.getfield 7, 3) := by decide +kernel
theorem dX12_count_96 : decode cX12_count 96 = .ok (.bipush 6, 2) := by decide +kernel
theorem dX12_count_98 : decode cX12_count 98 = .ok (.iaload, 1) := by decide +kernel
theorem dX12_count_99 : decode cX12_count 99 = .ok (.ireturn, 1) := by decide +kernel
theorem dX12_count_100 : decode cX12_count 100 = .ok (.aload_n 0, 1) := by decide +kernel
theorem dX12_count_101 : decode cX12_count 101 = .ok (.getfield 7, 3) := by decide +kernel
theorem dX12_count_104 : decode cX12_count 104 = .ok (.bipush 7, 2) := by decide +kernel
theorem dX12_count_106 : decode cX12_count 106 = .ok (.iaload, 1) := by decide +kernel
theorem dX12_count_107 : decode cX12_count 107 = .ok (.ireturn, 1) := by decide +kernel
theorem dX12_count_108 : decode cX12_count 108 = .ok (.aload_n 0, 1) := by decide +kernel
theorem dX12_count_109 : decode cX12_count 109 = .ok (.getfield 255, 3) := by decide +kernel
theorem dX12_count_112 : decode cX12_count 112 = .ok (.ireturn, 1) := by decide +kernel
theorem dX12_count_113 : decode cX12_count 113 = .ok (.aload_n 0, 1) := by decide +kernel
theorem dX12_count_114 : decode cX12_count 114 = .ok (.getfield 7, 3) := by decide +kernel
theorem dX12_count_117 : decode cX12_count 117 = .ok (.iconst 5, 1) := by decide +kernel
theorem dX12_count_118 : decode cX12_count 118 = .ok (.iaload, 1) := by decide +kernel
theorem dX12_count_119 : decode cX12_count 119 = .ok (.ireturn, 1) := by decide +kernel
theorem dX12_count_120 : decode cX12_count 120 = .ok (.aload_n 0, 1) := by decide +kernel
theorem dX12_count_121 : decode cX12_count 121 = .ok (.iconst 1, 1) := by decide +kernel
theorem dX12_count_122 : decode cX12_count 122 = .ok (.invokevirtual 126, 3) := by decide +kernel
theorem dX12_count_125 : decode cX12_count 125 = .ok (.ireturn, 1) := by decide +kernel
theorem dX12_told_0 : decode cX12_told 0 = .ok (.iload_n 1, 1) := by decide +kernel
theorem dX12_told_1 : decode cX12_told 1 = .ok (.i2l, 1) := by decide +kernel
theorem dX12_told_2 : decode cX12_told 2 = .ok (.lconst 1, 1) := by decide +kernel
theorem dX12_told_3 : decode cX12_told 3 = .ok (.ldc2_w 282, 3) := by decide +kernel
theorem dX12_told_6 : decode cX12_told 6 = .ok (.invokestatic 47, 3) := by decide +kernel
theorem dX12_told_9 : decode cX12_told 9 = .ok (.ifCond .eq 12, 3) := by decide +kernel
theorem dX12_told_12 : decode cX12_told 12 = .ok (.aload_n 0, 1) := by decide +kernel
theorem dX12_told_13 : decode cX12_told 13 = .ok (.getfield 19, 3) := by decide +kernel
theorem dX12_told_16 : decode cX12_told 16 = .ok (.iload_n 1, 1) := by decide +kernel
theorem dX12_told_17 : decode cX12_told 17 = .ok (.iaload, 1) := by decide +kernel
theorem dX12_told_18 : decode cX12_told 18 = .ok (.goto 8, 3) := by decide +kernel
theorem dX12_told_21 : decode cX12_told 21 = .ok (.aload_n 0, 1) := by decide +kernel
theorem dX12_told_22 : decode cX12_told 22 = .ok (.iconst 1, 1) := by decide +kernel
theorem dX12_told_23 : decode cX12_told 23 = .ok (.invokevirtual 126, 3) := by decide +kernel
theorem dX12_told_26 : decode cX12_told 26 = .ok (.ireturn, 1) := by decide +kernel
end
section
theorem dL_law_0 : decode cL_law 0 = .ok (.new 7, 3) := by decide +kernel
theorem dL_law_3 : decode cL_law 3 = .ok (.dup, 1) := by decide +kernel
theorem dL_law_4 : decode cL_law 4 = .ok (.invokespecial 9, 3) := by decide +kernel
theorem dL_law_7 : decode cL_law 7 = .ok (.astore_n 1, 1) := by decide +kernel
theorem dL_law_8 : decode cL_law 8 = .ok (.new 10, 3) := by decide +kernel
theorem dL_law_11 : decode cL_law 11 = .ok (.dup, 1) := by decide +kernel
theorem dL_law_12 : decode cL_law 12 = .ok (.invokespecial 12, 3) := by decide +kernel
theorem dL_law_15 : decode cL_law 15 = .ok (.astore_n 2, 1) := by decide +kernel
theorem dL_law_16 : decode cL_law 16 = .ok (.iconst 0, 1) := by decide +kernel
theorem dL_law_17 : decode cL_law 17 = .ok (.istore_n 3, 1) := by decide +kernel
theorem dL_law_18 : decode cL_law 18 = .ok (.iload_n 3, 1) := by decide +kernel
theorem dL_law_19 : decode cL_law 19 = .ok (.aload_n 0, 1) := by decide +kernel
theorem dL_law_20 : decode cL_law 20 = .ok (.arraylength, 1) := by decide +kernel
theorem dL_law_21 : decode cL_law 21 = .ok (.bipush 6, 2) := by decide +kernel
theorem dL_law_23 : decode cL_law 23 = .ok (.isub, 1) := by decide +kernel
theorem dL_law_24 : decode cL_law 24 = .ok (.if_icmp .gt 1601, 3) := by decide +kernel
theorem dL_law_27 : decode cL_law 27 = .ok (.aload_n 0, 1) := by decide +kernel
theorem dL_law_28 : decode cL_law 28 = .ok (.iload_n 3, 1) := by decide +kernel
theorem dL_law_29 : decode cL_law 29 = .ok (.iaload, 1) := by decide +kernel
theorem dL_law_30 : decode cL_law 30 = .ok (.bipush 63, 2) := by decide +kernel
theorem dL_law_32 : decode cL_law 32 = .ok (.iand, 1) := by decide +kernel
theorem dL_law_33 : decode cL_law 33 = .ok (.tableswitch 1586 0 42 #[187, 230, 263, 296, 339, 372, 415, 448, 481, 544, 567, 620, 643, 666, 699, 732, 765, 798, 841, 874, 907, 930, 973, 1006, 1049, 1072, 1105, 1128, 1151, 1194, 1217, 1260, 1283, 1326, 1369, 1432, 1455, 1478, 1491, 1504, 1527, 1540, 1563], 187) := by decide +kernel
theorem dL_law_220 : decode cL_law 220 = .ok (.aload_n 1, 1) := by decide +kernel
theorem dL_law_221 : decode cL_law 221 = .ok (.aload_n 0, 1) := by decide +kernel
theorem dL_law_222 : decode cL_law 222 = .ok (.iload_n 3, 1) := by decide +kernel
theorem dL_law_223 : decode cL_law 223 = .ok (.iconst 1, 1) := by decide +kernel
theorem dL_law_224 : decode cL_law 224 = .ok (.iadd, 1) := by decide +kernel
theorem dL_law_225 : decode cL_law 225 = .ok (.iaload, 1) := by decide +kernel
theorem dL_law_226 : decode cL_law 226 = .ok (.aload_n 0, 1) := by decide +kernel
theorem dL_law_227 : decode cL_law 227 = .ok (.iload_n 3, 1) := by decide +kernel
theorem dL_law_228 : decode cL_law 228 = .ok (.iconst 2, 1) := by decide +kernel
theorem dL_law_229 : decode cL_law 229 = .ok (.iadd, 1) := by decide +kernel
theorem dL_law_230 : decode cL_law 230 = .ok (.iaload, 1) := by decide +kernel
theorem dL_law_231 : decode cL_law 231 = .ok (.aload_n 0, 1) := by decide +kernel
theorem dL_law_232 : decode cL_law 232 = .ok (.iload_n 3, 1) := by decide +kernel
theorem dL_law_233 : decode cL_law 233 = .ok (.iconst 3, 1) := by decide +kernel
theorem dL_law_234 : decode cL_law 234 = .ok (.iadd, 1) := by decide +kernel
theorem dL_law_235 : decode cL_law 235 = .ok (.iaload, 1) := by decide +kernel
theorem dL_law_236 : decode cL_law 236 = .ok (.invokevirtual 13, 3) := by decide +kernel
theorem dL_law_239 : decode cL_law 239 = .ok (.aload_n 2, 1) := by decide +kernel
theorem dL_law_240 : decode cL_law 240 = .ok (.aload_n 0, 1) := by decide +kernel
theorem dL_law_241 : decode cL_law 241 = .ok (.iload_n 3, 1) := by decide +kernel
theorem dL_law_242 : decode cL_law 242 = .ok (.iconst 1, 1) := by decide +kernel
theorem dL_law_243 : decode cL_law 243 = .ok (.iadd, 1) := by decide +kernel
theorem dL_law_244 : decode cL_law 244 = .ok (.iaload, 1) := by decide +kernel
theorem dL_law_245 : decode cL_law 245 = .ok (.aload_n 0, 1) := by decide +kernel
theorem dL_law_246 : decode cL_law 246 = .ok (.iload_n 3, 1) := by decide +kernel
theorem dL_law_247 : decode cL_law 247 = .ok (.iconst 2, 1) := by decide +kernel
theorem dL_law_248 : decode cL_law 248 = .ok (.iadd, 1) := by decide +kernel
theorem dL_law_249 : decode cL_law 249 = .ok (.iaload, 1) := by decide +kernel
theorem dL_law_250 : decode cL_law 250 = .ok (.aload_n 0, 1) := by decide +kernel
theorem dL_law_251 : decode cL_law 251 = .ok (.iload_n 3, 1) := by decide +kernel
theorem dL_law_252 : decode cL_law 252 = .ok (.iconst 3, 1) := by decide +kernel
theorem dL_law_253 : decode cL_law 253 = .ok (.iadd, 1) := by decide +kernel
theorem dL_law_254 : decode cL_law 254 = .ok (.iaload, 1) := by decide +kernel
theorem dL_law_255 : decode cL_law 255 = .ok (.invokevirtual 17, 3) := by decide +kernel
theorem dL_law_258 : decode cL_law 258 = .ok (.if_icmp .eq 1361, 3) := by decide +kernel
theorem dL_law_261 : decode cL_law 261 = .ok (.iconst 0, 1) := by decide +kernel
theorem dL_law_262 : decode cL_law 262 = .ok (.ireturn, 1) := by decide +kernel
theorem dL_law_263 : decode cL_law 263 = .ok (.aload_n 1, 1) := by decide +kernel
theorem dL_law_264 : decode cL_law 264 = .ok (.aload_n 0, 1) := by decide +kernel
theorem dL_law_265 : decode cL_law 265 = .ok (.iload_n 3, 1) := by decide +kernel
theorem dL_law_266 : decode cL_law 266 = .ok (.iconst 1, 1) := by decide +kernel
theorem dL_law_267 : decode cL_law 267 = .ok (.iadd, 1) := by decide +kernel
theorem dL_law_268 : decode cL_law 268 = .ok (.iaload, 1) := by decide +kernel
theorem dL_law_269 : decode cL_law 269 = .ok (.aload_n 0, 1) := by decide +kernel
theorem dL_law_270 : decode cL_law 270 = .ok (.iload_n 3, 1) := by decide +kernel
theorem dL_law_271 : decode cL_law 271 = .ok (.iconst 2, 1) := by decide +kernel
theorem dL_law_272 : decode cL_law 272 = .ok (.iadd, 1) := by decide +kernel
theorem dL_law_273 : decode cL_law 273 = .ok (.iaload, 1) := by decide +kernel
theorem dL_law_274 : decode cL_law 274 = .ok (.invokevirtual 18, 3) := by decide +kernel
theorem dL_law_277 : decode cL_law 277 = .ok (.aload_n 2, 1) := by decide +kernel
theorem dL_law_278 : decode cL_law 278 = .ok (.aload_n 0, 1) := by decide +kernel
theorem dL_law_279 : decode cL_law 279 = .ok (.iload_n 3, 1) := by decide +kernel
theorem dL_law_280 : decode cL_law 280 = .ok (.iconst 1, 1) := by decide +kernel
theorem dL_law_281 : decode cL_law 281 = .ok (.iadd, 1) := by decide +kernel
theorem dL_law_282 : decode cL_law 282 = .ok (.iaload, 1) := by decide +kernel
theorem dL_law_283 : decode cL_law 283 = .ok (.aload_n 0, 1) := by decide +kernel
theorem dL_law_284 : decode cL_law 284 = .ok (.iload_n 3, 1) := by decide +kernel
theorem dL_law_285 : decode cL_law 285 = .ok (.iconst 2, 1) := by decide +kernel
theorem dL_law_286 : decode cL_law 286 = .ok (.iadd, 1) := by decide +kernel
theorem dL_law_287 : decode cL_law 287 = .ok (.iaload, 1) := by decide +kernel
theorem dL_law_288 : decode cL_law 288 = .ok (.invokevirtual 22, 3) := by decide +kernel
theorem dL_law_291 : decode cL_law 291 = .ok (.if_icmp .eq 1328, 3) := by decide +kernel
theorem dL_law_294 : decode cL_law 294 = .ok (.iconst 0, 1) := by decide +kernel
theorem dL_law_295 : decode cL_law 295 = .ok (.ireturn, 1) := by decide +kernel
theorem dL_law_296 : decode cL_law 296 = .ok (.aload_n 1, 1) := by decide +kernel
theorem dL_law_297 : decode cL_law 297 = .ok (.aload_n 0, 1) := by decide +kernel
theorem dL_law_298 : decode cL_law 298 = .ok (.iload_n 3, 1) := by decide +kernel
theorem dL_law_299 : decode cL_law 299 = .ok (.iconst 1, 1) := by decide +kernel
theorem dL_law_300 : decode cL_law 300 = .ok (.iadd, 1) := by decide +kernel
theorem dL_law_301 : decode cL_law 301 = .ok (.iaload, 1) := by decide +kernel
theorem dL_law_302 : decode cL_law 302 = .ok (.aload_n 0, 1) := by decide +kernel
theorem dL_law_303 : decode cL_law 303 = .ok (.iload_n 3, 1) := by decide +kernel
theorem dL_law_304 : decode cL_law 304 = .ok (.iconst 2, 1) := by decide +kernel
theorem dL_law_305 : decode cL_law 305 = .ok (.iadd, 1) := by decide +kernel
theorem dL_law_306 : decode cL_law 306 = .ok (.iaload, 1) := by decide +kernel
theorem dL_law_307 : decode cL_law 307 = .ok (.invokevirtual 23, 3) := by decide +kernel
theorem dL_law_310 : decode cL_law 310 = .ok (.aload_n 2, 1) := by decide +kernel
theorem dL_law_311 : decode cL_law 311 = .ok (.aload_n 0, 1) := by decide +kernel
theorem dL_law_312 : decode cL_law 312 = .ok (.iload_n 3, 1) := by decide +kernel
theorem dL_law_313 : decode cL_law 313 = .ok (.iconst 1, 1) := by decide +kernel
theorem dL_law_314 : decode cL_law 314 = .ok (.iadd, 1) := by decide +kernel
theorem dL_law_315 : decode cL_law 315 = .ok (.iaload, 1) := by decide +kernel
theorem dL_law_316 : decode cL_law 316 = .ok (.aload_n 0, 1) := by decide +kernel
theorem dL_law_317 : decode cL_law 317 = .ok (.iload_n 3, 1) := by decide +kernel
theorem dL_law_318 : decode cL_law 318 = .ok (.iconst 2, 1) := by decide +kernel
theorem dL_law_319 : decode cL_law 319 = .ok (.iadd, 1) := by decide +kernel
theorem dL_law_320 : decode cL_law 320 = .ok (.iaload, 1) := by decide +kernel
theorem dL_law_321 : decode cL_law 321 = .ok (.invokevirtual 26, 3) := by decide +kernel
theorem dL_law_324 : decode cL_law 324 = .ok (.if_icmp .eq 1295, 3) := by decide +kernel
theorem dL_law_327 : decode cL_law 327 = .ok (.iconst 0, 1) := by decide +kernel
theorem dL_law_328 : decode cL_law 328 = .ok (.ireturn, 1) := by decide +kernel
theorem dL_law_329 : decode cL_law 329 = .ok (.aload_n 1, 1) := by decide +kernel
theorem dL_law_330 : decode cL_law 330 = .ok (.aload_n 0, 1) := by decide +kernel
theorem dL_law_331 : decode cL_law 331 = .ok (.iload_n 3, 1) := by decide +kernel
theorem dL_law_332 : decode cL_law 332 = .ok (.iconst 1, 1) := by decide +kernel
theorem dL_law_333 : decode cL_law 333 = .ok (.iadd, 1) := by decide +kernel
theorem dL_law_334 : decode cL_law 334 = .ok (.iaload, 1) := by decide +kernel
theorem dL_law_335 : decode cL_law 335 = .ok (.aload_n 0, 1) := by decide +kernel
theorem dL_law_336 : decode cL_law 336 = .ok (.iload_n 3, 1) := by decide +kernel
theorem dL_law_337 : decode cL_law 337 = .ok (.iconst 2, 1) := by decide +kernel
theorem dL_law_338 : decode cL_law 338 = .ok (.iadd, 1) := by decide +kernel
theorem dL_law_339 : decode cL_law 339 = .ok (.iaload, 1) := by decide +kernel
theorem dL_law_340 : decode cL_law 340 = .ok (.aload_n 0, 1) := by decide +kernel
theorem dL_law_341 : decode cL_law 341 = .ok (.iload_n 3, 1) := by decide +kernel
theorem dL_law_342 : decode cL_law 342 = .ok (.iconst 3, 1) := by decide +kernel
theorem dL_law_343 : decode cL_law 343 = .ok (.iadd, 1) := by decide +kernel
theorem dL_law_344 : decode cL_law 344 = .ok (.iaload, 1) := by decide +kernel
theorem dL_law_345 : decode cL_law 345 = .ok (.invokevirtual 27, 3) := by decide +kernel
theorem dL_law_348 : decode cL_law 348 = .ok (.aload_n 2, 1) := by decide +kernel
theorem dL_law_349 : decode cL_law 349 = .ok (.aload_n 0, 1) := by decide +kernel
theorem dL_law_350 : decode cL_law 350 = .ok (.iload_n 3, 1) := by decide +kernel
theorem dL_law_351 : decode cL_law 351 = .ok (.iconst 1, 1) := by decide +kernel
theorem dL_law_352 : decode cL_law 352 = .ok (.iadd, 1) := by decide +kernel
theorem dL_law_353 : decode cL_law 353 = .ok (.iaload, 1) := by decide +kernel
theorem dL_law_354 : decode cL_law 354 = .ok (.aload_n 0, 1) := by decide +kernel
theorem dL_law_355 : decode cL_law 355 = .ok (.iload_n 3, 1) := by decide +kernel
theorem dL_law_356 : decode cL_law 356 = .ok (.iconst 2, 1) := by decide +kernel
theorem dL_law_357 : decode cL_law 357 = .ok (.iadd, 1) := by decide +kernel
theorem dL_law_358 : decode cL_law 358 = .ok (.iaload, 1) := by decide +kernel
theorem dL_law_359 : decode cL_law 359 = .ok (.aload_n 0, 1) := by decide +kernel
theorem dL_law_360 : decode cL_law 360 = .ok (.iload_n 3, 1) := by decide +kernel
theorem dL_law_361 : decode cL_law 361 = .ok (.iconst 3, 1) := by decide +kernel
theorem dL_law_362 : decode cL_law 362 = .ok (.iadd, 1) := by decide +kernel
theorem dL_law_363 : decode cL_law 363 = .ok (.iaload, 1) := by decide +kernel
theorem dL_law_364 : decode cL_law 364 = .ok (.invokevirtual 30, 3) := by decide +kernel
theorem dL_law_367 : decode cL_law 367 = .ok (.if_icmp .eq 1252, 3) := by decide +kernel
theorem dL_law_370 : decode cL_law 370 = .ok (.iconst 0, 1) := by decide +kernel
theorem dL_law_371 : decode cL_law 371 = .ok (.ireturn, 1) := by decide +kernel
theorem dL_law_372 : decode cL_law 372 = .ok (.aload_n 1, 1) := by decide +kernel
theorem dL_law_373 : decode cL_law 373 = .ok (.aload_n 0, 1) := by decide +kernel
theorem dL_law_374 : decode cL_law 374 = .ok (.iload_n 3, 1) := by decide +kernel
theorem dL_law_375 : decode cL_law 375 = .ok (.iconst 1, 1) := by decide +kernel
theorem dL_law_376 : decode cL_law 376 = .ok (.iadd, 1) := by decide +kernel
theorem dL_law_377 : decode cL_law 377 = .ok (.iaload, 1) := by decide +kernel
theorem dL_law_378 : decode cL_law 378 = .ok (.aload_n 0, 1) := by decide +kernel
theorem dL_law_379 : decode cL_law 379 = .ok (.iload_n 3, 1) := by decide +kernel
theorem dL_law_380 : decode cL_law 380 = .ok (.iconst 2, 1) := by decide +kernel
theorem dL_law_381 : decode cL_law 381 = .ok (.iadd, 1) := by decide +kernel
theorem dL_law_382 : decode cL_law 382 = .ok (.iaload, 1) := by decide +kernel
theorem dL_law_383 : decode cL_law 383 = .ok (.invokevirtual 31, 3) := by decide +kernel
theorem dL_law_386 : decode cL_law 386 = .ok (.aload_n 2, 1) := by decide +kernel
theorem dL_law_387 : decode cL_law 387 = .ok (.aload_n 0, 1) := by decide +kernel
theorem dL_law_388 : decode cL_law 388 = .ok (.iload_n 3, 1) := by decide +kernel
theorem dL_law_389 : decode cL_law 389 = .ok (.iconst 1, 1) := by decide +kernel
theorem dL_law_390 : decode cL_law 390 = .ok (.iadd, 1) := by decide +kernel
theorem dL_law_391 : decode cL_law 391 = .ok (.iaload, 1) := by decide +kernel
theorem dL_law_392 : decode cL_law 392 = .ok (.aload_n 0, 1) := by decide +kernel
theorem dL_law_393 : decode cL_law 393 = .ok (.iload_n 3, 1) := by decide +kernel
theorem dL_law_394 : decode cL_law 394 = .ok (.iconst 2, 1) := by decide +kernel
theorem dL_law_395 : decode cL_law 395 = .ok (.iadd, 1) := by decide +kernel
theorem dL_law_396 : decode cL_law 396 = .ok (.iaload, 1) := by decide +kernel
theorem dL_law_397 : decode cL_law 397 = .ok (.invokevirtual 34, 3) := by decide +kernel
theorem dL_law_400 : decode cL_law 400 = .ok (.if_icmp .eq 1219, 3) := by decide +kernel
theorem dL_law_403 : decode cL_law 403 = .ok (.iconst 0, 1) := by decide +kernel
theorem dL_law_404 : decode cL_law 404 = .ok (.ireturn, 1) := by decide +kernel
theorem dL_law_405 : decode cL_law 405 = .ok (.aload_n 1, 1) := by decide +kernel
theorem dL_law_406 : decode cL_law 406 = .ok (.aload_n 0, 1) := by decide +kernel
theorem dL_law_407 : decode cL_law 407 = .ok (.iload_n 3, 1) := by decide +kernel
theorem dL_law_408 : decode cL_law 408 = .ok (.iconst 1, 1) := by decide +kernel
theorem dL_law_409 : decode cL_law 409 = .ok (.iadd, 1) := by decide +kernel
theorem dL_law_410 : decode cL_law 410 = .ok (.iaload, 1) := by decide +kernel
theorem dL_law_411 : decode cL_law 411 = .ok (.aload_n 0, 1) := by decide +kernel
theorem dL_law_412 : decode cL_law 412 = .ok (.iload_n 3, 1) := by decide +kernel
theorem dL_law_413 : decode cL_law 413 = .ok (.iconst 2, 1) := by decide +kernel
theorem dL_law_414 : decode cL_law 414 = .ok (.iadd, 1) := by decide +kernel
theorem dL_law_415 : decode cL_law 415 = .ok (.iaload, 1) := by decide +kernel
theorem dL_law_416 : decode cL_law 416 = .ok (.aload_n 0, 1) := by decide +kernel
theorem dL_law_417 : decode cL_law 417 = .ok (.iload_n 3, 1) := by decide +kernel
theorem dL_law_418 : decode cL_law 418 = .ok (.iconst 3, 1) := by decide +kernel
theorem dL_law_419 : decode cL_law 419 = .ok (.iadd, 1) := by decide +kernel
theorem dL_law_420 : decode cL_law 420 = .ok (.iaload, 1) := by decide +kernel
theorem dL_law_421 : decode cL_law 421 = .ok (.invokevirtual 35, 3) := by decide +kernel
theorem dL_law_424 : decode cL_law 424 = .ok (.aload_n 2, 1) := by decide +kernel
theorem dL_law_425 : decode cL_law 425 = .ok (.aload_n 0, 1) := by decide +kernel
theorem dL_law_426 : decode cL_law 426 = .ok (.iload_n 3, 1) := by decide +kernel
theorem dL_law_427 : decode cL_law 427 = .ok (.iconst 1, 1) := by decide +kernel
theorem dL_law_428 : decode cL_law 428 = .ok (.iadd, 1) := by decide +kernel
theorem dL_law_429 : decode cL_law 429 = .ok (.iaload, 1) := by decide +kernel
theorem dL_law_430 : decode cL_law 430 = .ok (.aload_n 0, 1) := by decide +kernel
theorem dL_law_431 : decode cL_law 431 = .ok (.iload_n 3, 1) := by decide +kernel
theorem dL_law_432 : decode cL_law 432 = .ok (.iconst 2, 1) := by decide +kernel
theorem dL_law_433 : decode cL_law 433 = .ok (.iadd, 1) := by decide +kernel
theorem dL_law_434 : decode cL_law 434 = .ok (.iaload, 1) := by decide +kernel
theorem dL_law_435 : decode cL_law 435 = .ok (.aload_n 0, 1) := by decide +kernel
theorem dL_law_436 : decode cL_law 436 = .ok (.iload_n 3, 1) := by decide +kernel
theorem dL_law_437 : decode cL_law 437 = .ok (.iconst 3, 1) := by decide +kernel
theorem dL_law_438 : decode cL_law 438 = .ok (.iadd, 1) := by decide +kernel
theorem dL_law_439 : decode cL_law 439 = .ok (.iaload, 1) := by decide +kernel
theorem dL_law_440 : decode cL_law 440 = .ok (.invokevirtual 38, 3) := by decide +kernel
theorem dL_law_443 : decode cL_law 443 = .ok (.if_icmp .eq 1176, 3) := by decide +kernel
theorem dL_law_446 : decode cL_law 446 = .ok (.iconst 0, 1) := by decide +kernel
theorem dL_law_447 : decode cL_law 447 = .ok (.ireturn, 1) := by decide +kernel
theorem dL_law_448 : decode cL_law 448 = .ok (.aload_n 1, 1) := by decide +kernel
theorem dL_law_449 : decode cL_law 449 = .ok (.aload_n 0, 1) := by decide +kernel
theorem dL_law_450 : decode cL_law 450 = .ok (.iload_n 3, 1) := by decide +kernel
theorem dL_law_451 : decode cL_law 451 = .ok (.iconst 1, 1) := by decide +kernel
theorem dL_law_452 : decode cL_law 452 = .ok (.iadd, 1) := by decide +kernel
theorem dL_law_453 : decode cL_law 453 = .ok (.iaload, 1) := by decide +kernel
theorem dL_law_454 : decode cL_law 454 = .ok (.aload_n 0, 1) := by decide +kernel
theorem dL_law_455 : decode cL_law 455 = .ok (.iload_n 3, 1) := by decide +kernel
theorem dL_law_456 : decode cL_law 456 = .ok (.iconst 2, 1) := by decide +kernel
theorem dL_law_457 : decode cL_law 457 = .ok (.iadd, 1) := by decide +kernel
theorem dL_law_458 : decode cL_law 458 = .ok (.iaload, 1) := by decide +kernel
theorem dL_law_459 : decode cL_law 459 = .ok (.invokevirtual 39, 3) := by decide +kernel
theorem dL_law_462 : decode cL_law 462 = .ok (.aload_n 2, 1) := by decide +kernel
theorem dL_law_463 : decode cL_law 463 = .ok (.aload_n 0, 1) := by decide +kernel
theorem dL_law_464 : decode cL_law 464 = .ok (.iload_n 3, 1) := by decide +kernel
theorem dL_law_465 : decode cL_law 465 = .ok (.iconst 1, 1) := by decide +kernel
theorem dL_law_466 : decode cL_law 466 = .ok (.iadd, 1) := by decide +kernel
theorem dL_law_467 : decode cL_law 467 = .ok (.iaload, 1) := by decide +kernel
theorem dL_law_468 : decode cL_law 468 = .ok (.aload_n 0, 1) := by decide +kernel
theorem dL_law_469 : decode cL_law 469 = .ok (.iload_n 3, 1) := by decide +kernel
theorem dL_law_470 : decode cL_law 470 = .ok (.iconst 2, 1) := by decide +kernel
theorem dL_law_471 : decode cL_law 471 = .ok (.iadd, 1) := by decide +kernel
theorem dL_law_472 : decode cL_law 472 = .ok (.iaload, 1) := by decide +kernel
theorem dL_law_473 : decode cL_law 473 = .ok (.invokevirtual 42, 3) := by decide +kernel
theorem dL_law_476 : decode cL_law 476 = .ok (.if_icmp .eq 1143, 3) := by decide +kernel
theorem dL_law_479 : decode cL_law 479 = .ok (.iconst 0, 1) := by decide +kernel
theorem dL_law_480 : decode cL_law 480 = .ok (.ireturn, 1) := by decide +kernel
theorem dL_law_481 : decode cL_law 481 = .ok (.aload_n 1, 1) := by decide +kernel
theorem dL_law_482 : decode cL_law 482 = .ok (.aload_n 0, 1) := by decide +kernel
theorem dL_law_483 : decode cL_law 483 = .ok (.iload_n 3, 1) := by decide +kernel
theorem dL_law_484 : decode cL_law 484 = .ok (.iconst 1, 1) := by decide +kernel
theorem dL_law_485 : decode cL_law 485 = .ok (.iadd, 1) := by decide +kernel
theorem dL_law_486 : decode cL_law 486 = .ok (.iaload, 1) := by decide +kernel
theorem dL_law_487 : decode cL_law 487 = .ok (.aload_n 0, 1) := by decide +kernel
theorem dL_law_488 : decode cL_law 488 = .ok (.iload_n 3, 1) := by decide +kernel
theorem dL_law_489 : decode cL_law 489 = .ok (.iconst 2, 1) := by decide +kernel
theorem dL_law_490 : decode cL_law 490 = .ok (.iadd, 1) := by decide +kernel
theorem dL_law_491 : decode cL_law 491 = .ok (.iaload, 1) := by decide +kernel
theorem dL_law_492 : decode cL_law 492 = .ok (.invokevirtual 43, 3) := by decide +kernel
theorem dL_law_495 : decode cL_law 495 = .ok (.aload_n 2, 1) := by decide +kernel
theorem dL_law_496 : decode cL_law 496 = .ok (.aload_n 0, 1) := by decide +kernel
theorem dL_law_497 : decode cL_law 497 = .ok (.iload_n 3, 1) := by decide +kernel
theorem dL_law_498 : decode cL_law 498 = .ok (.iconst 1, 1) := by decide +kernel
theorem dL_law_499 : decode cL_law 499 = .ok (.iadd, 1) := by decide +kernel
theorem dL_law_500 : decode cL_law 500 = .ok (.iaload, 1) := by decide +kernel
theorem dL_law_501 : decode cL_law 501 = .ok (.aload_n 0, 1) := by decide +kernel
theorem dL_law_502 : decode cL_law 502 = .ok (.iload_n 3, 1) := by decide +kernel
theorem dL_law_503 : decode cL_law 503 = .ok (.iconst 2, 1) := by decide +kernel
theorem dL_law_504 : decode cL_law 504 = .ok (.iadd, 1) := by decide +kernel
theorem dL_law_505 : decode cL_law 505 = .ok (.iaload, 1) := by decide +kernel
theorem dL_law_506 : decode cL_law 506 = .ok (.invokevirtual 46, 3) := by decide +kernel
theorem dL_law_509 : decode cL_law 509 = .ok (.if_icmp .eq 1110, 3) := by decide +kernel
theorem dL_law_512 : decode cL_law 512 = .ok (.iconst 0, 1) := by decide +kernel
theorem dL_law_513 : decode cL_law 513 = .ok (.ireturn, 1) := by decide +kernel
theorem dL_law_514 : decode cL_law 514 = .ok (.aload_n 1, 1) := by decide +kernel
theorem dL_law_515 : decode cL_law 515 = .ok (.aload_n 0, 1) := by decide +kernel
theorem dL_law_516 : decode cL_law 516 = .ok (.iload_n 3, 1) := by decide +kernel
theorem dL_law_517 : decode cL_law 517 = .ok (.iconst 1, 1) := by decide +kernel
theorem dL_law_518 : decode cL_law 518 = .ok (.iadd, 1) := by decide +kernel
theorem dL_law_519 : decode cL_law 519 = .ok (.iaload, 1) := by decide +kernel
theorem dL_law_520 : decode cL_law 520 = .ok (.i2l, 1) := by decide +kernel
theorem dL_law_521 : decode cL_law 521 = .ok (.bipush 32, 2) := by decide +kernel
theorem dL_law_523 : decode cL_law 523 = .ok (.lshl, 1) := by decide +kernel
theorem dL_law_524 : decode cL_law 524 = .ok (.aload_n 0, 1) := by decide +kernel
theorem dL_law_525 : decode cL_law 525 = .ok (.iload_n 3, 1) := by decide +kernel
theorem dL_law_526 : decode cL_law 526 = .ok (.iconst 2, 1) := by decide +kernel
theorem dL_law_527 : decode cL_law 527 = .ok (.iadd, 1) := by decide +kernel
theorem dL_law_528 : decode cL_law 528 = .ok (.iaload, 1) := by decide +kernel
theorem dL_law_529 : decode cL_law 529 = .ok (.i2l, 1) := by decide +kernel
theorem dL_law_530 : decode cL_law 530 = .ok (.ldc2_w 47, 3) := by decide +kernel
theorem dL_law_533 : decode cL_law 533 = .ok (.land, 1) := by decide +kernel
theorem dL_law_534 : decode cL_law 534 = .ok (.lor, 1) := by decide +kernel
theorem dL_law_535 : decode cL_law 535 = .ok (.aload_n 0, 1) := by decide +kernel
theorem dL_law_536 : decode cL_law 536 = .ok (.iload_n 3, 1) := by decide +kernel
theorem dL_law_537 : decode cL_law 537 = .ok (.iconst 3, 1) := by decide +kernel
theorem dL_law_538 : decode cL_law 538 = .ok (.iadd, 1) := by decide +kernel
theorem dL_law_539 : decode cL_law 539 = .ok (.iaload, 1) := by decide +kernel
theorem dL_law_540 : decode cL_law 540 = .ok (.invokevirtual 49, 3) := by decide +kernel
theorem dL_law_543 : decode cL_law 543 = .ok (.aload_n 2, 1) := by decide +kernel
theorem dL_law_544 : decode cL_law 544 = .ok (.aload_n 0, 1) := by decide +kernel
theorem dL_law_545 : decode cL_law 545 = .ok (.iload_n 3, 1) := by decide +kernel
theorem dL_law_546 : decode cL_law 546 = .ok (.iconst 1, 1) := by decide +kernel
theorem dL_law_547 : decode cL_law 547 = .ok (.iadd, 1) := by decide +kernel
theorem dL_law_548 : decode cL_law 548 = .ok (.iaload, 1) := by decide +kernel
theorem dL_law_549 : decode cL_law 549 = .ok (.i2l, 1) := by decide +kernel
theorem dL_law_550 : decode cL_law 550 = .ok (.bipush 32, 2) := by decide +kernel
theorem dL_law_552 : decode cL_law 552 = .ok (.lshl, 1) := by decide +kernel
theorem dL_law_553 : decode cL_law 553 = .ok (.aload_n 0, 1) := by decide +kernel
theorem dL_law_554 : decode cL_law 554 = .ok (.iload_n 3, 1) := by decide +kernel
theorem dL_law_555 : decode cL_law 555 = .ok (.iconst 2, 1) := by decide +kernel
theorem dL_law_556 : decode cL_law 556 = .ok (.iadd, 1) := by decide +kernel
theorem dL_law_557 : decode cL_law 557 = .ok (.iaload, 1) := by decide +kernel
theorem dL_law_558 : decode cL_law 558 = .ok (.i2l, 1) := by decide +kernel
theorem dL_law_559 : decode cL_law 559 = .ok (.ldc2_w 47, 3) := by decide +kernel
theorem dL_law_562 : decode cL_law 562 = .ok (.land, 1) := by decide +kernel
theorem dL_law_563 : decode cL_law 563 = .ok (.lor, 1) := by decide +kernel
theorem dL_law_564 : decode cL_law 564 = .ok (.aload_n 0, 1) := by decide +kernel
theorem dL_law_565 : decode cL_law 565 = .ok (.iload_n 3, 1) := by decide +kernel
theorem dL_law_566 : decode cL_law 566 = .ok (.iconst 3, 1) := by decide +kernel
theorem dL_law_567 : decode cL_law 567 = .ok (.iadd, 1) := by decide +kernel
theorem dL_law_568 : decode cL_law 568 = .ok (.iaload, 1) := by decide +kernel
theorem dL_law_569 : decode cL_law 569 = .ok (.invokevirtual 53, 3) := by decide +kernel
theorem dL_law_572 : decode cL_law 572 = .ok (.if_icmp .eq 1047, 3) := by decide +kernel
theorem dL_law_575 : decode cL_law 575 = .ok (.iconst 0, 1) := by decide +kernel
theorem dL_law_576 : decode cL_law 576 = .ok (.ireturn, 1) := by decide +kernel
theorem dL_law_577 : decode cL_law 577 = .ok (.aload_n 1, 1) := by decide +kernel
theorem dL_law_578 : decode cL_law 578 = .ok (.aload_n 0, 1) := by decide +kernel
theorem dL_law_579 : decode cL_law 579 = .ok (.iload_n 3, 1) := by decide +kernel
theorem dL_law_580 : decode cL_law 580 = .ok (.iconst 1, 1) := by decide +kernel
theorem dL_law_581 : decode cL_law 581 = .ok (.iadd, 1) := by decide +kernel
theorem dL_law_582 : decode cL_law 582 = .ok (.iaload, 1) := by decide +kernel
theorem dL_law_583 : decode cL_law 583 = .ok (.invokevirtual 54, 3) := by decide +kernel
theorem dL_law_586 : decode cL_law 586 = .ok (.aload_n 2, 1) := by decide +kernel
theorem dL_law_587 : decode cL_law 587 = .ok (.aload_n 0, 1) := by decide +kernel
theorem dL_law_588 : decode cL_law 588 = .ok (.iload_n 3, 1) := by decide +kernel
theorem dL_law_589 : decode cL_law 589 = .ok (.iconst 1, 1) := by decide +kernel
theorem dL_law_590 : decode cL_law 590 = .ok (.iadd, 1) := by decide +kernel
theorem dL_law_591 : decode cL_law 591 = .ok (.iaload, 1) := by decide +kernel
theorem dL_law_592 : decode cL_law 592 = .ok (.invokevirtual 58, 3) := by decide +kernel
theorem dL_law_595 : decode cL_law 595 = .ok (.if_icmp .eq 1024, 3) := by decide +kernel
theorem dL_law_598 : decode cL_law 598 = .ok (.iconst 0, 1) := by decide +kernel
theorem dL_law_599 : decode cL_law 599 = .ok (.ireturn, 1) := by decide +kernel
theorem dL_law_600 : decode cL_law 600 = .ok (.aload_n 1, 1) := by decide +kernel
theorem dL_law_601 : decode cL_law 601 = .ok (.aload_n 0, 1) := by decide +kernel
theorem dL_law_602 : decode cL_law 602 = .ok (.iload_n 3, 1) := by decide +kernel
theorem dL_law_603 : decode cL_law 603 = .ok (.iconst 1, 1) := by decide +kernel
theorem dL_law_604 : decode cL_law 604 = .ok (.iadd, 1) := by decide +kernel
theorem dL_law_605 : decode cL_law 605 = .ok (.iaload, 1) := by decide +kernel
theorem dL_law_606 : decode cL_law 606 = .ok (.aload_n 0, 1) := by decide +kernel
theorem dL_law_607 : decode cL_law 607 = .ok (.iload_n 3, 1) := by decide +kernel
theorem dL_law_608 : decode cL_law 608 = .ok (.iconst 2, 1) := by decide +kernel
theorem dL_law_609 : decode cL_law 609 = .ok (.iadd, 1) := by decide +kernel
theorem dL_law_610 : decode cL_law 610 = .ok (.iaload, 1) := by decide +kernel
theorem dL_law_611 : decode cL_law 611 = .ok (.aload_n 0, 1) := by decide +kernel
theorem dL_law_612 : decode cL_law 612 = .ok (.iload_n 3, 1) := by decide +kernel
theorem dL_law_613 : decode cL_law 613 = .ok (.iconst 3, 1) := by decide +kernel
theorem dL_law_614 : decode cL_law 614 = .ok (.iadd, 1) := by decide +kernel
theorem dL_law_615 : decode cL_law 615 = .ok (.iaload, 1) := by decide +kernel
theorem dL_law_616 : decode cL_law 616 = .ok (.aload_n 0, 1) := by decide +kernel
theorem dL_law_617 : decode cL_law 617 = .ok (.iload_n 3, 1) := by decide +kernel
theorem dL_law_618 : decode cL_law 618 = .ok (.iconst 4, 1) := by decide +kernel
theorem dL_law_619 : decode cL_law 619 = .ok (.iadd, 1) := by decide +kernel
theorem dL_law_620 : decode cL_law 620 = .ok (.iaload, 1) := by decide +kernel
theorem dL_law_621 : decode cL_law 621 = .ok (.invokevirtual 59, 3) := by decide +kernel
theorem dL_law_624 : decode cL_law 624 = .ok (.aload_n 2, 1) := by decide +kernel
theorem dL_law_625 : decode cL_law 625 = .ok (.aload_n 0, 1) := by decide +kernel
theorem dL_law_626 : decode cL_law 626 = .ok (.iload_n 3, 1) := by decide +kernel
theorem dL_law_627 : decode cL_law 627 = .ok (.iconst 1, 1) := by decide +kernel
theorem dL_law_628 : decode cL_law 628 = .ok (.iadd, 1) := by decide +kernel
theorem dL_law_629 : decode cL_law 629 = .ok (.iaload, 1) := by decide +kernel
theorem dL_law_630 : decode cL_law 630 = .ok (.aload_n 0, 1) := by decide +kernel
theorem dL_law_631 : decode cL_law 631 = .ok (.iload_n 3, 1) := by decide +kernel
theorem dL_law_632 : decode cL_law 632 = .ok (.iconst 2, 1) := by decide +kernel
theorem dL_law_633 : decode cL_law 633 = .ok (.iadd, 1) := by decide +kernel
theorem dL_law_634 : decode cL_law 634 = .ok (.iaload, 1) := by decide +kernel
theorem dL_law_635 : decode cL_law 635 = .ok (.aload_n 0, 1) := by decide +kernel
theorem dL_law_636 : decode cL_law 636 = .ok (.iload_n 3, 1) := by decide +kernel
theorem dL_law_637 : decode cL_law 637 = .ok (.iconst 3, 1) := by decide +kernel
theorem dL_law_638 : decode cL_law 638 = .ok (.iadd, 1) := by decide +kernel
theorem dL_law_639 : decode cL_law 639 = .ok (.iaload, 1) := by decide +kernel
theorem dL_law_640 : decode cL_law 640 = .ok (.aload_n 0, 1) := by decide +kernel
theorem dL_law_641 : decode cL_law 641 = .ok (.iload_n 3, 1) := by decide +kernel
theorem dL_law_642 : decode cL_law 642 = .ok (.iconst 4, 1) := by decide +kernel
theorem dL_law_643 : decode cL_law 643 = .ok (.iadd, 1) := by decide +kernel
theorem dL_law_644 : decode cL_law 644 = .ok (.iaload, 1) := by decide +kernel
theorem dL_law_645 : decode cL_law 645 = .ok (.invokevirtual 63, 3) := by decide +kernel
theorem dL_law_648 : decode cL_law 648 = .ok (.if_icmp .eq 971, 3) := by decide +kernel
theorem dL_law_651 : decode cL_law 651 = .ok (.iconst 0, 1) := by decide +kernel
theorem dL_law_652 : decode cL_law 652 = .ok (.ireturn, 1) := by decide +kernel
theorem dL_law_653 : decode cL_law 653 = .ok (.aload_n 1, 1) := by decide +kernel
theorem dL_law_654 : decode cL_law 654 = .ok (.aload_n 0, 1) := by decide +kernel
theorem dL_law_655 : decode cL_law 655 = .ok (.iload_n 3, 1) := by decide +kernel
theorem dL_law_656 : decode cL_law 656 = .ok (.iconst 1, 1) := by decide +kernel
theorem dL_law_657 : decode cL_law 657 = .ok (.iadd, 1) := by decide +kernel
theorem dL_law_658 : decode cL_law 658 = .ok (.iaload, 1) := by decide +kernel
theorem dL_law_659 : decode cL_law 659 = .ok (.invokevirtual 64, 3) := by decide +kernel
theorem dL_law_662 : decode cL_law 662 = .ok (.aload_n 2, 1) := by decide +kernel
theorem dL_law_663 : decode cL_law 663 = .ok (.aload_n 0, 1) := by decide +kernel
theorem dL_law_664 : decode cL_law 664 = .ok (.iload_n 3, 1) := by decide +kernel
theorem dL_law_665 : decode cL_law 665 = .ok (.iconst 1, 1) := by decide +kernel
theorem dL_law_666 : decode cL_law 666 = .ok (.iadd, 1) := by decide +kernel
theorem dL_law_667 : decode cL_law 667 = .ok (.iaload, 1) := by decide +kernel
theorem dL_law_668 : decode cL_law 668 = .ok (.invokevirtual 67, 3) := by decide +kernel
theorem dL_law_671 : decode cL_law 671 = .ok (.if_icmp .eq 948, 3) := by decide +kernel
theorem dL_law_674 : decode cL_law 674 = .ok (.iconst 0, 1) := by decide +kernel
theorem dL_law_675 : decode cL_law 675 = .ok (.ireturn, 1) := by decide +kernel
theorem dL_law_676 : decode cL_law 676 = .ok (.aload_n 1, 1) := by decide +kernel
theorem dL_law_677 : decode cL_law 677 = .ok (.aload_n 0, 1) := by decide +kernel
theorem dL_law_678 : decode cL_law 678 = .ok (.iload_n 3, 1) := by decide +kernel
theorem dL_law_679 : decode cL_law 679 = .ok (.iconst 1, 1) := by decide +kernel
theorem dL_law_680 : decode cL_law 680 = .ok (.iadd, 1) := by decide +kernel
theorem dL_law_681 : decode cL_law 681 = .ok (.iaload, 1) := by decide +kernel
theorem dL_law_682 : decode cL_law 682 = .ok (.invokevirtual 68, 3) := by decide +kernel
theorem dL_law_685 : decode cL_law 685 = .ok (.aload_n 2, 1) := by decide +kernel
theorem dL_law_686 : decode cL_law 686 = .ok (.aload_n 0, 1) := by decide +kernel
theorem dL_law_687 : decode cL_law 687 = .ok (.iload_n 3, 1) := by decide +kernel
theorem dL_law_688 : decode cL_law 688 = .ok (.iconst 1, 1) := by decide +kernel
theorem dL_law_689 : decode cL_law 689 = .ok (.iadd, 1) := by decide +kernel
theorem dL_law_690 : decode cL_law 690 = .ok (.iaload, 1) := by decide +kernel
theorem dL_law_691 : decode cL_law 691 = .ok (.invokevirtual 71, 3) := by decide +kernel
theorem dL_law_694 : decode cL_law 694 = .ok (.if_icmp .eq 925, 3) := by decide +kernel
theorem dL_law_697 : decode cL_law 697 = .ok (.iconst 0, 1) := by decide +kernel
theorem dL_law_698 : decode cL_law 698 = .ok (.ireturn, 1) := by decide +kernel
theorem dL_law_699 : decode cL_law 699 = .ok (.aload_n 1, 1) := by decide +kernel
theorem dL_law_700 : decode cL_law 700 = .ok (.aload_n 0, 1) := by decide +kernel
theorem dL_law_701 : decode cL_law 701 = .ok (.iload_n 3, 1) := by decide +kernel
theorem dL_law_702 : decode cL_law 702 = .ok (.iconst 1, 1) := by decide +kernel
theorem dL_law_703 : decode cL_law 703 = .ok (.iadd, 1) := by decide +kernel
theorem dL_law_704 : decode cL_law 704 = .ok (.iaload, 1) := by decide +kernel
theorem dL_law_705 : decode cL_law 705 = .ok (.aload_n 0, 1) := by decide +kernel
theorem dL_law_706 : decode cL_law 706 = .ok (.iload_n 3, 1) := by decide +kernel
theorem dL_law_707 : decode cL_law 707 = .ok (.iconst 2, 1) := by decide +kernel
theorem dL_law_708 : decode cL_law 708 = .ok (.iadd, 1) := by decide +kernel
theorem dL_law_709 : decode cL_law 709 = .ok (.iaload, 1) := by decide +kernel
theorem dL_law_710 : decode cL_law 710 = .ok (.invokevirtual 72, 3) := by decide +kernel
theorem dL_law_713 : decode cL_law 713 = .ok (.aload_n 2, 1) := by decide +kernel
theorem dL_law_714 : decode cL_law 714 = .ok (.aload_n 0, 1) := by decide +kernel
theorem dL_law_715 : decode cL_law 715 = .ok (.iload_n 3, 1) := by decide +kernel
theorem dL_law_716 : decode cL_law 716 = .ok (.iconst 1, 1) := by decide +kernel
theorem dL_law_717 : decode cL_law 717 = .ok (.iadd, 1) := by decide +kernel
theorem dL_law_718 : decode cL_law 718 = .ok (.iaload, 1) := by decide +kernel
theorem dL_law_719 : decode cL_law 719 = .ok (.aload_n 0, 1) := by decide +kernel
theorem dL_law_720 : decode cL_law 720 = .ok (.iload_n 3, 1) := by decide +kernel
theorem dL_law_721 : decode cL_law 721 = .ok (.iconst 2, 1) := by decide +kernel
theorem dL_law_722 : decode cL_law 722 = .ok (.iadd, 1) := by decide +kernel
theorem dL_law_723 : decode cL_law 723 = .ok (.iaload, 1) := by decide +kernel
theorem dL_law_724 : decode cL_law 724 = .ok (.invokevirtual 75, 3) := by decide +kernel
theorem dL_law_727 : decode cL_law 727 = .ok (.if_icmp .eq 892, 3) := by decide +kernel
theorem dL_law_730 : decode cL_law 730 = .ok (.iconst 0, 1) := by decide +kernel
theorem dL_law_731 : decode cL_law 731 = .ok (.ireturn, 1) := by decide +kernel
theorem dL_law_732 : decode cL_law 732 = .ok (.aload_n 1, 1) := by decide +kernel
theorem dL_law_733 : decode cL_law 733 = .ok (.aload_n 0, 1) := by decide +kernel
theorem dL_law_734 : decode cL_law 734 = .ok (.iload_n 3, 1) := by decide +kernel
theorem dL_law_735 : decode cL_law 735 = .ok (.iconst 1, 1) := by decide +kernel
theorem dL_law_736 : decode cL_law 736 = .ok (.iadd, 1) := by decide +kernel
theorem dL_law_737 : decode cL_law 737 = .ok (.iaload, 1) := by decide +kernel
theorem dL_law_738 : decode cL_law 738 = .ok (.aload_n 0, 1) := by decide +kernel
theorem dL_law_739 : decode cL_law 739 = .ok (.iload_n 3, 1) := by decide +kernel
theorem dL_law_740 : decode cL_law 740 = .ok (.iconst 2, 1) := by decide +kernel
theorem dL_law_741 : decode cL_law 741 = .ok (.iadd, 1) := by decide +kernel
theorem dL_law_742 : decode cL_law 742 = .ok (.iaload, 1) := by decide +kernel
theorem dL_law_743 : decode cL_law 743 = .ok (.invokevirtual 76, 3) := by decide +kernel
theorem dL_law_746 : decode cL_law 746 = .ok (.aload_n 2, 1) := by decide +kernel
theorem dL_law_747 : decode cL_law 747 = .ok (.aload_n 0, 1) := by decide +kernel
theorem dL_law_748 : decode cL_law 748 = .ok (.iload_n 3, 1) := by decide +kernel
theorem dL_law_749 : decode cL_law 749 = .ok (.iconst 1, 1) := by decide +kernel
theorem dL_law_750 : decode cL_law 750 = .ok (.iadd, 1) := by decide +kernel
theorem dL_law_751 : decode cL_law 751 = .ok (.iaload, 1) := by decide +kernel
theorem dL_law_752 : decode cL_law 752 = .ok (.aload_n 0, 1) := by decide +kernel
theorem dL_law_753 : decode cL_law 753 = .ok (.iload_n 3, 1) := by decide +kernel
theorem dL_law_754 : decode cL_law 754 = .ok (.iconst 2, 1) := by decide +kernel
theorem dL_law_755 : decode cL_law 755 = .ok (.iadd, 1) := by decide +kernel
theorem dL_law_756 : decode cL_law 756 = .ok (.iaload, 1) := by decide +kernel
theorem dL_law_757 : decode cL_law 757 = .ok (.invokevirtual 79, 3) := by decide +kernel
theorem dL_law_760 : decode cL_law 760 = .ok (.if_icmp .eq 859, 3) := by decide +kernel
theorem dL_law_763 : decode cL_law 763 = .ok (.iconst 0, 1) := by decide +kernel
theorem dL_law_764 : decode cL_law 764 = .ok (.ireturn, 1) := by decide +kernel
theorem dL_law_765 : decode cL_law 765 = .ok (.aload_n 1, 1) := by decide +kernel
theorem dL_law_766 : decode cL_law 766 = .ok (.aload_n 0, 1) := by decide +kernel
theorem dL_law_767 : decode cL_law 767 = .ok (.iload_n 3, 1) := by decide +kernel
theorem dL_law_768 : decode cL_law 768 = .ok (.iconst 1, 1) := by decide +kernel
theorem dL_law_769 : decode cL_law 769 = .ok (.iadd, 1) := by decide +kernel
theorem dL_law_770 : decode cL_law 770 = .ok (.iaload, 1) := by decide +kernel
theorem dL_law_771 : decode cL_law 771 = .ok (.aload_n 0, 1) := by decide +kernel
theorem dL_law_772 : decode cL_law 772 = .ok (.iload_n 3, 1) := by decide +kernel
theorem dL_law_773 : decode cL_law 773 = .ok (.iconst 2, 1) := by decide +kernel
theorem dL_law_774 : decode cL_law 774 = .ok (.iadd, 1) := by decide +kernel
theorem dL_law_775 : decode cL_law 775 = .ok (.iaload, 1) := by decide +kernel
theorem dL_law_776 : decode cL_law 776 = .ok (.invokevirtual 80, 3) := by decide +kernel
theorem dL_law_779 : decode cL_law 779 = .ok (.aload_n 2, 1) := by decide +kernel
theorem dL_law_780 : decode cL_law 780 = .ok (.aload_n 0, 1) := by decide +kernel
theorem dL_law_781 : decode cL_law 781 = .ok (.iload_n 3, 1) := by decide +kernel
theorem dL_law_782 : decode cL_law 782 = .ok (.iconst 1, 1) := by decide +kernel
theorem dL_law_783 : decode cL_law 783 = .ok (.iadd, 1) := by decide +kernel
theorem dL_law_784 : decode cL_law 784 = .ok (.iaload, 1) := by decide +kernel
theorem dL_law_785 : decode cL_law 785 = .ok (.aload_n 0, 1) := by decide +kernel
theorem dL_law_786 : decode cL_law 786 = .ok (.iload_n 3, 1) := by decide +kernel
theorem dL_law_787 : decode cL_law 787 = .ok (.iconst 2, 1) := by decide +kernel
theorem dL_law_788 : decode cL_law 788 = .ok (.iadd, 1) := by decide +kernel
theorem dL_law_789 : decode cL_law 789 = .ok (.iaload, 1) := by decide +kernel
theorem dL_law_790 : decode cL_law 790 = .ok (.invokevirtual 83, 3) := by decide +kernel
theorem dL_law_793 : decode cL_law 793 = .ok (.if_icmp .eq 826, 3) := by decide +kernel
theorem dL_law_796 : decode cL_law 796 = .ok (.iconst 0, 1) := by decide +kernel
theorem dL_law_797 : decode cL_law 797 = .ok (.ireturn, 1) := by decide +kernel
theorem dL_law_798 : decode cL_law 798 = .ok (.aload_n 1, 1) := by decide +kernel
theorem dL_law_799 : decode cL_law 799 = .ok (.aload_n 0, 1) := by decide +kernel
theorem dL_law_800 : decode cL_law 800 = .ok (.iload_n 3, 1) := by decide +kernel
theorem dL_law_801 : decode cL_law 801 = .ok (.iconst 1, 1) := by decide +kernel
theorem dL_law_802 : decode cL_law 802 = .ok (.iadd, 1) := by decide +kernel
theorem dL_law_803 : decode cL_law 803 = .ok (.iaload, 1) := by decide +kernel
theorem dL_law_804 : decode cL_law 804 = .ok (.aload_n 0, 1) := by decide +kernel
theorem dL_law_805 : decode cL_law 805 = .ok (.iload_n 3, 1) := by decide +kernel
theorem dL_law_806 : decode cL_law 806 = .ok (.iconst 2, 1) := by decide +kernel
theorem dL_law_807 : decode cL_law 807 = .ok (.iadd, 1) := by decide +kernel
theorem dL_law_808 : decode cL_law 808 = .ok (.iaload, 1) := by decide +kernel
theorem dL_law_809 : decode cL_law 809 = .ok (.invokevirtual 84, 3) := by decide +kernel
theorem dL_law_812 : decode cL_law 812 = .ok (.aload_n 2, 1) := by decide +kernel
theorem dL_law_813 : decode cL_law 813 = .ok (.aload_n 0, 1) := by decide +kernel
theorem dL_law_814 : decode cL_law 814 = .ok (.iload_n 3, 1) := by decide +kernel
theorem dL_law_815 : decode cL_law 815 = .ok (.iconst 1, 1) := by decide +kernel
theorem dL_law_816 : decode cL_law 816 = .ok (.iadd, 1) := by decide +kernel
theorem dL_law_817 : decode cL_law 817 = .ok (.iaload, 1) := by decide +kernel
theorem dL_law_818 : decode cL_law 818 = .ok (.aload_n 0, 1) := by decide +kernel
theorem dL_law_819 : decode cL_law 819 = .ok (.iload_n 3, 1) := by decide +kernel
theorem dL_law_820 : decode cL_law 820 = .ok (.iconst 2, 1) := by decide +kernel
theorem dL_law_821 : decode cL_law 821 = .ok (.iadd, 1) := by decide +kernel
theorem dL_law_822 : decode cL_law 822 = .ok (.iaload, 1) := by decide +kernel
theorem dL_law_823 : decode cL_law 823 = .ok (.invokevirtual 87, 3) := by decide +kernel
theorem dL_law_826 : decode cL_law 826 = .ok (.if_icmp .eq 793, 3) := by decide +kernel
theorem dL_law_829 : decode cL_law 829 = .ok (.iconst 0, 1) := by decide +kernel
theorem dL_law_830 : decode cL_law 830 = .ok (.ireturn, 1) := by decide +kernel
theorem dL_law_831 : decode cL_law 831 = .ok (.aload_n 1, 1) := by decide +kernel
theorem dL_law_832 : decode cL_law 832 = .ok (.aload_n 0, 1) := by decide +kernel
theorem dL_law_833 : decode cL_law 833 = .ok (.iload_n 3, 1) := by decide +kernel
theorem dL_law_834 : decode cL_law 834 = .ok (.iconst 1, 1) := by decide +kernel
theorem dL_law_835 : decode cL_law 835 = .ok (.iadd, 1) := by decide +kernel
theorem dL_law_836 : decode cL_law 836 = .ok (.iaload, 1) := by decide +kernel
theorem dL_law_837 : decode cL_law 837 = .ok (.aload_n 0, 1) := by decide +kernel
theorem dL_law_838 : decode cL_law 838 = .ok (.iload_n 3, 1) := by decide +kernel
theorem dL_law_839 : decode cL_law 839 = .ok (.iconst 2, 1) := by decide +kernel
theorem dL_law_840 : decode cL_law 840 = .ok (.iadd, 1) := by decide +kernel
theorem dL_law_841 : decode cL_law 841 = .ok (.iaload, 1) := by decide +kernel
theorem dL_law_842 : decode cL_law 842 = .ok (.aload_n 0, 1) := by decide +kernel
theorem dL_law_843 : decode cL_law 843 = .ok (.iload_n 3, 1) := by decide +kernel
theorem dL_law_844 : decode cL_law 844 = .ok (.iconst 3, 1) := by decide +kernel
theorem dL_law_845 : decode cL_law 845 = .ok (.iadd, 1) := by decide +kernel
theorem dL_law_846 : decode cL_law 846 = .ok (.iaload, 1) := by decide +kernel
theorem dL_law_847 : decode cL_law 847 = .ok (.invokevirtual 88, 3) := by decide +kernel
theorem dL_law_850 : decode cL_law 850 = .ok (.aload_n 2, 1) := by decide +kernel
theorem dL_law_851 : decode cL_law 851 = .ok (.aload_n 0, 1) := by decide +kernel
theorem dL_law_852 : decode cL_law 852 = .ok (.iload_n 3, 1) := by decide +kernel
theorem dL_law_853 : decode cL_law 853 = .ok (.iconst 1, 1) := by decide +kernel
theorem dL_law_854 : decode cL_law 854 = .ok (.iadd, 1) := by decide +kernel
theorem dL_law_855 : decode cL_law 855 = .ok (.iaload, 1) := by decide +kernel
theorem dL_law_856 : decode cL_law 856 = .ok (.aload_n 0, 1) := by decide +kernel
theorem dL_law_857 : decode cL_law 857 = .ok (.iload_n 3, 1) := by decide +kernel
theorem dL_law_858 : decode cL_law 858 = .ok (.iconst 2, 1) := by decide +kernel
theorem dL_law_859 : decode cL_law 859 = .ok (.iadd, 1) := by decide +kernel
theorem dL_law_860 : decode cL_law 860 = .ok (.iaload, 1) := by decide +kernel
theorem dL_law_861 : decode cL_law 861 = .ok (.aload_n 0, 1) := by decide +kernel
theorem dL_law_862 : decode cL_law 862 = .ok (.iload_n 3, 1) := by decide +kernel
theorem dL_law_863 : decode cL_law 863 = .ok (.iconst 3, 1) := by decide +kernel
theorem dL_law_864 : decode cL_law 864 = .ok (.iadd, 1) := by decide +kernel
theorem dL_law_865 : decode cL_law 865 = .ok (.iaload, 1) := by decide +kernel
theorem dL_law_866 : decode cL_law 866 = .ok (.invokevirtual 91, 3) := by decide +kernel
theorem dL_law_869 : decode cL_law 869 = .ok (.if_icmp .eq 750, 3) := by decide +kernel
theorem dL_law_872 : decode cL_law 872 = .ok (.iconst 0, 1) := by decide +kernel
theorem dL_law_873 : decode cL_law 873 = .ok (.ireturn, 1) := by decide +kernel
theorem dL_law_874 : decode cL_law 874 = .ok (.aload_n 1, 1) := by decide +kernel
theorem dL_law_875 : decode cL_law 875 = .ok (.aload_n 0, 1) := by decide +kernel
theorem dL_law_876 : decode cL_law 876 = .ok (.iload_n 3, 1) := by decide +kernel
theorem dL_law_877 : decode cL_law 877 = .ok (.iconst 1, 1) := by decide +kernel
theorem dL_law_878 : decode cL_law 878 = .ok (.iadd, 1) := by decide +kernel
theorem dL_law_879 : decode cL_law 879 = .ok (.iaload, 1) := by decide +kernel
theorem dL_law_880 : decode cL_law 880 = .ok (.aload_n 0, 1) := by decide +kernel
theorem dL_law_881 : decode cL_law 881 = .ok (.iload_n 3, 1) := by decide +kernel
theorem dL_law_882 : decode cL_law 882 = .ok (.iconst 2, 1) := by decide +kernel
theorem dL_law_883 : decode cL_law 883 = .ok (.iadd, 1) := by decide +kernel
theorem dL_law_884 : decode cL_law 884 = .ok (.iaload, 1) := by decide +kernel
theorem dL_law_885 : decode cL_law 885 = .ok (.invokevirtual 92, 3) := by decide +kernel
theorem dL_law_888 : decode cL_law 888 = .ok (.aload_n 2, 1) := by decide +kernel
theorem dL_law_889 : decode cL_law 889 = .ok (.aload_n 0, 1) := by decide +kernel
theorem dL_law_890 : decode cL_law 890 = .ok (.iload_n 3, 1) := by decide +kernel
theorem dL_law_891 : decode cL_law 891 = .ok (.iconst 1, 1) := by decide +kernel
theorem dL_law_892 : decode cL_law 892 = .ok (.iadd, 1) := by decide +kernel
theorem dL_law_893 : decode cL_law 893 = .ok (.iaload, 1) := by decide +kernel
theorem dL_law_894 : decode cL_law 894 = .ok (.aload_n 0, 1) := by decide +kernel
theorem dL_law_895 : decode cL_law 895 = .ok (.iload_n 3, 1) := by decide +kernel
theorem dL_law_896 : decode cL_law 896 = .ok (.iconst 2, 1) := by decide +kernel
theorem dL_law_897 : decode cL_law 897 = .ok (.iadd, 1) := by decide +kernel
theorem dL_law_898 : decode cL_law 898 = .ok (.iaload, 1) := by decide +kernel
theorem dL_law_899 : decode cL_law 899 = .ok (.invokevirtual 95, 3) := by decide +kernel
theorem dL_law_902 : decode cL_law 902 = .ok (.if_icmp .eq 717, 3) := by decide +kernel
theorem dL_law_905 : decode cL_law 905 = .ok (.iconst 0, 1) := by decide +kernel
theorem dL_law_906 : decode cL_law 906 = .ok (.ireturn, 1) := by decide +kernel
theorem dL_law_907 : decode cL_law 907 = .ok (.aload_n 1, 1) := by decide +kernel
theorem dL_law_908 : decode cL_law 908 = .ok (.aload_n 0, 1) := by decide +kernel
theorem dL_law_909 : decode cL_law 909 = .ok (.iload_n 3, 1) := by decide +kernel
theorem dL_law_910 : decode cL_law 910 = .ok (.iconst 1, 1) := by decide +kernel
theorem dL_law_911 : decode cL_law 911 = .ok (.iadd, 1) := by decide +kernel
theorem dL_law_912 : decode cL_law 912 = .ok (.iaload, 1) := by decide +kernel
theorem dL_law_913 : decode cL_law 913 = .ok (.aload_n 0, 1) := by decide +kernel
theorem dL_law_914 : decode cL_law 914 = .ok (.iload_n 3, 1) := by decide +kernel
theorem dL_law_915 : decode cL_law 915 = .ok (.iconst 2, 1) := by decide +kernel
theorem dL_law_916 : decode cL_law 916 = .ok (.iadd, 1) := by decide +kernel
theorem dL_law_917 : decode cL_law 917 = .ok (.iaload, 1) := by decide +kernel
theorem dL_law_918 : decode cL_law 918 = .ok (.invokevirtual 96, 3) := by decide +kernel
theorem dL_law_921 : decode cL_law 921 = .ok (.aload_n 2, 1) := by decide +kernel
theorem dL_law_922 : decode cL_law 922 = .ok (.aload_n 0, 1) := by decide +kernel
theorem dL_law_923 : decode cL_law 923 = .ok (.iload_n 3, 1) := by decide +kernel
theorem dL_law_924 : decode cL_law 924 = .ok (.iconst 1, 1) := by decide +kernel
theorem dL_law_925 : decode cL_law 925 = .ok (.iadd, 1) := by decide +kernel
theorem dL_law_926 : decode cL_law 926 = .ok (.iaload, 1) := by decide +kernel
theorem dL_law_927 : decode cL_law 927 = .ok (.aload_n 0, 1) := by decide +kernel
theorem dL_law_928 : decode cL_law 928 = .ok (.iload_n 3, 1) := by decide +kernel
theorem dL_law_929 : decode cL_law 929 = .ok (.iconst 2, 1) := by decide +kernel
theorem dL_law_930 : decode cL_law 930 = .ok (.iadd, 1) := by decide +kernel
theorem dL_law_931 : decode cL_law 931 = .ok (.iaload, 1) := by decide +kernel
theorem dL_law_932 : decode cL_law 932 = .ok (.invokevirtual 99, 3) := by decide +kernel
theorem dL_law_935 : decode cL_law 935 = .ok (.if_icmp .eq 684, 3) := by decide +kernel
theorem dL_law_938 : decode cL_law 938 = .ok (.iconst 0, 1) := by decide +kernel
theorem dL_law_939 : decode cL_law 939 = .ok (.ireturn, 1) := by decide +kernel
theorem dL_law_940 : decode cL_law 940 = .ok (.aload_n 1, 1) := by decide +kernel
theorem dL_law_941 : decode cL_law 941 = .ok (.aload_n 0, 1) := by decide +kernel
theorem dL_law_942 : decode cL_law 942 = .ok (.iload_n 3, 1) := by decide +kernel
theorem dL_law_943 : decode cL_law 943 = .ok (.iconst 1, 1) := by decide +kernel
theorem dL_law_944 : decode cL_law 944 = .ok (.iadd, 1) := by decide +kernel
theorem dL_law_945 : decode cL_law 945 = .ok (.iaload, 1) := by decide +kernel
theorem dL_law_946 : decode cL_law 946 = .ok (.invokevirtual 100, 3) := by decide +kernel
theorem dL_law_949 : decode cL_law 949 = .ok (.aload_n 2, 1) := by decide +kernel
theorem dL_law_950 : decode cL_law 950 = .ok (.aload_n 0, 1) := by decide +kernel
theorem dL_law_951 : decode cL_law 951 = .ok (.iload_n 3, 1) := by decide +kernel
theorem dL_law_952 : decode cL_law 952 = .ok (.iconst 1, 1) := by decide +kernel
theorem dL_law_953 : decode cL_law 953 = .ok (.iadd, 1) := by decide +kernel
theorem dL_law_954 : decode cL_law 954 = .ok (.iaload, 1) := by decide +kernel
theorem dL_law_955 : decode cL_law 955 = .ok (.invokevirtual 103, 3) := by decide +kernel
theorem dL_law_958 : decode cL_law 958 = .ok (.if_icmp .eq 661, 3) := by decide +kernel
theorem dL_law_961 : decode cL_law 961 = .ok (.iconst 0, 1) := by decide +kernel
theorem dL_law_962 : decode cL_law 962 = .ok (.ireturn, 1) := by decide +kernel
theorem dL_law_963 : decode cL_law 963 = .ok (.aload_n 1, 1) := by decide +kernel
theorem dL_law_964 : decode cL_law 964 = .ok (.aload_n 0, 1) := by decide +kernel
theorem dL_law_965 : decode cL_law 965 = .ok (.iload_n 3, 1) := by decide +kernel
theorem dL_law_966 : decode cL_law 966 = .ok (.iconst 1, 1) := by decide +kernel
theorem dL_law_967 : decode cL_law 967 = .ok (.iadd, 1) := by decide +kernel
theorem dL_law_968 : decode cL_law 968 = .ok (.iaload, 1) := by decide +kernel
theorem dL_law_969 : decode cL_law 969 = .ok (.aload_n 0, 1) := by decide +kernel
theorem dL_law_970 : decode cL_law 970 = .ok (.iload_n 3, 1) := by decide +kernel
theorem dL_law_971 : decode cL_law 971 = .ok (.iconst 2, 1) := by decide +kernel
theorem dL_law_972 : decode cL_law 972 = .ok (.iadd, 1) := by decide +kernel
theorem dL_law_973 : decode cL_law 973 = .ok (.iaload, 1) := by decide +kernel
theorem dL_law_974 : decode cL_law 974 = .ok (.aload_n 0, 1) := by decide +kernel
theorem dL_law_975 : decode cL_law 975 = .ok (.iload_n 3, 1) := by decide +kernel
theorem dL_law_976 : decode cL_law 976 = .ok (.iconst 3, 1) := by decide +kernel
theorem dL_law_977 : decode cL_law 977 = .ok (.iadd, 1) := by decide +kernel
theorem dL_law_978 : decode cL_law 978 = .ok (.iaload, 1) := by decide +kernel
theorem dL_law_979 : decode cL_law 979 = .ok (.invokevirtual 104, 3) := by decide +kernel
theorem dL_law_982 : decode cL_law 982 = .ok (.aload_n 2, 1) := by decide +kernel
theorem dL_law_983 : decode cL_law 983 = .ok (.aload_n 0, 1) := by decide +kernel
theorem dL_law_984 : decode cL_law 984 = .ok (.iload_n 3, 1) := by decide +kernel
theorem dL_law_985 : decode cL_law 985 = .ok (.iconst 1, 1) := by decide +kernel
theorem dL_law_986 : decode cL_law 986 = .ok (.iadd, 1) := by decide +kernel
theorem dL_law_987 : decode cL_law 987 = .ok (.iaload, 1) := by decide +kernel
theorem dL_law_988 : decode cL_law 988 = .ok (.aload_n 0, 1) := by decide +kernel
theorem dL_law_989 : decode cL_law 989 = .ok (.iload_n 3, 1) := by decide +kernel
theorem dL_law_990 : decode cL_law 990 = .ok (.iconst 2, 1) := by decide +kernel
theorem dL_law_991 : decode cL_law 991 = .ok (.iadd, 1) := by decide +kernel
theorem dL_law_992 : decode cL_law 992 = .ok (.iaload, 1) := by decide +kernel
theorem dL_law_993 : decode cL_law 993 = .ok (.aload_n 0, 1) := by decide +kernel
theorem dL_law_994 : decode cL_law 994 = .ok (.iload_n 3, 1) := by decide +kernel
theorem dL_law_995 : decode cL_law 995 = .ok (.iconst 3, 1) := by decide +kernel
theorem dL_law_996 : decode cL_law 996 = .ok (.iadd, 1) := by decide +kernel
theorem dL_law_997 : decode cL_law 997 = .ok (.iaload, 1) := by decide +kernel
theorem dL_law_998 : decode cL_law 998 = .ok (.invokevirtual 107, 3) := by decide +kernel
theorem dL_law_1001 : decode cL_law 1001 = .ok (.if_icmp .eq 618, 3) := by decide +kernel
theorem dL_law_1004 : decode cL_law 1004 = .ok (.iconst 0, 1) := by decide +kernel
theorem dL_law_1005 : decode cL_law 1005 = .ok (.ireturn, 1) := by decide +kernel
theorem dL_law_1006 : decode cL_law 1006 = .ok (.aload_n 1, 1) := by decide +kernel
theorem dL_law_1007 : decode cL_law 1007 = .ok (.aload_n 0, 1) := by decide +kernel
theorem dL_law_1008 : decode cL_law 1008 = .ok (.iload_n 3, 1) := by decide +kernel
theorem dL_law_1009 : decode cL_law 1009 = .ok (.iconst 1, 1) := by decide +kernel
theorem dL_law_1010 : decode cL_law 1010 = .ok (.iadd, 1) := by decide +kernel
theorem dL_law_1011 : decode cL_law 1011 = .ok (.iaload, 1) := by decide +kernel
theorem dL_law_1012 : decode cL_law 1012 = .ok (.aload_n 0, 1) := by decide +kernel
theorem dL_law_1013 : decode cL_law 1013 = .ok (.iload_n 3, 1) := by decide +kernel
theorem dL_law_1014 : decode cL_law 1014 = .ok (.iconst 2, 1) := by decide +kernel
theorem dL_law_1015 : decode cL_law 1015 = .ok (.iadd, 1) := by decide +kernel
theorem dL_law_1016 : decode cL_law 1016 = .ok (.iaload, 1) := by decide +kernel
theorem dL_law_1017 : decode cL_law 1017 = .ok (.invokevirtual 108, 3) := by decide +kernel
theorem dL_law_1020 : decode cL_law 1020 = .ok (.aload_n 2, 1) := by decide +kernel
theorem dL_law_1021 : decode cL_law 1021 = .ok (.aload_n 0, 1) := by decide +kernel
theorem dL_law_1022 : decode cL_law 1022 = .ok (.iload_n 3, 1) := by decide +kernel
theorem dL_law_1023 : decode cL_law 1023 = .ok (.iconst 1, 1) := by decide +kernel
theorem dL_law_1024 : decode cL_law 1024 = .ok (.iadd, 1) := by decide +kernel
theorem dL_law_1025 : decode cL_law 1025 = .ok (.iaload, 1) := by decide +kernel
theorem dL_law_1026 : decode cL_law 1026 = .ok (.aload_n 0, 1) := by decide +kernel
theorem dL_law_1027 : decode cL_law 1027 = .ok (.iload_n 3, 1) := by decide +kernel
theorem dL_law_1028 : decode cL_law 1028 = .ok (.iconst 2, 1) := by decide +kernel
theorem dL_law_1029 : decode cL_law 1029 = .ok (.iadd, 1) := by decide +kernel
theorem dL_law_1030 : decode cL_law 1030 = .ok (.iaload, 1) := by decide +kernel
theorem dL_law_1031 : decode cL_law 1031 = .ok (.invokevirtual 111, 3) := by decide +kernel
theorem dL_law_1034 : decode cL_law 1034 = .ok (.if_icmp .eq 585, 3) := by decide +kernel
theorem dL_law_1037 : decode cL_law 1037 = .ok (.iconst 0, 1) := by decide +kernel
theorem dL_law_1038 : decode cL_law 1038 = .ok (.ireturn, 1) := by decide +kernel
theorem dL_law_1039 : decode cL_law 1039 = .ok (.aload_n 1, 1) := by decide +kernel
theorem dL_law_1040 : decode cL_law 1040 = .ok (.aload_n 0, 1) := by decide +kernel
theorem dL_law_1041 : decode cL_law 1041 = .ok (.iload_n 3, 1) := by decide +kernel
theorem dL_law_1042 : decode cL_law 1042 = .ok (.iconst 1, 1) := by decide +kernel
theorem dL_law_1043 : decode cL_law 1043 = .ok (.iadd, 1) := by decide +kernel
theorem dL_law_1044 : decode cL_law 1044 = .ok (.iaload, 1) := by decide +kernel
theorem dL_law_1045 : decode cL_law 1045 = .ok (.aload_n 0, 1) := by decide +kernel
theorem dL_law_1046 : decode cL_law 1046 = .ok (.iload_n 3, 1) := by decide +kernel
theorem dL_law_1047 : decode cL_law 1047 = .ok (.iconst 2, 1) := by decide +kernel
theorem dL_law_1048 : decode cL_law 1048 = .ok (.iadd, 1) := by decide +kernel
theorem dL_law_1049 : decode cL_law 1049 = .ok (.iaload, 1) := by decide +kernel
theorem dL_law_1050 : decode cL_law 1050 = .ok (.aload_n 0, 1) := by decide +kernel
theorem dL_law_1051 : decode cL_law 1051 = .ok (.iload_n 3, 1) := by decide +kernel
theorem dL_law_1052 : decode cL_law 1052 = .ok (.iconst 3, 1) := by decide +kernel
theorem dL_law_1053 : decode cL_law 1053 = .ok (.iadd, 1) := by decide +kernel
theorem dL_law_1054 : decode cL_law 1054 = .ok (.iaload, 1) := by decide +kernel
theorem dL_law_1055 : decode cL_law 1055 = .ok (.invokevirtual 112, 3) := by decide +kernel
theorem dL_law_1058 : decode cL_law 1058 = .ok (.aload_n 2, 1) := by decide +kernel
theorem dL_law_1059 : decode cL_law 1059 = .ok (.aload_n 0, 1) := by decide +kernel
theorem dL_law_1060 : decode cL_law 1060 = .ok (.iload_n 3, 1) := by decide +kernel
theorem dL_law_1061 : decode cL_law 1061 = .ok (.iconst 1, 1) := by decide +kernel
theorem dL_law_1062 : decode cL_law 1062 = .ok (.iadd, 1) := by decide +kernel
theorem dL_law_1063 : decode cL_law 1063 = .ok (.iaload, 1) := by decide +kernel
theorem dL_law_1064 : decode cL_law 1064 = .ok (.aload_n 0, 1) := by decide +kernel
theorem dL_law_1065 : decode cL_law 1065 = .ok (.iload_n 3, 1) := by decide +kernel
theorem dL_law_1066 : decode cL_law 1066 = .ok (.iconst 2, 1) := by decide +kernel
theorem dL_law_1067 : decode cL_law 1067 = .ok (.iadd, 1) := by decide +kernel
theorem dL_law_1068 : decode cL_law 1068 = .ok (.iaload, 1) := by decide +kernel
theorem dL_law_1069 : decode cL_law 1069 = .ok (.aload_n 0, 1) := by decide +kernel
theorem dL_law_1070 : decode cL_law 1070 = .ok (.iload_n 3, 1) := by decide +kernel
theorem dL_law_1071 : decode cL_law 1071 = .ok (.iconst 3, 1) := by decide +kernel
theorem dL_law_1072 : decode cL_law 1072 = .ok (.iadd, 1) := by decide +kernel
theorem dL_law_1073 : decode cL_law 1073 = .ok (.iaload, 1) := by decide +kernel
theorem dL_law_1074 : decode cL_law 1074 = .ok (.invokevirtual 115, 3) := by decide +kernel
theorem dL_law_1077 : decode cL_law 1077 = .ok (.if_icmp .eq 542, 3) := by decide +kernel
theorem dL_law_1080 : decode cL_law 1080 = .ok (.iconst 0, 1) := by decide +kernel
theorem dL_law_1081 : decode cL_law 1081 = .ok (.ireturn, 1) := by decide +kernel
theorem dL_law_1082 : decode cL_law 1082 = .ok (.aload_n 1, 1) := by decide +kernel
theorem dL_law_1083 : decode cL_law 1083 = .ok (.aload_n 0, 1) := by decide +kernel
theorem dL_law_1084 : decode cL_law 1084 = .ok (.iload_n 3, 1) := by decide +kernel
theorem dL_law_1085 : decode cL_law 1085 = .ok (.iconst 1, 1) := by decide +kernel
theorem dL_law_1086 : decode cL_law 1086 = .ok (.iadd, 1) := by decide +kernel
theorem dL_law_1087 : decode cL_law 1087 = .ok (.iaload, 1) := by decide +kernel
theorem dL_law_1088 : decode cL_law 1088 = .ok (.invokevirtual 116, 3) := by decide +kernel
theorem dL_law_1091 : decode cL_law 1091 = .ok (.aload_n 2, 1) := by decide +kernel
theorem dL_law_1092 : decode cL_law 1092 = .ok (.aload_n 0, 1) := by decide +kernel
theorem dL_law_1093 : decode cL_law 1093 = .ok (.iload_n 3, 1) := by decide +kernel
theorem dL_law_1094 : decode cL_law 1094 = .ok (.iconst 1, 1) := by decide +kernel
theorem dL_law_1095 : decode cL_law 1095 = .ok (.iadd, 1) := by decide +kernel
theorem dL_law_1096 : decode cL_law 1096 = .ok (.iaload, 1) := by decide +kernel
theorem dL_law_1097 : decode cL_law 1097 = .ok (.invokevirtual 119, 3) := by decide +kernel
theorem dL_law_1100 : decode cL_law 1100 = .ok (.if_icmp .eq 519, 3) := by decide +kernel
theorem dL_law_1103 : decode cL_law 1103 = .ok (.iconst 0, 1) := by decide +kernel
theorem dL_law_1104 : decode cL_law 1104 = .ok (.ireturn, 1) := by decide +kernel
theorem dL_law_1105 : decode cL_law 1105 = .ok (.aload_n 1, 1) := by decide +kernel
theorem dL_law_1106 : decode cL_law 1106 = .ok (.aload_n 0, 1) := by decide +kernel
theorem dL_law_1107 : decode cL_law 1107 = .ok (.iload_n 3, 1) := by decide +kernel
theorem dL_law_1108 : decode cL_law 1108 = .ok (.iconst 1, 1) := by decide +kernel
theorem dL_law_1109 : decode cL_law 1109 = .ok (.iadd, 1) := by decide +kernel
theorem dL_law_1110 : decode cL_law 1110 = .ok (.iaload, 1) := by decide +kernel
theorem dL_law_1111 : decode cL_law 1111 = .ok (.aload_n 0, 1) := by decide +kernel
theorem dL_law_1112 : decode cL_law 1112 = .ok (.iload_n 3, 1) := by decide +kernel
theorem dL_law_1113 : decode cL_law 1113 = .ok (.iconst 2, 1) := by decide +kernel
theorem dL_law_1114 : decode cL_law 1114 = .ok (.iadd, 1) := by decide +kernel
theorem dL_law_1115 : decode cL_law 1115 = .ok (.iaload, 1) := by decide +kernel
theorem dL_law_1116 : decode cL_law 1116 = .ok (.invokevirtual 120, 3) := by decide +kernel
theorem dL_law_1119 : decode cL_law 1119 = .ok (.aload_n 2, 1) := by decide +kernel
theorem dL_law_1120 : decode cL_law 1120 = .ok (.aload_n 0, 1) := by decide +kernel
theorem dL_law_1121 : decode cL_law 1121 = .ok (.iload_n 3, 1) := by decide +kernel
theorem dL_law_1122 : decode cL_law 1122 = .ok (.iconst 1, 1) := by decide +kernel
theorem dL_law_1123 : decode cL_law 1123 = .ok (.iadd, 1) := by decide +kernel
theorem dL_law_1124 : decode cL_law 1124 = .ok (.iaload, 1) := by decide +kernel
theorem dL_law_1125 : decode cL_law 1125 = .ok (.aload_n 0, 1) := by decide +kernel
theorem dL_law_1126 : decode cL_law 1126 = .ok (.iload_n 3, 1) := by decide +kernel
theorem dL_law_1127 : decode cL_law 1127 = .ok (.iconst 2, 1) := by decide +kernel
theorem dL_law_1128 : decode cL_law 1128 = .ok (.iadd, 1) := by decide +kernel
theorem dL_law_1129 : decode cL_law 1129 = .ok (.iaload, 1) := by decide +kernel
theorem dL_law_1130 : decode cL_law 1130 = .ok (.invokevirtual 123, 3) := by decide +kernel
theorem dL_law_1133 : decode cL_law 1133 = .ok (.if_icmp .eq 486, 3) := by decide +kernel
theorem dL_law_1136 : decode cL_law 1136 = .ok (.iconst 0, 1) := by decide +kernel
theorem dL_law_1137 : decode cL_law 1137 = .ok (.ireturn, 1) := by decide +kernel
theorem dL_law_1138 : decode cL_law 1138 = .ok (.aload_n 1, 1) := by decide +kernel
theorem dL_law_1139 : decode cL_law 1139 = .ok (.aload_n 0, 1) := by decide +kernel
theorem dL_law_1140 : decode cL_law 1140 = .ok (.iload_n 3, 1) := by decide +kernel
theorem dL_law_1141 : decode cL_law 1141 = .ok (.iconst 1, 1) := by decide +kernel
theorem dL_law_1142 : decode cL_law 1142 = .ok (.iadd, 1) := by decide +kernel
theorem dL_law_1143 : decode cL_law 1143 = .ok (.iaload, 1) := by decide +kernel
theorem dL_law_1144 : decode cL_law 1144 = .ok (.invokevirtual 124, 3) := by decide +kernel
theorem dL_law_1147 : decode cL_law 1147 = .ok (.aload_n 2, 1) := by decide +kernel
theorem dL_law_1148 : decode cL_law 1148 = .ok (.aload_n 0, 1) := by decide +kernel
theorem dL_law_1149 : decode cL_law 1149 = .ok (.iload_n 3, 1) := by decide +kernel
theorem dL_law_1150 : decode cL_law 1150 = .ok (.iconst 1, 1) := by decide +kernel
theorem dL_law_1151 : decode cL_law 1151 = .ok (.iadd, 1) := by decide +kernel
theorem dL_law_1152 : decode cL_law 1152 = .ok (.iaload, 1) := by decide +kernel
theorem dL_law_1153 : decode cL_law 1153 = .ok (.invokevirtual 127, 3) := by decide +kernel
theorem dL_law_1156 : decode cL_law 1156 = .ok (.if_icmp .eq 463, 3) := by decide +kernel
theorem dL_law_1159 : decode cL_law 1159 = .ok (.iconst 0, 1) := by decide +kernel
theorem dL_law_1160 : decode cL_law 1160 = .ok (.ireturn, 1) := by decide +kernel
theorem dL_law_1161 : decode cL_law 1161 = .ok (.aload_n 1, 1) := by decide +kernel
theorem dL_law_1162 : decode cL_law 1162 = .ok (.aload_n 0, 1) := by decide +kernel
theorem dL_law_1163 : decode cL_law 1163 = .ok (.iload_n 3, 1) := by decide +kernel
theorem dL_law_1164 : decode cL_law 1164 = .ok (.iconst 1, 1) := by decide +kernel
theorem dL_law_1165 : decode cL_law 1165 = .ok (.iadd, 1) := by decide +kernel
theorem dL_law_1166 : decode cL_law 1166 = .ok (.iaload, 1) := by decide +kernel
theorem dL_law_1167 : decode cL_law 1167 = .ok (.invokevirtual 128, 3) := by decide +kernel
theorem dL_law_1170 : decode cL_law 1170 = .ok (.aload_n 2, 1) := by decide +kernel
theorem dL_law_1171 : decode cL_law 1171 = .ok (.aload_n 0, 1) := by decide +kernel
theorem dL_law_1172 : decode cL_law 1172 = .ok (.iload_n 3, 1) := by decide +kernel
theorem dL_law_1173 : decode cL_law 1173 = .ok (.iconst 1, 1) := by decide +kernel
theorem dL_law_1174 : decode cL_law 1174 = .ok (.iadd, 1) := by decide +kernel
theorem dL_law_1175 : decode cL_law 1175 = .ok (.iaload, 1) := by decide +kernel
theorem dL_law_1176 : decode cL_law 1176 = .ok (.invokevirtual 131, 3) := by decide +kernel
theorem dL_law_1179 : decode cL_law 1179 = .ok (.if_icmp .eq 440, 3) := by decide +kernel
theorem dL_law_1182 : decode cL_law 1182 = .ok (.iconst 0, 1) := by decide +kernel
theorem dL_law_1183 : decode cL_law 1183 = .ok (.ireturn, 1) := by decide +kernel
theorem dL_law_1184 : decode cL_law 1184 = .ok (.aload_n 1, 1) := by decide +kernel
theorem dL_law_1185 : decode cL_law 1185 = .ok (.aload_n 0, 1) := by decide +kernel
theorem dL_law_1186 : decode cL_law 1186 = .ok (.iload_n 3, 1) := by decide +kernel
theorem dL_law_1187 : decode cL_law 1187 = .ok (.iconst 1, 1) := by decide +kernel
theorem dL_law_1188 : decode cL_law 1188 = .ok (.iadd, 1) := by decide +kernel
theorem dL_law_1189 : decode cL_law 1189 = .ok (.iaload, 1) := by decide +kernel
theorem dL_law_1190 : decode cL_law 1190 = .ok (.aload_n 0, 1) := by decide +kernel
theorem dL_law_1191 : decode cL_law 1191 = .ok (.iload_n 3, 1) := by decide +kernel
theorem dL_law_1192 : decode cL_law 1192 = .ok (.iconst 2, 1) := by decide +kernel
theorem dL_law_1193 : decode cL_law 1193 = .ok (.iadd, 1) := by decide +kernel
theorem dL_law_1194 : decode cL_law 1194 = .ok (.iaload, 1) := by decide +kernel
theorem dL_law_1195 : decode cL_law 1195 = .ok (.aload_n 0, 1) := by decide +kernel
theorem dL_law_1196 : decode cL_law 1196 = .ok (.iload_n 3, 1) := by decide +kernel
theorem dL_law_1197 : decode cL_law 1197 = .ok (.iconst 3, 1) := by decide +kernel
theorem dL_law_1198 : decode cL_law 1198 = .ok (.iadd, 1) := by decide +kernel
theorem dL_law_1199 : decode cL_law 1199 = .ok (.iaload, 1) := by decide +kernel
theorem dL_law_1200 : decode cL_law 1200 = .ok (.invokevirtual 132, 3) := by decide +kernel
theorem dL_law_1203 : decode cL_law 1203 = .ok (.aload_n 2, 1) := by decide +kernel
theorem dL_law_1204 : decode cL_law 1204 = .ok (.aload_n 0, 1) := by decide +kernel
theorem dL_law_1205 : decode cL_law 1205 = .ok (.iload_n 3, 1) := by decide +kernel
theorem dL_law_1206 : decode cL_law 1206 = .ok (.iconst 1, 1) := by decide +kernel
theorem dL_law_1207 : decode cL_law 1207 = .ok (.iadd, 1) := by decide +kernel
theorem dL_law_1208 : decode cL_law 1208 = .ok (.iaload, 1) := by decide +kernel
theorem dL_law_1209 : decode cL_law 1209 = .ok (.aload_n 0, 1) := by decide +kernel
theorem dL_law_1210 : decode cL_law 1210 = .ok (.iload_n 3, 1) := by decide +kernel
theorem dL_law_1211 : decode cL_law 1211 = .ok (.iconst 2, 1) := by decide +kernel
theorem dL_law_1212 : decode cL_law 1212 = .ok (.iadd, 1) := by decide +kernel
theorem dL_law_1213 : decode cL_law 1213 = .ok (.iaload, 1) := by decide +kernel
theorem dL_law_1214 : decode cL_law 1214 = .ok (.aload_n 0, 1) := by decide +kernel
theorem dL_law_1215 : decode cL_law 1215 = .ok (.iload_n 3, 1) := by decide +kernel
theorem dL_law_1216 : decode cL_law 1216 = .ok (.iconst 3, 1) := by decide +kernel
theorem dL_law_1217 : decode cL_law 1217 = .ok (.iadd, 1) := by decide +kernel
theorem dL_law_1218 : decode cL_law 1218 = .ok (.iaload, 1) := by decide +kernel
theorem dL_law_1219 : decode cL_law 1219 = .ok (.invokevirtual 135, 3) := by decide +kernel
theorem dL_law_1222 : decode cL_law 1222 = .ok (.if_icmp .eq 397, 3) := by decide +kernel
theorem dL_law_1225 : decode cL_law 1225 = .ok (.iconst 0, 1) := by decide +kernel
theorem dL_law_1226 : decode cL_law 1226 = .ok (.ireturn, 1) := by decide +kernel
theorem dL_law_1227 : decode cL_law 1227 = .ok (.aload_n 1, 1) := by decide +kernel
theorem dL_law_1228 : decode cL_law 1228 = .ok (.aload_n 0, 1) := by decide +kernel
theorem dL_law_1229 : decode cL_law 1229 = .ok (.iload_n 3, 1) := by decide +kernel
theorem dL_law_1230 : decode cL_law 1230 = .ok (.iconst 1, 1) := by decide +kernel
theorem dL_law_1231 : decode cL_law 1231 = .ok (.iadd, 1) := by decide +kernel
theorem dL_law_1232 : decode cL_law 1232 = .ok (.iaload, 1) := by decide +kernel
theorem dL_law_1233 : decode cL_law 1233 = .ok (.invokevirtual 136, 3) := by decide +kernel
theorem dL_law_1236 : decode cL_law 1236 = .ok (.aload_n 2, 1) := by decide +kernel
theorem dL_law_1237 : decode cL_law 1237 = .ok (.aload_n 0, 1) := by decide +kernel
theorem dL_law_1238 : decode cL_law 1238 = .ok (.iload_n 3, 1) := by decide +kernel
theorem dL_law_1239 : decode cL_law 1239 = .ok (.iconst 1, 1) := by decide +kernel
theorem dL_law_1240 : decode cL_law 1240 = .ok (.iadd, 1) := by decide +kernel
theorem dL_law_1241 : decode cL_law 1241 = .ok (.iaload, 1) := by decide +kernel
theorem dL_law_1242 : decode cL_law 1242 = .ok (.invokevirtual 139, 3) := by decide +kernel
theorem dL_law_1245 : decode cL_law 1245 = .ok (.if_icmp .eq 374, 3) := by decide +kernel
theorem dL_law_1248 : decode cL_law 1248 = .ok (.iconst 0, 1) := by decide +kernel
theorem dL_law_1249 : decode cL_law 1249 = .ok (.ireturn, 1) := by decide +kernel
theorem dL_law_1250 : decode cL_law 1250 = .ok (.aload_n 1, 1) := by decide +kernel
theorem dL_law_1251 : decode cL_law 1251 = .ok (.aload_n 0, 1) := by decide +kernel
theorem dL_law_1252 : decode cL_law 1252 = .ok (.iload_n 3, 1) := by decide +kernel
theorem dL_law_1253 : decode cL_law 1253 = .ok (.iconst 1, 1) := by decide +kernel
theorem dL_law_1254 : decode cL_law 1254 = .ok (.iadd, 1) := by decide +kernel
theorem dL_law_1255 : decode cL_law 1255 = .ok (.iaload, 1) := by decide +kernel
theorem dL_law_1256 : decode cL_law 1256 = .ok (.aload_n 0, 1) := by decide +kernel
theorem dL_law_1257 : decode cL_law 1257 = .ok (.iload_n 3, 1) := by decide +kernel
theorem dL_law_1258 : decode cL_law 1258 = .ok (.iconst 2, 1) := by decide +kernel
theorem dL_law_1259 : decode cL_law 1259 = .ok (.iadd, 1) := by decide +kernel
theorem dL_law_1260 : decode cL_law 1260 = .ok (.iaload, 1) := by decide +kernel
theorem dL_law_1261 : decode cL_law 1261 = .ok (.aload_n 0, 1) := by decide +kernel
theorem dL_law_1262 : decode cL_law 1262 = .ok (.iload_n 3, 1) := by decide +kernel
theorem dL_law_1263 : decode cL_law 1263 = .ok (.iconst 3, 1) := by decide +kernel
theorem dL_law_1264 : decode cL_law 1264 = .ok (.iadd, 1) := by decide +kernel
theorem dL_law_1265 : decode cL_law 1265 = .ok (.iaload, 1) := by decide +kernel
theorem dL_law_1266 : decode cL_law 1266 = .ok (.invokevirtual 140, 3) := by decide +kernel
theorem dL_law_1269 : decode cL_law 1269 = .ok (.aload_n 2, 1) := by decide +kernel
theorem dL_law_1270 : decode cL_law 1270 = .ok (.aload_n 0, 1) := by decide +kernel
theorem dL_law_1271 : decode cL_law 1271 = .ok (.iload_n 3, 1) := by decide +kernel
theorem dL_law_1272 : decode cL_law 1272 = .ok (.iconst 1, 1) := by decide +kernel
theorem dL_law_1273 : decode cL_law 1273 = .ok (.iadd, 1) := by decide +kernel
theorem dL_law_1274 : decode cL_law 1274 = .ok (.iaload, 1) := by decide +kernel
theorem dL_law_1275 : decode cL_law 1275 = .ok (.aload_n 0, 1) := by decide +kernel
theorem dL_law_1276 : decode cL_law 1276 = .ok (.iload_n 3, 1) := by decide +kernel
theorem dL_law_1277 : decode cL_law 1277 = .ok (.iconst 2, 1) := by decide +kernel
theorem dL_law_1278 : decode cL_law 1278 = .ok (.iadd, 1) := by decide +kernel
theorem dL_law_1279 : decode cL_law 1279 = .ok (.iaload, 1) := by decide +kernel
theorem dL_law_1280 : decode cL_law 1280 = .ok (.aload_n 0, 1) := by decide +kernel
theorem dL_law_1281 : decode cL_law 1281 = .ok (.iload_n 3, 1) := by decide +kernel
theorem dL_law_1282 : decode cL_law 1282 = .ok (.iconst 3, 1) := by decide +kernel
theorem dL_law_1283 : decode cL_law 1283 = .ok (.iadd, 1) := by decide +kernel
theorem dL_law_1284 : decode cL_law 1284 = .ok (.iaload, 1) := by decide +kernel
theorem dL_law_1285 : decode cL_law 1285 = .ok (.invokevirtual 143, 3) := by decide +kernel
theorem dL_law_1288 : decode cL_law 1288 = .ok (.if_icmp .eq 331, 3) := by decide +kernel
theorem dL_law_1291 : decode cL_law 1291 = .ok (.iconst 0, 1) := by decide +kernel
theorem dL_law_1292 : decode cL_law 1292 = .ok (.ireturn, 1) := by decide +kernel
theorem dL_law_1293 : decode cL_law 1293 = .ok (.aload_n 1, 1) := by decide +kernel
theorem dL_law_1294 : decode cL_law 1294 = .ok (.aload_n 0, 1) := by decide +kernel
theorem dL_law_1295 : decode cL_law 1295 = .ok (.iload_n 3, 1) := by decide +kernel
theorem dL_law_1296 : decode cL_law 1296 = .ok (.iconst 1, 1) := by decide +kernel
theorem dL_law_1297 : decode cL_law 1297 = .ok (.iadd, 1) := by decide +kernel
theorem dL_law_1298 : decode cL_law 1298 = .ok (.iaload, 1) := by decide +kernel
theorem dL_law_1299 : decode cL_law 1299 = .ok (.invokevirtual 144, 3) := by decide +kernel
theorem dL_law_1302 : decode cL_law 1302 = .ok (.aload_n 2, 1) := by decide +kernel
theorem dL_law_1303 : decode cL_law 1303 = .ok (.aload_n 0, 1) := by decide +kernel
theorem dL_law_1304 : decode cL_law 1304 = .ok (.iload_n 3, 1) := by decide +kernel
theorem dL_law_1305 : decode cL_law 1305 = .ok (.iconst 1, 1) := by decide +kernel
theorem dL_law_1306 : decode cL_law 1306 = .ok (.iadd, 1) := by decide +kernel
theorem dL_law_1307 : decode cL_law 1307 = .ok (.iaload, 1) := by decide +kernel
theorem dL_law_1308 : decode cL_law 1308 = .ok (.invokevirtual 147, 3) := by decide +kernel
theorem dL_law_1311 : decode cL_law 1311 = .ok (.if_icmp .eq 308, 3) := by decide +kernel
theorem dL_law_1314 : decode cL_law 1314 = .ok (.iconst 0, 1) := by decide +kernel
theorem dL_law_1315 : decode cL_law 1315 = .ok (.ireturn, 1) := by decide +kernel
theorem dL_law_1316 : decode cL_law 1316 = .ok (.aload_n 1, 1) := by decide +kernel
theorem dL_law_1317 : decode cL_law 1317 = .ok (.aload_n 0, 1) := by decide +kernel
theorem dL_law_1318 : decode cL_law 1318 = .ok (.iload_n 3, 1) := by decide +kernel
theorem dL_law_1319 : decode cL_law 1319 = .ok (.iconst 1, 1) := by decide +kernel
theorem dL_law_1320 : decode cL_law 1320 = .ok (.iadd, 1) := by decide +kernel
theorem dL_law_1321 : decode cL_law 1321 = .ok (.iaload, 1) := by decide +kernel
theorem dL_law_1322 : decode cL_law 1322 = .ok (.aload_n 0, 1) := by decide +kernel
theorem dL_law_1323 : decode cL_law 1323 = .ok (.iload_n 3, 1) := by decide +kernel
theorem dL_law_1324 : decode cL_law 1324 = .ok (.iconst 2, 1) := by decide +kernel
theorem dL_law_1325 : decode cL_law 1325 = .ok (.iadd, 1) := by decide +kernel
theorem dL_law_1326 : decode cL_law 1326 = .ok (.iaload, 1) := by decide +kernel
theorem dL_law_1327 : decode cL_law 1327 = .ok (.aload_n 0, 1) := by decide +kernel
theorem dL_law_1328 : decode cL_law 1328 = .ok (.iload_n 3, 1) := by decide +kernel
theorem dL_law_1329 : decode cL_law 1329 = .ok (.iconst 3, 1) := by decide +kernel
theorem dL_law_1330 : decode cL_law 1330 = .ok (.iadd, 1) := by decide +kernel
theorem dL_law_1331 : decode cL_law 1331 = .ok (.iaload, 1) := by decide +kernel
theorem dL_law_1332 : decode cL_law 1332 = .ok (.invokevirtual 148, 3) := by decide +kernel
theorem dL_law_1335 : decode cL_law 1335 = .ok (.aload_n 2, 1) := by decide +kernel
theorem dL_law_1336 : decode cL_law 1336 = .ok (.aload_n 0, 1) := by decide +kernel
theorem dL_law_1337 : decode cL_law 1337 = .ok (.iload_n 3, 1) := by decide +kernel
theorem dL_law_1338 : decode cL_law 1338 = .ok (.iconst 1, 1) := by decide +kernel
theorem dL_law_1339 : decode cL_law 1339 = .ok (.iadd, 1) := by decide +kernel
theorem dL_law_1340 : decode cL_law 1340 = .ok (.iaload, 1) := by decide +kernel
theorem dL_law_1341 : decode cL_law 1341 = .ok (.aload_n 0, 1) := by decide +kernel
theorem dL_law_1342 : decode cL_law 1342 = .ok (.iload_n 3, 1) := by decide +kernel
theorem dL_law_1343 : decode cL_law 1343 = .ok (.iconst 2, 1) := by decide +kernel
theorem dL_law_1344 : decode cL_law 1344 = .ok (.iadd, 1) := by decide +kernel
theorem dL_law_1345 : decode cL_law 1345 = .ok (.iaload, 1) := by decide +kernel
theorem dL_law_1346 : decode cL_law 1346 = .ok (.aload_n 0, 1) := by decide +kernel
theorem dL_law_1347 : decode cL_law 1347 = .ok (.iload_n 3, 1) := by decide +kernel
theorem dL_law_1348 : decode cL_law 1348 = .ok (.iconst 3, 1) := by decide +kernel
theorem dL_law_1349 : decode cL_law 1349 = .ok (.iadd, 1) := by decide +kernel
theorem dL_law_1350 : decode cL_law 1350 = .ok (.iaload, 1) := by decide +kernel
theorem dL_law_1351 : decode cL_law 1351 = .ok (.invokevirtual 151, 3) := by decide +kernel
theorem dL_law_1354 : decode cL_law 1354 = .ok (.if_icmp .eq 265, 3) := by decide +kernel
theorem dL_law_1357 : decode cL_law 1357 = .ok (.iconst 0, 1) := by decide +kernel
theorem dL_law_1358 : decode cL_law 1358 = .ok (.ireturn, 1) := by decide +kernel
theorem dL_law_1359 : decode cL_law 1359 = .ok (.aload_n 1, 1) := by decide +kernel
theorem dL_law_1360 : decode cL_law 1360 = .ok (.aload_n 0, 1) := by decide +kernel
theorem dL_law_1361 : decode cL_law 1361 = .ok (.iload_n 3, 1) := by decide +kernel
theorem dL_law_1362 : decode cL_law 1362 = .ok (.iconst 1, 1) := by decide +kernel
theorem dL_law_1363 : decode cL_law 1363 = .ok (.iadd, 1) := by decide +kernel
theorem dL_law_1364 : decode cL_law 1364 = .ok (.iaload, 1) := by decide +kernel
theorem dL_law_1365 : decode cL_law 1365 = .ok (.aload_n 0, 1) := by decide +kernel
theorem dL_law_1366 : decode cL_law 1366 = .ok (.iload_n 3, 1) := by decide +kernel
theorem dL_law_1367 : decode cL_law 1367 = .ok (.iconst 2, 1) := by decide +kernel
theorem dL_law_1368 : decode cL_law 1368 = .ok (.iadd, 1) := by decide +kernel
theorem dL_law_1369 : decode cL_law 1369 = .ok (.iaload, 1) := by decide +kernel
theorem dL_law_1370 : decode cL_law 1370 = .ok (.aload_n 0, 1) := by decide +kernel
theorem dL_law_1371 : decode cL_law 1371 = .ok (.iload_n 3, 1) := by decide +kernel
theorem dL_law_1372 : decode cL_law 1372 = .ok (.iconst 3, 1) := by decide +kernel
theorem dL_law_1373 : decode cL_law 1373 = .ok (.iadd, 1) := by decide +kernel
theorem dL_law_1374 : decode cL_law 1374 = .ok (.iaload, 1) := by decide +kernel
theorem dL_law_1375 : decode cL_law 1375 = .ok (.invokevirtual 152, 3) := by decide +kernel
theorem dL_law_1378 : decode cL_law 1378 = .ok (.aload_n 2, 1) := by decide +kernel
theorem dL_law_1379 : decode cL_law 1379 = .ok (.aload_n 0, 1) := by decide +kernel
theorem dL_law_1380 : decode cL_law 1380 = .ok (.iload_n 3, 1) := by decide +kernel
theorem dL_law_1381 : decode cL_law 1381 = .ok (.iconst 1, 1) := by decide +kernel
theorem dL_law_1382 : decode cL_law 1382 = .ok (.iadd, 1) := by decide +kernel
theorem dL_law_1383 : decode cL_law 1383 = .ok (.iaload, 1) := by decide +kernel
theorem dL_law_1384 : decode cL_law 1384 = .ok (.aload_n 0, 1) := by decide +kernel
theorem dL_law_1385 : decode cL_law 1385 = .ok (.iload_n 3, 1) := by decide +kernel
theorem dL_law_1386 : decode cL_law 1386 = .ok (.iconst 2, 1) := by decide +kernel
theorem dL_law_1387 : decode cL_law 1387 = .ok (.iadd, 1) := by decide +kernel
theorem dL_law_1388 : decode cL_law 1388 = .ok (.iaload, 1) := by decide +kernel
theorem dL_law_1389 : decode cL_law 1389 = .ok (.aload_n 0, 1) := by decide +kernel
theorem dL_law_1390 : decode cL_law 1390 = .ok (.iload_n 3, 1) := by decide +kernel
theorem dL_law_1391 : decode cL_law 1391 = .ok (.iconst 3, 1) := by decide +kernel
theorem dL_law_1392 : decode cL_law 1392 = .ok (.iadd, 1) := by decide +kernel
theorem dL_law_1393 : decode cL_law 1393 = .ok (.iaload, 1) := by decide +kernel
theorem dL_law_1394 : decode cL_law 1394 = .ok (.invokevirtual 155, 3) := by decide +kernel
theorem dL_law_1397 : decode cL_law 1397 = .ok (.if_icmp .eq 222, 3) := by decide +kernel
theorem dL_law_1400 : decode cL_law 1400 = .ok (.iconst 0, 1) := by decide +kernel
theorem dL_law_1401 : decode cL_law 1401 = .ok (.ireturn, 1) := by decide +kernel
theorem dL_law_1402 : decode cL_law 1402 = .ok (.aload_n 1, 1) := by decide +kernel
theorem dL_law_1403 : decode cL_law 1403 = .ok (.aload_n 0, 1) := by decide +kernel
theorem dL_law_1404 : decode cL_law 1404 = .ok (.iload_n 3, 1) := by decide +kernel
theorem dL_law_1405 : decode cL_law 1405 = .ok (.iconst 1, 1) := by decide +kernel
theorem dL_law_1406 : decode cL_law 1406 = .ok (.iadd, 1) := by decide +kernel
theorem dL_law_1407 : decode cL_law 1407 = .ok (.iaload, 1) := by decide +kernel
theorem dL_law_1408 : decode cL_law 1408 = .ok (.aload_n 0, 1) := by decide +kernel
theorem dL_law_1409 : decode cL_law 1409 = .ok (.iload_n 3, 1) := by decide +kernel
theorem dL_law_1410 : decode cL_law 1410 = .ok (.iconst 2, 1) := by decide +kernel
theorem dL_law_1411 : decode cL_law 1411 = .ok (.iadd, 1) := by decide +kernel
theorem dL_law_1412 : decode cL_law 1412 = .ok (.iaload, 1) := by decide +kernel
theorem dL_law_1413 : decode cL_law 1413 = .ok (.aload_n 0, 1) := by decide +kernel
theorem dL_law_1414 : decode cL_law 1414 = .ok (.iload_n 3, 1) := by decide +kernel
theorem dL_law_1415 : decode cL_law 1415 = .ok (.iconst 3, 1) := by decide +kernel
theorem dL_law_1416 : decode cL_law 1416 = .ok (.iadd, 1) := by decide +kernel
theorem dL_law_1417 : decode cL_law 1417 = .ok (.iaload, 1) := by decide +kernel
theorem dL_law_1418 : decode cL_law 1418 = .ok (.aload_n 0, 1) := by decide +kernel
theorem dL_law_1419 : decode cL_law 1419 = .ok (.iload_n 3, 1) := by decide +kernel
theorem dL_law_1420 : decode cL_law 1420 = .ok (.iconst 4, 1) := by decide +kernel
theorem dL_law_1421 : decode cL_law 1421 = .ok (.iadd, 1) := by decide +kernel
theorem dL_law_1422 : decode cL_law 1422 = .ok (.iaload, 1) := by decide +kernel
theorem dL_law_1423 : decode cL_law 1423 = .ok (.aload_n 0, 1) := by decide +kernel
theorem dL_law_1424 : decode cL_law 1424 = .ok (.iload_n 3, 1) := by decide +kernel
theorem dL_law_1425 : decode cL_law 1425 = .ok (.iconst 5, 1) := by decide +kernel
theorem dL_law_1426 : decode cL_law 1426 = .ok (.iadd, 1) := by decide +kernel
theorem dL_law_1427 : decode cL_law 1427 = .ok (.iaload, 1) := by decide +kernel
theorem dL_law_1428 : decode cL_law 1428 = .ok (.invokevirtual 156, 3) := by decide +kernel
theorem dL_law_1431 : decode cL_law 1431 = .ok (.aload_n 2, 1) := by decide +kernel
theorem dL_law_1432 : decode cL_law 1432 = .ok (.aload_n 0, 1) := by decide +kernel
theorem dL_law_1433 : decode cL_law 1433 = .ok (.iload_n 3, 1) := by decide +kernel
theorem dL_law_1434 : decode cL_law 1434 = .ok (.iconst 1, 1) := by decide +kernel
theorem dL_law_1435 : decode cL_law 1435 = .ok (.iadd, 1) := by decide +kernel
theorem dL_law_1436 : decode cL_law 1436 = .ok (.iaload, 1) := by decide +kernel
theorem dL_law_1437 : decode cL_law 1437 = .ok (.aload_n 0, 1) := by decide +kernel
theorem dL_law_1438 : decode cL_law 1438 = .ok (.iload_n 3, 1) := by decide +kernel
theorem dL_law_1439 : decode cL_law 1439 = .ok (.iconst 2, 1) := by decide +kernel
theorem dL_law_1440 : decode cL_law 1440 = .ok (.iadd, 1) := by decide +kernel
theorem dL_law_1441 : decode cL_law 1441 = .ok (.iaload, 1) := by decide +kernel
theorem dL_law_1442 : decode cL_law 1442 = .ok (.aload_n 0, 1) := by decide +kernel
theorem dL_law_1443 : decode cL_law 1443 = .ok (.iload_n 3, 1) := by decide +kernel
theorem dL_law_1444 : decode cL_law 1444 = .ok (.iconst 3, 1) := by decide +kernel
theorem dL_law_1445 : decode cL_law 1445 = .ok (.iadd, 1) := by decide +kernel
theorem dL_law_1446 : decode cL_law 1446 = .ok (.iaload, 1) := by decide +kernel
theorem dL_law_1447 : decode cL_law 1447 = .ok (.aload_n 0, 1) := by decide +kernel
theorem dL_law_1448 : decode cL_law 1448 = .ok (.iload_n 3, 1) := by decide +kernel
theorem dL_law_1449 : decode cL_law 1449 = .ok (.iconst 4, 1) := by decide +kernel
theorem dL_law_1450 : decode cL_law 1450 = .ok (.iadd, 1) := by decide +kernel
theorem dL_law_1451 : decode cL_law 1451 = .ok (.iaload, 1) := by decide +kernel
theorem dL_law_1452 : decode cL_law 1452 = .ok (.aload_n 0, 1) := by decide +kernel
theorem dL_law_1453 : decode cL_law 1453 = .ok (.iload_n 3, 1) := by decide +kernel
theorem dL_law_1454 : decode cL_law 1454 = .ok (.iconst 5, 1) := by decide +kernel
theorem dL_law_1455 : decode cL_law 1455 = .ok (.iadd, 1) := by decide +kernel
theorem dL_law_1456 : decode cL_law 1456 = .ok (.iaload, 1) := by decide +kernel
theorem dL_law_1457 : decode cL_law 1457 = .ok (.invokevirtual 160, 3) := by decide +kernel
theorem dL_law_1460 : decode cL_law 1460 = .ok (.if_icmp .eq 159, 3) := by decide +kernel
theorem dL_law_1463 : decode cL_law 1463 = .ok (.iconst 0, 1) := by decide +kernel
theorem dL_law_1464 : decode cL_law 1464 = .ok (.ireturn, 1) := by decide +kernel
theorem dL_law_1465 : decode cL_law 1465 = .ok (.aload_n 1, 1) := by decide +kernel
theorem dL_law_1466 : decode cL_law 1466 = .ok (.aload_n 0, 1) := by decide +kernel
theorem dL_law_1467 : decode cL_law 1467 = .ok (.iload_n 3, 1) := by decide +kernel
theorem dL_law_1468 : decode cL_law 1468 = .ok (.iconst 1, 1) := by decide +kernel
theorem dL_law_1469 : decode cL_law 1469 = .ok (.iadd, 1) := by decide +kernel
theorem dL_law_1470 : decode cL_law 1470 = .ok (.iaload, 1) := by decide +kernel
theorem dL_law_1471 : decode cL_law 1471 = .ok (.invokevirtual 161, 3) := by decide +kernel
theorem dL_law_1474 : decode cL_law 1474 = .ok (.aload_n 2, 1) := by decide +kernel
theorem dL_law_1475 : decode cL_law 1475 = .ok (.aload_n 0, 1) := by decide +kernel
theorem dL_law_1476 : decode cL_law 1476 = .ok (.iload_n 3, 1) := by decide +kernel
theorem dL_law_1477 : decode cL_law 1477 = .ok (.iconst 1, 1) := by decide +kernel
theorem dL_law_1478 : decode cL_law 1478 = .ok (.iadd, 1) := by decide +kernel
theorem dL_law_1479 : decode cL_law 1479 = .ok (.iaload, 1) := by decide +kernel
theorem dL_law_1480 : decode cL_law 1480 = .ok (.invokevirtual 164, 3) := by decide +kernel
theorem dL_law_1483 : decode cL_law 1483 = .ok (.if_icmp .eq 136, 3) := by decide +kernel
theorem dL_law_1486 : decode cL_law 1486 = .ok (.iconst 0, 1) := by decide +kernel
theorem dL_law_1487 : decode cL_law 1487 = .ok (.ireturn, 1) := by decide +kernel
theorem dL_law_1488 : decode cL_law 1488 = .ok (.aload_n 1, 1) := by decide +kernel
theorem dL_law_1489 : decode cL_law 1489 = .ok (.aload_n 0, 1) := by decide +kernel
theorem dL_law_1490 : decode cL_law 1490 = .ok (.iload_n 3, 1) := by decide +kernel
theorem dL_law_1491 : decode cL_law 1491 = .ok (.iconst 1, 1) := by decide +kernel
theorem dL_law_1492 : decode cL_law 1492 = .ok (.iadd, 1) := by decide +kernel
theorem dL_law_1493 : decode cL_law 1493 = .ok (.iaload, 1) := by decide +kernel
theorem dL_law_1494 : decode cL_law 1494 = .ok (.invokevirtual 165, 3) := by decide +kernel
theorem dL_law_1497 : decode cL_law 1497 = .ok (.aload_n 2, 1) := by decide +kernel
theorem dL_law_1498 : decode cL_law 1498 = .ok (.aload_n 0, 1) := by decide +kernel
theorem dL_law_1499 : decode cL_law 1499 = .ok (.iload_n 3, 1) := by decide +kernel
theorem dL_law_1500 : decode cL_law 1500 = .ok (.iconst 1, 1) := by decide +kernel
theorem dL_law_1501 : decode cL_law 1501 = .ok (.iadd, 1) := by decide +kernel
theorem dL_law_1502 : decode cL_law 1502 = .ok (.iaload, 1) := by decide +kernel
theorem dL_law_1503 : decode cL_law 1503 = .ok (.invokevirtual 168, 3) := by decide +kernel
theorem dL_law_1506 : decode cL_law 1506 = .ok (.if_icmp .eq 113, 3) := by decide +kernel
theorem dL_law_1509 : decode cL_law 1509 = .ok (.iconst 0, 1) := by decide +kernel
theorem dL_law_1510 : decode cL_law 1510 = .ok (.ireturn, 1) := by decide +kernel
theorem dL_law_1511 : decode cL_law 1511 = .ok (.aload_n 1, 1) := by decide +kernel
theorem dL_law_1512 : decode cL_law 1512 = .ok (.invokevirtual 169, 3) := by decide +kernel
theorem dL_law_1515 : decode cL_law 1515 = .ok (.aload_n 2, 1) := by decide +kernel
theorem dL_law_1516 : decode cL_law 1516 = .ok (.invokevirtual 173, 3) := by decide +kernel
theorem dL_law_1519 : decode cL_law 1519 = .ok (.if_icmp .eq 100, 3) := by decide +kernel
theorem dL_law_1522 : decode cL_law 1522 = .ok (.iconst 0, 1) := by decide +kernel
theorem dL_law_1523 : decode cL_law 1523 = .ok (.ireturn, 1) := by decide +kernel
theorem dL_law_1524 : decode cL_law 1524 = .ok (.aload_n 1, 1) := by decide +kernel
theorem dL_law_1525 : decode cL_law 1525 = .ok (.invokevirtual 174, 3) := by decide +kernel
theorem dL_law_1528 : decode cL_law 1528 = .ok (.aload_n 2, 1) := by decide +kernel
theorem dL_law_1529 : decode cL_law 1529 = .ok (.invokevirtual 177, 3) := by decide +kernel
theorem dL_law_1532 : decode cL_law 1532 = .ok (.if_icmp .eq 87, 3) := by decide +kernel
theorem dL_law_1535 : decode cL_law 1535 = .ok (.iconst 0, 1) := by decide +kernel
theorem dL_law_1536 : decode cL_law 1536 = .ok (.ireturn, 1) := by decide +kernel
theorem dL_law_1537 : decode cL_law 1537 = .ok (.aload_n 1, 1) := by decide +kernel
theorem dL_law_1538 : decode cL_law 1538 = .ok (.aload_n 0, 1) := by decide +kernel
theorem dL_law_1539 : decode cL_law 1539 = .ok (.iload_n 3, 1) := by decide +kernel
theorem dL_law_1540 : decode cL_law 1540 = .ok (.iconst 1, 1) := by decide +kernel
theorem dL_law_1541 : decode cL_law 1541 = .ok (.iadd, 1) := by decide +kernel
theorem dL_law_1542 : decode cL_law 1542 = .ok (.iaload, 1) := by decide +kernel
theorem dL_law_1543 : decode cL_law 1543 = .ok (.invokevirtual 178, 3) := by decide +kernel
theorem dL_law_1546 : decode cL_law 1546 = .ok (.aload_n 2, 1) := by decide +kernel
theorem dL_law_1547 : decode cL_law 1547 = .ok (.aload_n 0, 1) := by decide +kernel
theorem dL_law_1548 : decode cL_law 1548 = .ok (.iload_n 3, 1) := by decide +kernel
theorem dL_law_1549 : decode cL_law 1549 = .ok (.iconst 1, 1) := by decide +kernel
theorem dL_law_1550 : decode cL_law 1550 = .ok (.iadd, 1) := by decide +kernel
theorem dL_law_1551 : decode cL_law 1551 = .ok (.iaload, 1) := by decide +kernel
theorem dL_law_1552 : decode cL_law 1552 = .ok (.invokevirtual 181, 3) := by decide +kernel
theorem dL_law_1555 : decode cL_law 1555 = .ok (.if_icmp .eq 64, 3) := by decide +kernel
theorem dL_law_1558 : decode cL_law 1558 = .ok (.iconst 0, 1) := by decide +kernel
theorem dL_law_1559 : decode cL_law 1559 = .ok (.ireturn, 1) := by decide +kernel
theorem dL_law_1560 : decode cL_law 1560 = .ok (.aload_n 1, 1) := by decide +kernel
theorem dL_law_1561 : decode cL_law 1561 = .ok (.invokevirtual 182, 3) := by decide +kernel
theorem dL_law_1564 : decode cL_law 1564 = .ok (.aload_n 2, 1) := by decide +kernel
theorem dL_law_1565 : decode cL_law 1565 = .ok (.invokevirtual 185, 3) := by decide +kernel
theorem dL_law_1568 : decode cL_law 1568 = .ok (.if_icmp .eq 51, 3) := by decide +kernel
theorem dL_law_1571 : decode cL_law 1571 = .ok (.iconst 0, 1) := by decide +kernel
theorem dL_law_1572 : decode cL_law 1572 = .ok (.ireturn, 1) := by decide +kernel
theorem dL_law_1573 : decode cL_law 1573 = .ok (.aload_n 1, 1) := by decide +kernel
theorem dL_law_1574 : decode cL_law 1574 = .ok (.aload_n 0, 1) := by decide +kernel
theorem dL_law_1575 : decode cL_law 1575 = .ok (.iload_n 3, 1) := by decide +kernel
theorem dL_law_1576 : decode cL_law 1576 = .ok (.iconst 1, 1) := by decide +kernel
theorem dL_law_1577 : decode cL_law 1577 = .ok (.iadd, 1) := by decide +kernel
theorem dL_law_1578 : decode cL_law 1578 = .ok (.iaload, 1) := by decide +kernel
theorem dL_law_1579 : decode cL_law 1579 = .ok (.invokevirtual 186, 3) := by decide +kernel
theorem dL_law_1582 : decode cL_law 1582 = .ok (.aload_n 2, 1) := by decide +kernel
theorem dL_law_1583 : decode cL_law 1583 = .ok (.aload_n 0, 1) := by decide +kernel
theorem dL_law_1584 : decode cL_law 1584 = .ok (.iload_n 3, 1) := by decide +kernel
theorem dL_law_1585 : decode cL_law 1585 = .ok (.iconst 1, 1) := by decide +kernel
theorem dL_law_1586 : decode cL_law 1586 = .ok (.iadd, 1) := by decide +kernel
theorem dL_law_1587 : decode cL_law 1587 = .ok (.iaload, 1) := by decide +kernel
theorem dL_law_1588 : decode cL_law 1588 = .ok (.invokevirtual 189, 3) := by decide +kernel
theorem dL_law_1591 : decode cL_law 1591 = .ok (.if_icmp .eq 28, 3) := by decide +kernel
theorem dL_law_1594 : decode cL_law 1594 = .ok (.iconst 0, 1) := by decide +kernel
theorem dL_law_1595 : decode cL_law 1595 = .ok (.ireturn, 1) := by decide +kernel
theorem dL_law_1596 : decode cL_law 1596 = .ok (.aload_n 1, 1) := by decide +kernel
theorem dL_law_1597 : decode cL_law 1597 = .ok (.aload_n 0, 1) := by decide +kernel
theorem dL_law_1598 : decode cL_law 1598 = .ok (.iload_n 3, 1) := by decide +kernel
theorem dL_law_1599 : decode cL_law 1599 = .ok (.iconst 1, 1) := by decide +kernel
theorem dL_law_1600 : decode cL_law 1600 = .ok (.iadd, 1) := by decide +kernel
theorem dL_law_1601 : decode cL_law 1601 = .ok (.iaload, 1) := by decide +kernel
theorem dL_law_1602 : decode cL_law 1602 = .ok (.invokevirtual 190, 3) := by decide +kernel
theorem dL_law_1605 : decode cL_law 1605 = .ok (.aload_n 2, 1) := by decide +kernel
theorem dL_law_1606 : decode cL_law 1606 = .ok (.aload_n 0, 1) := by decide +kernel
theorem dL_law_1607 : decode cL_law 1607 = .ok (.iload_n 3, 1) := by decide +kernel
theorem dL_law_1608 : decode cL_law 1608 = .ok (.iconst 1, 1) := by decide +kernel
theorem dL_law_1609 : decode cL_law 1609 = .ok (.iadd, 1) := by decide +kernel
theorem dL_law_1610 : decode cL_law 1610 = .ok (.iaload, 1) := by decide +kernel
theorem dL_law_1611 : decode cL_law 1611 = .ok (.invokevirtual 193, 3) := by decide +kernel
theorem dL_law_1614 : decode cL_law 1614 = .ok (.if_icmp .eq 5, 3) := by decide +kernel
theorem dL_law_1617 : decode cL_law 1617 = .ok (.iconst 0, 1) := by decide +kernel
theorem dL_law_1618 : decode cL_law 1618 = .ok (.ireturn, 1) := by decide +kernel
theorem dL_law_1619 : decode cL_law 1619 = .ok (.iinc 3 6, 3) := by decide +kernel
theorem dL_law_1622 : decode cL_law 1622 = .ok (.goto (-1604), 3) := by decide +kernel
theorem dL_law_1625 : decode cL_law 1625 = .ok (.iconst 1, 1) := by decide +kernel
theorem dL_law_1626 : decode cL_law 1626 = .ok (.ireturn, 1) := by decide +kernel
end
section
/-! THE LAYER J: the heap of both objects as one table of ints m : cell -> slot -> Int32; which cells there are and which slots hold references is fixed (plan, rsT). -/
abbrev MD : Type := MethodName × ByteArray × Nat × Option FieldType
abbrev Mem : Type := Nat → Nat → Int32
abbrev Gv : Type := State × (Nat → ClassId) × (Nat → Nat → Nat) × (Nat → ClassId) × (Nat → Nat)
abbrev gB (g : Gv) : Nat := g.1.heap.size
abbrev gD (g : Gv) : va_G := (g.2.1, g.2.2.1)
abbrev gc (g : Gv) : Nat → ClassId := g.2.2.2.1
abbrev ga (g : Gv) : Nat → Nat := g.2.2.2.2
def rf (g : Gv) (a : Nat) : Value := .ref (ga g a)
/-- a cell: 0 an object (its class, its fields), 1 an int array (its length), 2 an array of references (its class among gc, its length) -/
def plan : List (Nat × Nat × Nat) := [(0, 11, 11), (2, 1, 7), (0, 5, 0), (0, 7, 0), (0, 1, 0), (0, 0, 0), (0, 3, 0), (0, 2, 0), (0, 4, 0),
  (0, 10, 14), (1, 0, 16), (1, 0, 16), (1, 0, 8), (1, 0, 8), (1, 0, 8), (1, 0, 8), (1, 0, 8), (1, 0, 8),
  (0, 10, 14), (1, 0, 16), (1, 0, 16), (1, 0, 8), (1, 0, 8), (1, 0, 8), (1, 0, 8), (1, 0, 8), (1, 0, 8),
  (0, 10, 14), (1, 0, 16), (1, 0, 16), (1, 0, 8), (1, 0, 8), (1, 0, 8), (1, 0, 8), (1, 0, 8), (1, 0, 8),
  (0, 8, 7), (1, 0, 50), (1, 0, 20), (0, 6, 9), (1, 0, 50), (1, 0, 50), (1, 0, 50), (0, 6, 9), (1, 0, 50), (1, 0, 50), (1, 0, 50),
  (0, 8, 7), (1, 0, 50), (1, 0, 20), (0, 6, 9), (1, 0, 50), (1, 0, 50), (1, 0, 50), (0, 6, 9), (1, 0, 50), (1, 0, 50), (1, 0, 50),
  (0, 9, 4), (1, 0, 40), (2, 2, 4), (1, 0, 40), (1, 0, 40), (1, 0, 40), (1, 0, 40), (1, 0, 4), (1, 0, 4), (1, 0, 6),
  (0, 12, 22), (1, 0, 260), (1, 0, 260), (1, 0, 88), (1, 0, 6), (1, 0, 3), (1, 0, 60), (1, 0, 60), (1, 0, 40), (1, 0, 4), (1, 0, 4), (1, 0, 160), (1, 0, 40)]
/-- the slots that hold references: 1 more than the cell that they name (101, 102: the two Strings) -/
def rsT : List (List Nat) := [[10, 19, 28, 37, 48, 59, 61, 66, 67, 68, 0], [3, 4, 5, 6, 7, 8, 9], [], [], [], [], [], [], [],
  [2, 11, 12, 13, 14, 15, 16, 17, 18, 0, 0, 0, 0, 0], [], [], [], [], [], [], [], [],
  [2, 20, 21, 22, 23, 24, 25, 26, 27, 0, 0, 0, 0, 0], [], [], [], [], [], [], [], [],
  [2, 29, 30, 31, 32, 33, 34, 35, 36, 0, 0, 0, 0, 0], [], [], [], [], [], [], [], [],
  [38, 39, 40, 44, 0, 0, 0], [], [], [101, 0, 41, 0, 42, 43, 0, 0, 0], [], [], [], [102, 0, 45, 0, 46, 47, 0, 0, 0], [], [], [],
  [49, 50, 51, 55, 0, 0, 0], [], [], [101, 0, 52, 0, 53, 54, 0, 0, 0], [], [], [], [102, 0, 56, 0, 57, 58, 0, 0, 0], [], [], [],
  [60, 0, 0, 0], [], [62, 63, 64, 65], [], [], [], [], [], [], [],
  [70, 71, 72, 0, 73, 0, 0, 0, 0, 0, 0, 74, 75, 0, 76, 77, 0, 0, 78, 79, 80, 81], [], [], [], [], [], [], [], [], [], [], [], []]
def tg (a : Nat) : Nat := (plan.getD a (9, 0, 0)).1
def cx (a : Nat) : Nat := (plan.getD a (9, 0, 0)).2.1
def ln (a : Nat) : Nat := (plan.getD a (9, 0, 0)).2.2
def rs (a k : Nat) : Nat := (rsT.getD a []).getD k 0
def fv (g : Gv) (m : Mem) (a k : Nat) : Value := match rs a k with
  | 0 => .int (m a k)
  | c + 1 => rf g c
def cellOf (g : Gv) (m : Mem) (a : Nat) : va_E := if tg a = 0 then .inr (cx a, (List.range (ln a)).map (fv g m a)) else if tg a = 1 then .inl (gc g 0, ln a, .inl (m a)) else .inl (gc g (cx a), ln a, .inr (.inr (.inr (.inr (fun k => some (ga g (rs a k - 1)))))))
def Wd (g : Gv) (m : Mem) : va_W := (List.range 81).map (fun a => (ga g a, cellOf g m a))
def cls : List vw_C := [(RX0, TX0, 0), (RX1, TX1, 0), (RX2, TX2, 0), (RX3, TX3, 0), (RX4, TX4, 0), (RX5, TX5, 0), (RX6, TX6, 9), (RX7, TX7, 0), (RX8, TX8, 7), (RX9, TX9, 4), (RX10, TX10, 14), (RX11, TX11, 11), (RX12, TX12, 22)]
def tys (g : Gv) : List (ClassId × FieldType) := [(gc g 0, .int), (gc g 1, .object RX5), (gc g 2, .array .int)]
def up2 (m : Mem) (a k : Nat) (v : Int32) : Mem := fun b j => if b = a ∧ j = k then v else m b j
/-- what is fixed in the run: classes, where cells lie; what the start says of Strings and statics is asked of g.1 -/
def G0 (g : Gv) : Prop := va_K (gD g) cls (tys g) g.1 ∧ (∀ i j : Nat, i < 81 → j < 81 → ga g i = ga g j → i = j) ∧ (∀ i : Nat, i < 81 → gB g ≤ ga g i) ∧ (∀ w ∈ lw_tbl, w.before #[] g.1 = true) ∧ ∃ a : Array Value, (Jvm.Cond.and given_1 narrow_1).before a g.1 = true
def GV (g : Gv) (U : State) : Prop := G0 g ∧ g.1.vm.Alike U.vm
def RH (g : Gv) (m : Mem) (H : Heap) : Prop := va_P (gD g) cls (Wd g m) H ∧ gB g ≤ H.size ∧ ∀ q : Nat, q < gB g → H[q]? = g.1.heap[q]?
def lvl : Nat → List (Option Value) → List (Nat × Value)
  | _, [] => []
  | i, none :: r => lvl (i + 1) r
  | i, some v :: r => (i, v) :: lvl (i + 1) r
/-- the words that stay good over a call -/
def lw_gd : List Cond := lw_tbl.filter goodWord
theorem gd {w : Cond} (h : w ∈ lw_tbl) (hg : goodWord w = true) : w ∈ lw_gd := List.mem_filter.mpr ⟨h, hg⟩
theorem gd_in : GoodIn lw_gd lw_gd := fun w h => ⟨h, good_of_word (List.mem_filter.mp h).2⟩
def Cx (g : Gv) (y : MD) (p : Program) (s : State) (m : MethodId) (args : Array Value) (meth : Method) (c : Code) : Prop :=
  p.tables.exec = Jvm.exec ∧ c.code = y.2.1 ∧ meth.sig.returnType = y.2.2.2 ∧ c.maxLocals = y.2.2.1 ∧ s.vm.findClass y.1.cls = some m.cls ∧ (∀ w ∈ lw_gd, w.before args s = true) ∧ meth.locks = false ∧ GV g s
def rmOf (d : Nat) : Room := { frames := d, cells := 0, slots := 0, locals := 40 * d }
def JQ (g : Gv) (Q : Option Value → Mem → Prop) : Array Value → State → Outcome → State → Prop := fun _ _ oc t => ∃ (r : Option Value) (m' : Mem), oc = .returned r ∧ Q r m' ∧ RH g m' t.heap ∧ GV g t
def Fz (g : Gv) : Addr → Prop := fun q => gB g ≤ q
def J (l : Launch) (g : Gv) (d : Nat) (y : MD) (pc : Nat) (ls : List (Option Value)) (st : List Value) (m : Mem) (Q : Option Value → Mem → Prop) : Prop :=
  ∀ (p : Program) (e : Env) (s : State) (mi : MethodId) (args : Array Value) (below : List Frame) (meth : Method) (c : Code) (H : Heap) (locs : List Loc) (la : Array Slot),
    Cx g y p s mi args meth c → RH g m H → (∀ q ∈ locs, Fz g q.base) → lv_has la y.2.2.1 (lvl 0 ls) →
    W p l e (rmOf d) s mi args below meth c H locs 0 0 (MQ below (JQ g Q) args s 0 0 (Fz g)) (F0 mi pc la st)
def JM (l : Launch) (g : Gv) (d : Nat) (y : MD) (as : List Value) (m : Mem) (Q : Option Value → Mem → Prop) : Prop :=
  Met l y.1 (.code y.1 y.2.1 y.2.2.1 y.2.2.2 :: lw_gd) (rmOf d) (va_Pc as (fun U => RH g m U.heap ∧ GV g U)) (JQ g Q) 0 0 (Fz g)
theorem Wd_get (g : Gv) (m : Mem) {a : Nat} (h : a < 81) : (Wd g m)[a]? = some (ga g a, cellOf g m a) := by
  unfold Wd
  rw [List.getElem?_map, List.getElem?_range h]
  rfl
theorem Wd_D {g : Gv} (h : G0 g) (m : Mem) : va_D (Fz g) (Wd g m) := by
  have key : ∀ (k : Nat) (q : Nat × va_E), (Wd g m)[k]? = some q → k < 81 ∧ q.1 = ga g k := by
    intro k q hk
    by_cases hl : k < 81
    · rw [Wd_get g m hl] at hk
      cases hk
      exact ⟨hl, rfl⟩
    · rw [List.getElem?_eq_none (by unfold Wd; simp; omega)] at hk
      cases hk
  refine ⟨fun i j p q hi hj hpq => ?_, fun k q hk => ?_⟩
  · obtain ⟨a1, a2⟩ := key i p hi
    obtain ⟨b1, b2⟩ := key j q hj
    exact h.2.1 i j a1 b1 (by rw [← a2, ← b2]; exact hpq)
  · obtain ⟨a1, a2⟩ := key k q hk
    show gB g ≤ q.1
    rw [a2]
    exact h.2.2.1 k a1
theorem fv_up {g : Gv} {m : Mem} {a k : Nat} {v : Int32} (hr : rs a k = 0) (j : Nat) : fv g (up2 m a k v) a j = if j = k then .int v else fv g m a j := by
  unfold fv
  by_cases hj : j = k
  · subst hj
    rw [hr, if_pos rfl]
    show Value.int (up2 m a j v a j) = _
    unfold up2
    rw [if_pos ⟨rfl, rfl⟩]
  · rw [if_neg hj]
    have e : up2 m a k v a j = m a j := by unfold up2; rw [if_neg (fun h => hj h.2)]
    rw [e]
theorem fv_other {g : Gv} {m : Mem} {a k b : Nat} {v : Int32} (hb : b ≠ a) : fv g (up2 m a k v) b = fv g m b := by
  funext j
  unfold fv
  have e : up2 m a k v b j = m b j := by unfold up2; rw [if_neg (fun h => hb h.1)]
  rw [e]
theorem cell_other {g : Gv} {m : Mem} {a k b : Nat} {v : Int32} (hb : b ≠ a) : cellOf g (up2 m a k v) b = cellOf g m b := by
  unfold cellOf
  rw [fv_other hb]
  have e : up2 m a k v b = m b := by funext j; unfold up2; rw [if_neg (fun h => hb h.1)]
  rw [e]
theorem Wd_set {g : Gv} {m : Mem} {a k : Nat} {v : Int32} {e : va_E} (ha : a < 81) (he : cellOf g (up2 m a k v) a = e) : (Wd g m).set a (ga g a, e) = Wd g (up2 m a k v) := by
  apply List.ext_getElem?
  intro i
  by_cases hi : i < 81
  · rw [Wd_get g _ hi]
    by_cases h : i = a
    · subst h
      rw [List.getElem?_set_self (by unfold Wd; simp; exact hi), he]
    · rw [List.getElem?_set_ne (Ne.symm h), Wd_get g _ hi, cell_other h]
  · rw [List.getElem?_eq_none (by unfold Wd; simp; omega), List.getElem?_eq_none (by unfold Wd; simp; omega)]
theorem map_up {g : Gv} {m : Mem} {a k n : Nat} {v : Int32} (hr : rs a k = 0) (hk : k < n) : ((List.range n).map (fv g m a)).set k (.int v) = (List.range n).map (fv g (up2 m a k v) a) := by
  apply List.ext_getElem?
  intro i
  by_cases hi : i < n
  · rw [List.getElem?_map, List.getElem?_range hi]
    by_cases h : i = k
    · subst h
      rw [List.getElem?_set_self (by simp; exact hi)]
      show _ = some (fv g (up2 m a i v) a i)
      rw [fv_up hr, if_pos rfl]
    · rw [List.getElem?_set_ne (Ne.symm h), List.getElem?_map, List.getElem?_range hi]
      show some (fv g m a i) = some (fv g (up2 m a k v) a i)
      rw [fv_up hr, if_neg h]
  · rw [List.getElem?_eq_none (by simp; omega), List.getElem?_eq_none (by simp; omega)]
theorem cell_obj {g : Gv} {m : Mem} {a : Nat} (h : tg a = 0) : cellOf g m a = .inr (cx a, (List.range (ln a)).map (fv g m a)) := by unfold cellOf; rw [if_pos h]
theorem cell_arr {g : Gv} {m : Mem} {a : Nat} (h : tg a = 1) : cellOf g m a = .inl (gc g 0, ln a, .inl (m a)) := by unfold cellOf; rw [if_neg (by omega), if_pos h]
theorem cell_ref {g : Gv} {m : Mem} {a : Nat} (h : tg a = 2) : cellOf g m a = .inl (gc g (cx a), ln a, .inr (.inr (.inr (.inr (fun k => some (ga g (rs a k - 1))))))) := by unfold cellOf; rw [if_neg (by omega), if_neg (by omega)]
theorem GV.K {g : Gv} {U : State} (h : GV g U) : va_K (gD g) cls (tys g) U := va_K.moved h.2 h.1.1
theorem GV.alike {g : Gv} {s t : State} (h : GV g s) (ht : s.vm.Alike t.vm) : GV g t := ⟨h.1, h.2.trans ht⟩
theorem RH.S {g : Gv} {m : Mem} {H : Heap} {locs : List Loc} (h : RH g m H) (hl : ∀ q ∈ locs, Fz g q.base) : va_S (Fz g) g.1.heap H locs := ⟨h.2.1, fun q h1 _ => h.2.2 q h1, hl⟩
theorem RH.of {g : Gv} {m : Mem} {H : Heap} {locs : List Loc} (hP : va_P (gD g) cls (Wd g m) H) (hS : va_S (Fz g) g.1.heap H locs) : RH g m H ∧ ∀ q ∈ locs, Fz g q.base := ⟨⟨hP, hS.1, fun q h => hS.2.1 q h (Nat.not_le.mpr h)⟩, hS.2.2⟩
/-- a list of locals: reading and writing -/
theorem lvl_mem : ∀ (ls : List (Option Value)) (i k : Nat) (v : Value), ls[k]? = some (some v) → (i + k, v) ∈ lvl i ls
  | [], i, k, v, h => by simp at h
  | none :: r, i, 0, v, h => by simp at h
  | some w :: r, i, 0, v, h => by
    have e : w = v := by simpa using h
    subst e
    exact List.mem_cons_self
  | none :: r, i, k + 1, v, h => by
    have h1 := lvl_mem r (i + 1) k v (by simpa using h)
    rw [show i + (k + 1) = i + 1 + k by omega]
    exact h1
  | some w :: r, i, k + 1, v, h => by
    have h1 := lvl_mem r (i + 1) k v (by simpa using h)
    rw [show i + (k + 1) = i + 1 + k by omega]
    exact List.mem_cons_of_mem _ h1
theorem mem_lvl : ∀ (ls : List (Option Value)) (i : Nat) (q : Nat × Value), q ∈ lvl i ls → ∃ k, q.1 = i + k ∧ ls[k]? = some (some q.2)
  | [], i, q, h => by simp [lvl] at h
  | none :: r, i, q, h => by
    obtain ⟨k, h1, h2⟩ := mem_lvl r (i + 1) q h
    exact ⟨k + 1, by omega, by simpa using h2⟩
  | some w :: r, i, q, h => by
    rcases List.mem_cons.mp h with h | h
    · subst h
      exact ⟨0, rfl, rfl⟩
    · obtain ⟨k, h1, h2⟩ := mem_lvl r (i + 1) q h
      exact ⟨k + 1, by omega, by simpa using h2⟩
def okc : Option Value → Bool
  | none => true
  | some v => v.category == 1
theorem lv_rd {la : Array Slot} {n : Nat} {ls : List (Option Value)} {k : Nat} {v : Value} (h : lv_has la n (lvl 0 ls)) (hk : ls[k]? = some (some v)) : la[k]? = some (.val v) := by
  have h1 := h.2.2 (0 + k, v) (lvl_mem ls 0 k v hk)
  simpa using h1
theorem lv_wr {la : Array Slot} {n : Nat} {ls : List (Option Value)} {k : Nat} {v : Value} (h : lv_has la n ((k, v) :: (lvl 0 ls).filter (fun q => !(q.1 == k) && !(q.1 + 1 == k && q.2.category == 2)))) (hc : ∀ j o, j + 1 = k → ls[j]? = some o → okc o = true) : lv_has la n (lvl 0 (ls.set k (some v))) := by
  refine ⟨h.1, h.2.1, fun q hq => ?_⟩
  obtain ⟨j, h1, h2⟩ := mem_lvl _ 0 q hq
  have h1 : q.1 = j := by omega
  by_cases hj : j = k
  · subst hj
    have hl : j < ls.length := by
      have := (List.getElem?_eq_some_iff.mp h2).1
      simpa using this
    rw [List.getElem?_set_self hl] at h2
    have e : v = q.2 := by simpa using h2
    have e2 : q = (j, v) := by rw [e, ← h1]
    rw [e2]
    exact h.2.2 (j, v) List.mem_cons_self
  · rw [List.getElem?_set_ne (Ne.symm hj)] at h2
    refine h.2.2 q (List.mem_cons_of_mem _ (List.mem_filter.mpr ⟨?_, ?_⟩))
    · have := lvl_mem ls 0 j q.2 h2
      rw [show q = (0 + j, q.2) by rw [Nat.zero_add, ← h1]]
      exact this
    · have c1 : (q.1 == k) = false := by simpa using (by rw [h1]; exact hj : q.1 ≠ k)
      rw [c1]
      by_cases hk : q.1 + 1 = k
      · have := hc j (some q.2) (by omega) h2
        have c2 : q.2.category = 1 := by simpa [okc] using this
        simp [c2]
      · simp [hk]
end
section
theorem okc_at {ls : List (Option Value)} {i : Nat} {x : Option Value} (hl : ls[i]? = some x) (hc : okc x = true) : ∀ j o, j + 1 = i + 1 → ls[j]? = some o → okc o = true := by
  intro j o h ho
  have e : j = i := by omega
  subst e
  rw [hl] at ho
  cases ho
  exact hc
section JR
variable {l : Launch} {g : Gv} {d : Nat} {y : MD} {pc : Nat} {ls : List (Option Value)} {st : List Value} {m : Mem} {Q : Option Value → Mem → Prop}
theorem j_iconst (pc' : Nat) {n : Int} {v : Int32} (hdg : decode y.2.1 pc = .ok (.iconst n, 1)) (hp : pc + 1 = pc') (hv : Int32.ofInt n = v) (kk : J l g d y pc' ls (.int v :: st) m Q) : J l g d y pc ls (st) m Q := by
  intro p e s mi args below meth c H locs la C R S L
  subst hp
  exact lv_iconst C.1 C.2.1 hdg hv (kk p e s mi args below meth c H locs la C R S L)
theorem j_bipush (pc' : Nat) {n : Int} {v : Int32} (hdg : decode y.2.1 pc = .ok (.bipush n, 2)) (hp : pc + 2 = pc') (hv : (Int8.ofInt n).toInt32 = v) (kk : J l g d y pc' ls (.int v :: st) m Q) : J l g d y pc ls (st) m Q := by
  intro p e s mi args below meth c H locs la C R S L
  subst hp
  exact lv_bipush C.1 C.2.1 hdg hv (kk p e s mi args below meth c H locs la C R S L)
theorem j_sipush (pc' : Nat) {n : Int} {v : Int32} (hdg : decode y.2.1 pc = .ok (.sipush n, 3)) (hp : pc + 3 = pc') (hv : (Int16.ofInt n).toInt32 = v) (kk : J l g d y pc' ls (.int v :: st) m Q) : J l g d y pc ls (st) m Q := by
  intro p e s mi args below meth c H locs la C R S L
  subst hp
  exact lv_sipush C.1 C.2.1 hdg hv (kk p e s mi args below meth c H locs la C R S L)
theorem j_lconst (pc' : Nat) {n : Fin 2} {v : Int64} (hdg : decode y.2.1 pc = .ok (.lconst n, 1)) (hp : pc + 1 = pc') (hv : Int64.ofNat (n : Nat) = v) (kk : J l g d y pc' ls (.long v :: st) m Q) : J l g d y pc ls (st) m Q := by
  intro p e s mi args below meth c H locs la C R S L
  subst hp
  exact lv_lconst C.1 C.2.1 hdg hv (kk p e s mi args below meth c H locs la C R S L)
theorem j_iadd (pc' : Nat) {x z : Int32} (hdg : decode y.2.1 pc = .ok (.iadd, 1)) (hp : pc + 1 = pc') (kk : J l g d y pc' ls (.int (x + z) :: st) m Q) : J l g d y pc ls (.int z :: .int x :: st) m Q := by
  intro p e s mi args below meth c H locs la C R S L
  subst hp
  exact lv_iadd C.1 C.2.1 hdg (kk p e s mi args below meth c H locs la C R S L)
theorem j_isub (pc' : Nat) {x z : Int32} (hdg : decode y.2.1 pc = .ok (.isub, 1)) (hp : pc + 1 = pc') (kk : J l g d y pc' ls (.int (x - z) :: st) m Q) : J l g d y pc ls (.int z :: .int x :: st) m Q := by
  intro p e s mi args below meth c H locs la C R S L
  subst hp
  exact lv_isub C.1 C.2.1 hdg (kk p e s mi args below meth c H locs la C R S L)
theorem j_imul (pc' : Nat) {x z : Int32} (hdg : decode y.2.1 pc = .ok (.imul, 1)) (hp : pc + 1 = pc') (kk : J l g d y pc' ls (.int (x * z) :: st) m Q) : J l g d y pc ls (.int z :: .int x :: st) m Q := by
  intro p e s mi args below meth c H locs la C R S L
  subst hp
  exact lv_imul C.1 C.2.1 hdg (kk p e s mi args below meth c H locs la C R S L)
theorem j_iand (pc' : Nat) {x z : Int32} (hdg : decode y.2.1 pc = .ok (.iand, 1)) (hp : pc + 1 = pc') (kk : J l g d y pc' ls (.int (x &&& z) :: st) m Q) : J l g d y pc ls (.int z :: .int x :: st) m Q := by
  intro p e s mi args below meth c H locs la C R S L
  subst hp
  exact lv_iand C.1 C.2.1 hdg (kk p e s mi args below meth c H locs la C R S L)
theorem j_ior (pc' : Nat) {x z : Int32} (hdg : decode y.2.1 pc = .ok (.ior, 1)) (hp : pc + 1 = pc') (kk : J l g d y pc' ls (.int (x ||| z) :: st) m Q) : J l g d y pc ls (.int z :: .int x :: st) m Q := by
  intro p e s mi args below meth c H locs la C R S L
  subst hp
  exact lv_ior C.1 C.2.1 hdg (kk p e s mi args below meth c H locs la C R S L)
theorem j_ixor (pc' : Nat) {x z : Int32} (hdg : decode y.2.1 pc = .ok (.ixor, 1)) (hp : pc + 1 = pc') (kk : J l g d y pc' ls (.int (x ^^^ z) :: st) m Q) : J l g d y pc ls (.int z :: .int x :: st) m Q := by
  intro p e s mi args below meth c H locs la C R S L
  subst hp
  exact lv_ixor C.1 C.2.1 hdg (kk p e s mi args below meth c H locs la C R S L)
theorem j_ishl (pc' : Nat) {x z : Int32} (hdg : decode y.2.1 pc = .ok (.ishl, 1)) (hp : pc + 1 = pc') (kk : J l g d y pc' ls (.int (x <<< (z &&& 31)) :: st) m Q) : J l g d y pc ls (.int z :: .int x :: st) m Q := by
  intro p e s mi args below meth c H locs la C R S L
  subst hp
  exact lv_ishl C.1 C.2.1 hdg (kk p e s mi args below meth c H locs la C R S L)
theorem j_ishr (pc' : Nat) {x z : Int32} (hdg : decode y.2.1 pc = .ok (.ishr, 1)) (hp : pc + 1 = pc') (kk : J l g d y pc' ls (.int (x >>> (z &&& 31)) :: st) m Q) : J l g d y pc ls (.int z :: .int x :: st) m Q := by
  intro p e s mi args below meth c H locs la C R S L
  subst hp
  exact lv_ishr C.1 C.2.1 hdg (kk p e s mi args below meth c H locs la C R S L)
theorem j_idiv (pc' : Nat) {x z : Int32} (hdg : decode y.2.1 pc = .ok (.idiv, 1)) (hp : pc + 1 = pc') (hne : ¬ z = 0) (kk : J l g d y pc' ls (.int (x / z) :: st) m Q) : J l g d y pc ls (.int z :: .int x :: st) m Q := by
  intro p e s mi args below meth c H locs la C R S L
  subst hp
  exact lv_idiv C.1 C.2.1 hdg hne (kk p e s mi args below meth c H locs la C R S L)
theorem j_irem (pc' : Nat) {x z : Int32} (hdg : decode y.2.1 pc = .ok (.irem, 1)) (hp : pc + 1 = pc') (hne : ¬ z = 0) (kk : J l g d y pc' ls (.int (x - x / z * z) :: st) m Q) : J l g d y pc ls (.int z :: .int x :: st) m Q := by
  intro p e s mi args below meth c H locs la C R S L
  subst hp
  exact lv_irem C.1 C.2.1 hdg hne (kk p e s mi args below meth c H locs la C R S L)
theorem j_ineg (pc' : Nat) {x : Int32} (hdg : decode y.2.1 pc = .ok (.ineg, 1)) (hp : pc + 1 = pc') (kk : J l g d y pc' ls (.int (-x) :: st) m Q) : J l g d y pc ls (.int x :: st) m Q := by
  intro p e s mi args below meth c H locs la C R S L
  subst hp
  exact lv_ineg C.1 C.2.1 hdg (kk p e s mi args below meth c H locs la C R S L)
theorem j_land (pc' : Nat) {x z : Int64} (hdg : decode y.2.1 pc = .ok (.land, 1)) (hp : pc + 1 = pc') (kk : J l g d y pc' ls (.long (x &&& z) :: st) m Q) : J l g d y pc ls (.long z :: .long x :: st) m Q := by
  intro p e s mi args below meth c H locs la C R S L
  subst hp
  exact lv_land C.1 C.2.1 hdg (kk p e s mi args below meth c H locs la C R S L)
theorem j_lor (pc' : Nat) {x z : Int64} (hdg : decode y.2.1 pc = .ok (.lor, 1)) (hp : pc + 1 = pc') (kk : J l g d y pc' ls (.long (x ||| z) :: st) m Q) : J l g d y pc ls (.long z :: .long x :: st) m Q := by
  intro p e s mi args below meth c H locs la C R S L
  subst hp
  exact lv_lor C.1 C.2.1 hdg (kk p e s mi args below meth c H locs la C R S L)
theorem j_iushr (pc' : Nat) {x z : Int32} (hdg : decode y.2.1 pc = .ok (.iushr, 1)) (hp : pc + 1 = pc') (kk : J l g d y pc' ls (.int ((x.toUInt32 >>> (z.toUInt32 &&& Int32.toUInt32 31)).toInt32) :: st) m Q) : J l g d y pc ls (.int z :: .int x :: st) m Q := by
  intro p e s mi args below meth c H locs la C R S L
  subst hp
  exact lv_iushr C.1 C.2.1 hdg rfl (kk p e s mi args below meth c H locs la C R S L)
theorem j_i2l (pc' : Nat) {x : Int32} (hdg : decode y.2.1 pc = .ok (.i2l, 1)) (hp : pc + 1 = pc') (kk : J l g d y pc' ls (.long (x.toInt64) :: st) m Q) : J l g d y pc ls (.int x :: st) m Q := by
  intro p e s mi args below meth c H locs la C R S L
  subst hp
  exact lv_i2l C.1 C.2.1 hdg rfl (kk p e s mi args below meth c H locs la C R S L)
theorem j_l2i (pc' : Nat) {x : Int64} (hdg : decode y.2.1 pc = .ok (.l2i, 1)) (hp : pc + 1 = pc') (kk : J l g d y pc' ls (.int (x.toInt32) :: st) m Q) : J l g d y pc ls (.long x :: st) m Q := by
  intro p e s mi args below meth c H locs la C R S L
  subst hp
  exact lv_l2i C.1 C.2.1 hdg rfl (kk p e s mi args below meth c H locs la C R S L)
theorem j_i2b (pc' : Nat) {x : Int32} (hdg : decode y.2.1 pc = .ok (.i2b, 1)) (hp : pc + 1 = pc') (kk : J l g d y pc' ls (.int (x.toInt8.toInt32) :: st) m Q) : J l g d y pc ls (.int x :: st) m Q := by
  intro p e s mi args below meth c H locs la C R S L
  subst hp
  exact lv_i2b C.1 C.2.1 hdg rfl (kk p e s mi args below meth c H locs la C R S L)
theorem j_i2s (pc' : Nat) {x : Int32} (hdg : decode y.2.1 pc = .ok (.i2s, 1)) (hp : pc + 1 = pc') (kk : J l g d y pc' ls (.int (x.toInt16.toInt32) :: st) m Q) : J l g d y pc ls (.int x :: st) m Q := by
  intro p e s mi args below meth c H locs la C R S L
  subst hp
  exact lv_i2s C.1 C.2.1 hdg rfl (kk p e s mi args below meth c H locs la C R S L)
theorem j_i2c (pc' : Nat) {x : Int32} (hdg : decode y.2.1 pc = .ok (.i2c, 1)) (hp : pc + 1 = pc') (kk : J l g d y pc' ls (.int ((x.toUInt32 % 65536).toInt32) :: st) m Q) : J l g d y pc ls (.int x :: st) m Q := by
  intro p e s mi args below meth c H locs la C R S L
  subst hp
  exact lv_i2c C.1 C.2.1 hdg rfl (kk p e s mi args below meth c H locs la C R S L)
theorem j_lshl (pc' : Nat) {x : Int64} {z : Int32} (hdg : decode y.2.1 pc = .ok (.lshl, 1)) (hp : pc + 1 = pc') (kk : J l g d y pc' ls (.long (x <<< (z.toInt64 &&& 63)) :: st) m Q) : J l g d y pc ls (.int z :: .long x :: st) m Q := by
  intro p e s mi args below meth c H locs la C R S L
  subst hp
  exact lv_lshl C.1 C.2.1 hdg rfl (kk p e s mi args below meth c H locs la C R S L)
theorem j_lshr (pc' : Nat) {x : Int64} {z : Int32} (hdg : decode y.2.1 pc = .ok (.lshr, 1)) (hp : pc + 1 = pc') (kk : J l g d y pc' ls (.long (x >>> (z.toInt64 &&& 63)) :: st) m Q) : J l g d y pc ls (.int z :: .long x :: st) m Q := by
  intro p e s mi args below meth c H locs la C R S L
  subst hp
  exact lv_lshr C.1 C.2.1 hdg rfl (kk p e s mi args below meth c H locs la C R S L)
theorem j_lushr (pc' : Nat) {x : Int64} {z : Int32} (hdg : decode y.2.1 pc = .ok (.lushr, 1)) (hp : pc + 1 = pc') (kk : J l g d y pc' ls (.long ((x.toUInt64 >>> (z.toInt64.toUInt64 &&& Int64.toUInt64 63)).toInt64) :: st) m Q) : J l g d y pc ls (.int z :: .long x :: st) m Q := by
  intro p e s mi args below meth c H locs la C R S L
  subst hp
  exact lv_lushr C.1 C.2.1 hdg rfl (kk p e s mi args below meth c H locs la C R S L)
theorem j_lcmp (pc' : Nat) {x z : Int64} (hdg : decode y.2.1 pc = .ok (.lcmp, 1)) (hp : pc + 1 = pc') (kk : J l g d y pc' ls (.int (lg_cmp x z) :: st) m Q) : J l g d y pc ls (.long z :: .long x :: st) m Q := by
  intro p e s mi args below meth c H locs la C R S L
  subst hp
  exact W.lcmp C.1 C.2.1 hdg (kk p e s mi args below meth c H locs la C R S L)
theorem j_dup (pc' : Nat) {v : Value} (hdg : decode y.2.1 pc = .ok (.dup, 1)) (hp : pc + 1 = pc') (hv : v.category = 1) (kk : J l g d y pc' ls (v :: v :: st) m Q) : J l g d y pc ls (v :: st) m Q := by
  intro p e s mi args below meth c H locs la C R S L
  subst hp
  exact lv_dup C.1 C.2.1 hdg hv (kk p e s mi args below meth c H locs la C R S L)
theorem j_dup2 (pc' : Nat) {v u : Value} (hdg : decode y.2.1 pc = .ok (.dup2, 1)) (hp : pc + 1 = pc') (hv : v.category = 1) (hu : u.category = 1) (kk : J l g d y pc' ls (v :: u :: v :: u :: st) m Q) : J l g d y pc ls (v :: u :: st) m Q := by
  intro p e s mi args below meth c H locs la C R S L
  subst hp
  exact lv_dup2_11 C.1 C.2.1 hdg hv hu (kk p e s mi args below meth c H locs la C R S L)
theorem j_pop (pc' : Nat) {v : Value} (hdg : decode y.2.1 pc = .ok (.pop, 1)) (hp : pc + 1 = pc') (hv : v.category = 1) (kk : J l g d y pc' ls (st) m Q) : J l g d y pc ls (v :: st) m Q := by
  intro p e s mi args below meth c H locs la C R S L
  subst hp
  exact lv_pop C.1 C.2.1 hdg hv (kk p e s mi args below meth c H locs la C R S L)
theorem j_ldc (pc' : Nat) {i : Nat} {v : Int32} (hdg : decode y.2.1 pc = .ok (.ldc i, 2)) (hp : pc + 2 = pc') (hc : Cond.constant y.1.cls i v ∈ lw_gd) (kk : J l g d y pc' ls (.int v :: st) m Q) : J l g d y pc ls st m Q := by
  intro p e s mi args below meth c H locs la C R S L
  subst hp
  exact lv_ldc C.1 C.2.1 C.2.2.2.2.1 (C.2.2.2.2.2.1 _ hc) hdg (kk p e s mi args below meth c H locs la C R S L)
theorem j_ldcw (pc' : Nat) {i : Nat} {v : Int32} (hdg : decode y.2.1 pc = .ok (.ldc_w i, 3)) (hp : pc + 3 = pc') (hc : Cond.constant y.1.cls i v ∈ lw_gd) (kk : J l g d y pc' ls (.int v :: st) m Q) : J l g d y pc ls st m Q := by
  intro p e s mi args below meth c H locs la C R S L
  subst hp
  exact lv_ldcw C.1 C.2.1 C.2.2.2.2.1 (C.2.2.2.2.2.1 _ hc) hdg (kk p e s mi args below meth c H locs la C R S L)
theorem j_ldc2 (pc' : Nat) {i : Nat} {v : Int64} (hdg : decode y.2.1 pc = .ok (.ldc2_w i, 3)) (hp : pc + 3 = pc') (hc : Cond.constantLong y.1.cls i v ∈ lw_gd) (kk : J l g d y pc' ls (.long v :: st) m Q) : J l g d y pc ls st m Q := by
  intro p e s mi args below meth c H locs la C R S L
  subst hp
  exact lv_ldc2 C.1 C.2.1 C.2.2.2.2.1 (C.2.2.2.2.2.1 _ hc) hdg (kk p e s mi args below meth c H locs la C R S L)
theorem j_if_eq (tgt : Nat) (pc' : Nat) {x : Int32} {off : Int} (hdg : decode y.2.1 pc = .ok (.ifCond .eq off, 3)) (ht : (pc : Int) + off = (tgt : Int)) (hp : pc + 3 = pc') (kt : x = 0 → J l g d y tgt ls st m Q) (kf : ¬ (x = 0) → J l g d y pc' ls st m Q) : J l g d y pc ls (.int x :: st) m Q := by
  intro p e s mi args below meth c H locs la C R S L
  subst hp
  exact lv_if_eq C.1 C.2.1 hdg ht (fun h => kt h p e s mi args below meth c H locs la C R S L) (fun h => kf h p e s mi args below meth c H locs la C R S L)
theorem j_cmp_eq (tgt : Nat) (pc' : Nat) {x z : Int32} {off : Int} (hdg : decode y.2.1 pc = .ok (.if_icmp .eq off, 3)) (ht : (pc : Int) + off = (tgt : Int)) (hp : pc + 3 = pc') (kt : x = z → J l g d y tgt ls st m Q) (kf : ¬ (x = z) → J l g d y pc' ls st m Q) : J l g d y pc ls (.int z :: .int x :: st) m Q := by
  intro p e s mi args below meth c H locs la C R S L
  subst hp
  exact lv_icmp_eq C.1 C.2.1 hdg ht (fun h => kt h p e s mi args below meth c H locs la C R S L) (fun h => kf h p e s mi args below meth c H locs la C R S L)
theorem j_if_ne (tgt : Nat) (pc' : Nat) {x : Int32} {off : Int} (hdg : decode y.2.1 pc = .ok (.ifCond .ne off, 3)) (ht : (pc : Int) + off = (tgt : Int)) (hp : pc + 3 = pc') (kt : x ≠ 0 → J l g d y tgt ls st m Q) (kf : x = 0 → J l g d y pc' ls st m Q) : J l g d y pc ls (.int x :: st) m Q := by
  intro p e s mi args below meth c H locs la C R S L
  subst hp
  exact lv_if_ne C.1 C.2.1 hdg ht (fun h => kt h p e s mi args below meth c H locs la C R S L) (fun h => kf h p e s mi args below meth c H locs la C R S L)
theorem j_cmp_ne (tgt : Nat) (pc' : Nat) {x z : Int32} {off : Int} (hdg : decode y.2.1 pc = .ok (.if_icmp .ne off, 3)) (ht : (pc : Int) + off = (tgt : Int)) (hp : pc + 3 = pc') (kt : x ≠ z → J l g d y tgt ls st m Q) (kf : x = z → J l g d y pc' ls st m Q) : J l g d y pc ls (.int z :: .int x :: st) m Q := by
  intro p e s mi args below meth c H locs la C R S L
  subst hp
  exact lv_icmp_ne C.1 C.2.1 hdg ht (fun h => kt h p e s mi args below meth c H locs la C R S L) (fun h => kf h p e s mi args below meth c H locs la C R S L)
theorem j_if_lt (tgt : Nat) (pc' : Nat) {x : Int32} {off : Int} (hdg : decode y.2.1 pc = .ok (.ifCond .lt off, 3)) (ht : (pc : Int) + off = (tgt : Int)) (hp : pc + 3 = pc') (kt : x < 0 → J l g d y tgt ls st m Q) (kf : ¬ (x < 0) → J l g d y pc' ls st m Q) : J l g d y pc ls (.int x :: st) m Q := by
  intro p e s mi args below meth c H locs la C R S L
  subst hp
  exact lv_if_lt C.1 C.2.1 hdg ht (fun h => kt h p e s mi args below meth c H locs la C R S L) (fun h => kf h p e s mi args below meth c H locs la C R S L)
theorem j_cmp_lt (tgt : Nat) (pc' : Nat) {x z : Int32} {off : Int} (hdg : decode y.2.1 pc = .ok (.if_icmp .lt off, 3)) (ht : (pc : Int) + off = (tgt : Int)) (hp : pc + 3 = pc') (kt : x < z → J l g d y tgt ls st m Q) (kf : ¬ (x < z) → J l g d y pc' ls st m Q) : J l g d y pc ls (.int z :: .int x :: st) m Q := by
  intro p e s mi args below meth c H locs la C R S L
  subst hp
  exact lv_icmp_lt C.1 C.2.1 hdg ht (fun h => kt h p e s mi args below meth c H locs la C R S L) (fun h => kf h p e s mi args below meth c H locs la C R S L)
theorem j_if_ge (tgt : Nat) (pc' : Nat) {x : Int32} {off : Int} (hdg : decode y.2.1 pc = .ok (.ifCond .ge off, 3)) (ht : (pc : Int) + off = (tgt : Int)) (hp : pc + 3 = pc') (kt : 0 ≤ x → J l g d y tgt ls st m Q) (kf : ¬ (0 ≤ x) → J l g d y pc' ls st m Q) : J l g d y pc ls (.int x :: st) m Q := by
  intro p e s mi args below meth c H locs la C R S L
  subst hp
  exact lv_if_ge C.1 C.2.1 hdg ht (fun h => kt h p e s mi args below meth c H locs la C R S L) (fun h => kf h p e s mi args below meth c H locs la C R S L)
theorem j_cmp_ge (tgt : Nat) (pc' : Nat) {x z : Int32} {off : Int} (hdg : decode y.2.1 pc = .ok (.if_icmp .ge off, 3)) (ht : (pc : Int) + off = (tgt : Int)) (hp : pc + 3 = pc') (kt : z ≤ x → J l g d y tgt ls st m Q) (kf : ¬ (z ≤ x) → J l g d y pc' ls st m Q) : J l g d y pc ls (.int z :: .int x :: st) m Q := by
  intro p e s mi args below meth c H locs la C R S L
  subst hp
  exact lv_icmp_ge C.1 C.2.1 hdg ht (fun h => kt h p e s mi args below meth c H locs la C R S L) (fun h => kf h p e s mi args below meth c H locs la C R S L)
theorem j_if_gt (tgt : Nat) (pc' : Nat) {x : Int32} {off : Int} (hdg : decode y.2.1 pc = .ok (.ifCond .gt off, 3)) (ht : (pc : Int) + off = (tgt : Int)) (hp : pc + 3 = pc') (kt : 0 < x → J l g d y tgt ls st m Q) (kf : ¬ (0 < x) → J l g d y pc' ls st m Q) : J l g d y pc ls (.int x :: st) m Q := by
  intro p e s mi args below meth c H locs la C R S L
  subst hp
  exact lv_if_gt C.1 C.2.1 hdg ht (fun h => kt h p e s mi args below meth c H locs la C R S L) (fun h => kf h p e s mi args below meth c H locs la C R S L)
theorem j_cmp_gt (tgt : Nat) (pc' : Nat) {x z : Int32} {off : Int} (hdg : decode y.2.1 pc = .ok (.if_icmp .gt off, 3)) (ht : (pc : Int) + off = (tgt : Int)) (hp : pc + 3 = pc') (kt : z < x → J l g d y tgt ls st m Q) (kf : ¬ (z < x) → J l g d y pc' ls st m Q) : J l g d y pc ls (.int z :: .int x :: st) m Q := by
  intro p e s mi args below meth c H locs la C R S L
  subst hp
  exact lv_icmp_gt C.1 C.2.1 hdg ht (fun h => kt h p e s mi args below meth c H locs la C R S L) (fun h => kf h p e s mi args below meth c H locs la C R S L)
theorem j_if_le (tgt : Nat) (pc' : Nat) {x : Int32} {off : Int} (hdg : decode y.2.1 pc = .ok (.ifCond .le off, 3)) (ht : (pc : Int) + off = (tgt : Int)) (hp : pc + 3 = pc') (kt : x ≤ 0 → J l g d y tgt ls st m Q) (kf : ¬ (x ≤ 0) → J l g d y pc' ls st m Q) : J l g d y pc ls (.int x :: st) m Q := by
  intro p e s mi args below meth c H locs la C R S L
  subst hp
  exact lv_if_le C.1 C.2.1 hdg ht (fun h => kt h p e s mi args below meth c H locs la C R S L) (fun h => kf h p e s mi args below meth c H locs la C R S L)
theorem j_cmp_le (tgt : Nat) (pc' : Nat) {x z : Int32} {off : Int} (hdg : decode y.2.1 pc = .ok (.if_icmp .le off, 3)) (ht : (pc : Int) + off = (tgt : Int)) (hp : pc + 3 = pc') (kt : x ≤ z → J l g d y tgt ls st m Q) (kf : ¬ (x ≤ z) → J l g d y pc' ls st m Q) : J l g d y pc ls (.int z :: .int x :: st) m Q := by
  intro p e s mi args below meth c H locs la C R S L
  subst hp
  exact lv_icmp_le C.1 C.2.1 hdg ht (fun h => kt h p e s mi args below meth c H locs la C R S L) (fun h => kf h p e s mi args below meth c H locs la C R S L)
theorem j_goto (tgt : Nat) {off : Int} (hdg : decode y.2.1 pc = .ok (.goto off, 3)) (ht : (pc : Int) + off = (tgt : Int)) (kk : J l g d y tgt ls st m Q) : J l g d y pc ls st m Q := by
  intro p e s mi args below meth c H locs la C R S L
  exact lv_goto C.1 C.2.1 hdg ht (kk p e s mi args below meth c H locs la C R S L)
theorem j_lookup (tgt : Nat) {dflt : Int} {ps : Array (Int × Int)} {len : Nat} {x : Int32} {off : Int} (hdg : decode y.2.1 pc = .ok (.lookupswitch dflt ps, len)) (hs : (ps.toList.zip (ps.toList.drop 1)).all (fun (a, next) => a.1 < next.1) = true) (ho : Op.lookupswitch.offset ps.toList dflt x.toInt = off) (ht : (pc : Int) + off = (tgt : Int)) (kk : J l g d y tgt ls st m Q) : J l g d y pc ls (.int x :: st) m Q := by
  intro p e s mi args below meth c H locs la C R S L
  exact lv_lookup C.1 C.2.1 hdg hs ho ht (kk p e s mi args below meth c H locs la C R S L)
theorem j_tabOut (tgt : Nat) {dflt lo hi : Int} {offs : Array Int} {len : Nat} {x : Int32} (hdg : decode y.2.1 pc = .ok (.tableswitch dflt lo hi offs, len)) (h : x.toInt < lo ∨ hi < x.toInt) (ht : (pc : Int) + dflt = (tgt : Int)) (kk : J l g d y tgt ls st m Q) : J l g d y pc ls (.int x :: st) m Q := by
  intro p e s mi args below meth c H locs la C R S L
  exact lv_tableOut C.1 C.2.1 hdg h ht (kk p e s mi args below meth c H locs la C R S L)
theorem j_tabIn (tgt : Nat) {dflt lo hi : Int} {offs : Array Int} {len : Nat} {x : Int32} {off : Int} (hdg : decode y.2.1 pc = .ok (.tableswitch dflt lo hi offs, len)) (h1 : ¬ x.toInt < lo) (h2 : ¬ hi < x.toInt) (ho : offs[(x.toInt - lo).toNat]? = some off) (ht : (pc : Int) + off = (tgt : Int)) (kk : J l g d y tgt ls st m Q) : J l g d y pc ls (.int x :: st) m Q := by
  intro p e s mi args below meth c H locs la C R S L
  exact lv_tableIn C.1 C.2.1 hdg h1 h2 ho ht (kk p e s mi args below meth c H locs la C R S L)
theorem jg_iload_n (pc' : Nat) {k : Fin 4} (i : Nat) {x : Int32} (hi : (k : Nat) = i) (hdg : decode y.2.1 pc = .ok (.iload_n k, 1)) (hp : pc + 1 = pc') (hl : ls[i]? = some (some (.int x))) (kk : J l g d y pc' ls (.int x :: st) m Q) : J l g d y pc ls st m Q := by
  intro p e s mi args below meth c H locs la C R S L
  subst hp
  exact lv_iload_n C.1 C.2.1 hdg hi (lv_rd L hl) (kk p e s mi args below meth c H locs la C R S L)
theorem jg_iload (pc' : Nat) (i : Nat) {x : Int32} (hdg : decode y.2.1 pc = .ok (.iload i, 2)) (hp : pc + 2 = pc') (hl : ls[i]? = some (some (.int x))) (kk : J l g d y pc' ls (.int x :: st) m Q) : J l g d y pc ls st m Q := by
  intro p e s mi args below meth c H locs la C R S L
  subst hp
  exact lv_iload C.1 C.2.1 hdg (lv_rd L hl) (kk p e s mi args below meth c H locs la C R S L)
theorem jg_lload_n (pc' : Nat) {k : Fin 4} (i : Nat) {x : Int64} (hi : (k : Nat) = i) (hdg : decode y.2.1 pc = .ok (.lload_n k, 1)) (hp : pc + 1 = pc') (hl : ls[i]? = some (some (.long x))) (kk : J l g d y pc' ls (.long x :: st) m Q) : J l g d y pc ls st m Q := by
  intro p e s mi args below meth c H locs la C R S L
  subst hp
  exact lv_lload_n C.1 C.2.1 hdg hi (lv_rd L hl) (kk p e s mi args below meth c H locs la C R S L)
theorem jg_lload (pc' : Nat) (i : Nat) {x : Int64} (hdg : decode y.2.1 pc = .ok (.lload i, 2)) (hp : pc + 2 = pc') (hl : ls[i]? = some (some (.long x))) (kk : J l g d y pc' ls (.long x :: st) m Q) : J l g d y pc ls st m Q := by
  intro p e s mi args below meth c H locs la C R S L
  subst hp
  exact lv_lload C.1 C.2.1 hdg (lv_rd L hl) (kk p e s mi args below meth c H locs la C R S L)
theorem jg_aload_n (pc' : Nat) {k : Fin 4} (i : Nat) {x : Nat} (hi : (k : Nat) = i) (hdg : decode y.2.1 pc = .ok (.aload_n k, 1)) (hp : pc + 1 = pc') (hl : ls[i]? = some (some (rf g x))) (kk : J l g d y pc' ls (rf g x :: st) m Q) : J l g d y pc ls st m Q := by
  intro p e s mi args below meth c H locs la C R S L
  subst hp
  exact lv_aload_n C.1 C.2.1 hdg hi (lv_rd L hl) (kk p e s mi args below meth c H locs la C R S L)
theorem jg_aload (pc' : Nat) (i : Nat) {x : Nat} (hdg : decode y.2.1 pc = .ok (.aload i, 2)) (hp : pc + 2 = pc') (hl : ls[i]? = some (some (rf g x))) (kk : J l g d y pc' ls (rf g x :: st) m Q) : J l g d y pc ls st m Q := by
  intro p e s mi args below meth c H locs la C R S L
  subst hp
  exact lv_aload C.1 C.2.1 hdg (lv_rd L hl) (kk p e s mi args below meth c H locs la C R S L)
theorem jg_istore_n (pc' : Nat) {k : Fin 4} (i : Nat) {x : Int32} (hi : (k : Nat) = i) (hdg : decode y.2.1 pc = .ok (.istore_n k, 1)) (hp : pc + 1 = pc') (hn : i < y.2.2.1) (hc : ∀ j o, j + 1 = i → ls[j]? = some o → okc o = true) (kk : J l g d y pc' (ls.set i (some (.int x))) st m Q) : J l g d y pc ls (.int x :: st) m Q := by
  intro p e s mi args below meth c H locs la C R S L
  subst hp
  exact lv_istore_n C.1 C.2.1 hdg hi L hn rfl (fun la' hl => kk p e s mi args below meth c H locs la' C R S (lv_wr hl hc))
theorem jg_istore (pc' : Nat) (i : Nat) {x : Int32} (hdg : decode y.2.1 pc = .ok (.istore i, 2)) (hp : pc + 2 = pc') (hn : i < y.2.2.1) (hc : ∀ j o, j + 1 = i → ls[j]? = some o → okc o = true) (kk : J l g d y pc' (ls.set i (some (.int x))) st m Q) : J l g d y pc ls (.int x :: st) m Q := by
  intro p e s mi args below meth c H locs la C R S L
  subst hp
  exact lv_istore C.1 C.2.1 hdg L hn rfl (fun la' hl => kk p e s mi args below meth c H locs la' C R S (lv_wr hl hc))
theorem jg_astore_n (pc' : Nat) {k : Fin 4} (i : Nat) {x : Nat} (hi : (k : Nat) = i) (hdg : decode y.2.1 pc = .ok (.astore_n k, 1)) (hp : pc + 1 = pc') (hn : i < y.2.2.1) (hc : ∀ j o, j + 1 = i → ls[j]? = some o → okc o = true) (kk : J l g d y pc' (ls.set i (some (rf g x))) st m Q) : J l g d y pc ls (rf g x :: st) m Q := by
  intro p e s mi args below meth c H locs la C R S L
  subst hp
  exact lv_astore_n C.1 C.2.1 hdg hi L hn rfl (fun la' hl => kk p e s mi args below meth c H locs la' C R S (lv_wr hl hc))
theorem jg_astore (pc' : Nat) (i : Nat) {x : Nat} (hdg : decode y.2.1 pc = .ok (.astore i, 2)) (hp : pc + 2 = pc') (hn : i < y.2.2.1) (hc : ∀ j o, j + 1 = i → ls[j]? = some o → okc o = true) (kk : J l g d y pc' (ls.set i (some (rf g x))) st m Q) : J l g d y pc ls (rf g x :: st) m Q := by
  intro p e s mi args below meth c H locs la C R S L
  subst hp
  exact lv_astore C.1 C.2.1 hdg L hn rfl (fun la' hl => kk p e s mi args below meth c H locs la' C R S (lv_wr hl hc))
theorem jg_iinc (pc' : Nat) (i : Nat) {n : Int} {x v : Int32} (hdg : decode y.2.1 pc = .ok (.iinc i n, 3)) (hp : pc + 3 = pc') (hl : ls[i]? = some (some (.int x))) (hv : x + Int32.ofInt n = v) (hn : i < y.2.2.1) (hc : ∀ j o, j + 1 = i → ls[j]? = some o → okc o = true) (kk : J l g d y pc' (ls.set i (some (.int v))) st m Q) : J l g d y pc ls st m Q := by
  intro p e s mi args below meth c H locs la C R S L
  subst hp
  have hm := lvl_mem ls 0 i _ hl
  rw [Nat.zero_add] at hm
  obtain ⟨k, hk⟩ := List.getElem?_of_mem hm
  exact lv_iinc C.1 C.2.1 hdg L hk hv hn rfl (fun la' hl => kk p e s mi args below meth c H locs la' C R S (lv_wr hl hc))
theorem j_iload0 (pc' : Nat) {r : List (Option Value)} {x : Int32} (hdg : decode y.2.1 pc = .ok (.iload_n 0, 1)) (hp : pc + 1 = pc') (kk : J l g d y pc' (some (.int x) :: r) (.int x :: st) m Q) : J l g d y pc (some (.int x) :: r) st m Q := jg_iload_n pc' 0 rfl hdg hp rfl kk
theorem j_aload0 (pc' : Nat) {r : List (Option Value)} {x : Nat} (hdg : decode y.2.1 pc = .ok (.aload_n 0, 1)) (hp : pc + 1 = pc') (kk : J l g d y pc' (some (rf g x) :: r) (rf g x :: st) m Q) : J l g d y pc (some (rf g x) :: r) st m Q := jg_aload_n pc' 0 rfl hdg hp rfl kk
theorem j_lload0 (pc' : Nat) {r : List (Option Value)} {x : Int64} (hdg : decode y.2.1 pc = .ok (.lload_n 0, 1)) (hp : pc + 1 = pc') (kk : J l g d y pc' (some (.long x) :: r) (.long x :: st) m Q) : J l g d y pc (some (.long x) :: r) st m Q := jg_lload_n pc' 0 rfl hdg hp rfl kk
theorem j_istore0 (pc' : Nat) {o : Option Value} {r : List (Option Value)} {x : Int32} (hdg : decode y.2.1 pc = .ok (.istore_n 0, 1)) (hp : pc + 1 = pc') (hn : Nat.blt 0 y.2.2.1 = true) (kk : J l g d y pc' (some (.int x) :: r) st m Q) : J l g d y pc (o :: r) (.int x :: st) m Q := jg_istore_n pc' 0 rfl hdg hp (Nat.le_of_ble_eq_true hn) (fun j o h => absurd h (by omega)) kk
theorem j_astore0 (pc' : Nat) {o : Option Value} {r : List (Option Value)} {x : Nat} (hdg : decode y.2.1 pc = .ok (.astore_n 0, 1)) (hp : pc + 1 = pc') (hn : Nat.blt 0 y.2.2.1 = true) (kk : J l g d y pc' (some (rf g x) :: r) st m Q) : J l g d y pc (o :: r) (rf g x :: st) m Q := jg_astore_n pc' 0 rfl hdg hp (Nat.le_of_ble_eq_true hn) (fun j o h => absurd h (by omega)) kk
theorem j_iinc0 (pc' : Nat) {r : List (Option Value)} {n : Int} {x : Int32} (v : Int32) (hdg : decode y.2.1 pc = .ok (.iinc 0 n, 3)) (hp : pc + 3 = pc') (hn : Nat.blt 0 y.2.2.1 = true) (hv : Int32.ofInt n = v) (kk : J l g d y pc' (some (.int (x + v)) :: r) st m Q) : J l g d y pc (some (.int x) :: r) st m Q := jg_iinc pc' 0 hdg hp rfl (by rw [hv]) (Nat.le_of_ble_eq_true hn) (fun j o h => absurd h (by omega)) kk
theorem j_iload1 (pc' : Nat) {x0 : Option Value} {r : List (Option Value)} {x : Int32} (hdg : decode y.2.1 pc = .ok (.iload_n 1, 1)) (hp : pc + 1 = pc') (kk : J l g d y pc' (x0 :: some (.int x) :: r) (.int x :: st) m Q) : J l g d y pc (x0 :: some (.int x) :: r) st m Q := jg_iload_n pc' 1 rfl hdg hp rfl kk
theorem j_aload1 (pc' : Nat) {x0 : Option Value} {r : List (Option Value)} {x : Nat} (hdg : decode y.2.1 pc = .ok (.aload_n 1, 1)) (hp : pc + 1 = pc') (kk : J l g d y pc' (x0 :: some (rf g x) :: r) (rf g x :: st) m Q) : J l g d y pc (x0 :: some (rf g x) :: r) st m Q := jg_aload_n pc' 1 rfl hdg hp rfl kk
theorem j_lload1 (pc' : Nat) {x0 : Option Value} {r : List (Option Value)} {x : Int64} (hdg : decode y.2.1 pc = .ok (.lload_n 1, 1)) (hp : pc + 1 = pc') (kk : J l g d y pc' (x0 :: some (.long x) :: r) (.long x :: st) m Q) : J l g d y pc (x0 :: some (.long x) :: r) st m Q := jg_lload_n pc' 1 rfl hdg hp rfl kk
theorem j_istore1 (pc' : Nat) {x0 : Option Value} {o : Option Value} {r : List (Option Value)} {x : Int32} (hdg : decode y.2.1 pc = .ok (.istore_n 1, 1)) (hp : pc + 1 = pc') (hn : Nat.blt 1 y.2.2.1 = true) (hc : okc x0 = true) (kk : J l g d y pc' (x0 :: some (.int x) :: r) st m Q) : J l g d y pc (x0 :: o :: r) (.int x :: st) m Q := jg_istore_n pc' 1 rfl hdg hp (Nat.le_of_ble_eq_true hn) (okc_at rfl hc) kk
theorem j_astore1 (pc' : Nat) {x0 : Option Value} {o : Option Value} {r : List (Option Value)} {x : Nat} (hdg : decode y.2.1 pc = .ok (.astore_n 1, 1)) (hp : pc + 1 = pc') (hn : Nat.blt 1 y.2.2.1 = true) (hc : okc x0 = true) (kk : J l g d y pc' (x0 :: some (rf g x) :: r) st m Q) : J l g d y pc (x0 :: o :: r) (rf g x :: st) m Q := jg_astore_n pc' 1 rfl hdg hp (Nat.le_of_ble_eq_true hn) (okc_at rfl hc) kk
theorem j_iinc1 (pc' : Nat) {x0 : Option Value} {r : List (Option Value)} {n : Int} {x : Int32} (v : Int32) (hdg : decode y.2.1 pc = .ok (.iinc 1 n, 3)) (hp : pc + 3 = pc') (hn : Nat.blt 1 y.2.2.1 = true) (hc : okc x0 = true) (hv : Int32.ofInt n = v) (kk : J l g d y pc' (x0 :: some (.int (x + v)) :: r) st m Q) : J l g d y pc (x0 :: some (.int x) :: r) st m Q := jg_iinc pc' 1 hdg hp rfl (by rw [hv]) (Nat.le_of_ble_eq_true hn) (okc_at rfl hc) kk
theorem j_iload2 (pc' : Nat) {x0 x1 : Option Value} {r : List (Option Value)} {x : Int32} (hdg : decode y.2.1 pc = .ok (.iload_n 2, 1)) (hp : pc + 1 = pc') (kk : J l g d y pc' (x0 :: x1 :: some (.int x) :: r) (.int x :: st) m Q) : J l g d y pc (x0 :: x1 :: some (.int x) :: r) st m Q := jg_iload_n pc' 2 rfl hdg hp rfl kk
theorem j_aload2 (pc' : Nat) {x0 x1 : Option Value} {r : List (Option Value)} {x : Nat} (hdg : decode y.2.1 pc = .ok (.aload_n 2, 1)) (hp : pc + 1 = pc') (kk : J l g d y pc' (x0 :: x1 :: some (rf g x) :: r) (rf g x :: st) m Q) : J l g d y pc (x0 :: x1 :: some (rf g x) :: r) st m Q := jg_aload_n pc' 2 rfl hdg hp rfl kk
theorem j_lload2 (pc' : Nat) {x0 x1 : Option Value} {r : List (Option Value)} {x : Int64} (hdg : decode y.2.1 pc = .ok (.lload_n 2, 1)) (hp : pc + 1 = pc') (kk : J l g d y pc' (x0 :: x1 :: some (.long x) :: r) (.long x :: st) m Q) : J l g d y pc (x0 :: x1 :: some (.long x) :: r) st m Q := jg_lload_n pc' 2 rfl hdg hp rfl kk
theorem j_istore2 (pc' : Nat) {x0 x1 : Option Value} {o : Option Value} {r : List (Option Value)} {x : Int32} (hdg : decode y.2.1 pc = .ok (.istore_n 2, 1)) (hp : pc + 1 = pc') (hn : Nat.blt 2 y.2.2.1 = true) (hc : okc x1 = true) (kk : J l g d y pc' (x0 :: x1 :: some (.int x) :: r) st m Q) : J l g d y pc (x0 :: x1 :: o :: r) (.int x :: st) m Q := jg_istore_n pc' 2 rfl hdg hp (Nat.le_of_ble_eq_true hn) (okc_at rfl hc) kk
theorem j_astore2 (pc' : Nat) {x0 x1 : Option Value} {o : Option Value} {r : List (Option Value)} {x : Nat} (hdg : decode y.2.1 pc = .ok (.astore_n 2, 1)) (hp : pc + 1 = pc') (hn : Nat.blt 2 y.2.2.1 = true) (hc : okc x1 = true) (kk : J l g d y pc' (x0 :: x1 :: some (rf g x) :: r) st m Q) : J l g d y pc (x0 :: x1 :: o :: r) (rf g x :: st) m Q := jg_astore_n pc' 2 rfl hdg hp (Nat.le_of_ble_eq_true hn) (okc_at rfl hc) kk
theorem j_iinc2 (pc' : Nat) {x0 x1 : Option Value} {r : List (Option Value)} {n : Int} {x : Int32} (v : Int32) (hdg : decode y.2.1 pc = .ok (.iinc 2 n, 3)) (hp : pc + 3 = pc') (hn : Nat.blt 2 y.2.2.1 = true) (hc : okc x1 = true) (hv : Int32.ofInt n = v) (kk : J l g d y pc' (x0 :: x1 :: some (.int (x + v)) :: r) st m Q) : J l g d y pc (x0 :: x1 :: some (.int x) :: r) st m Q := jg_iinc pc' 2 hdg hp rfl (by rw [hv]) (Nat.le_of_ble_eq_true hn) (okc_at rfl hc) kk
theorem j_iload3 (pc' : Nat) {x0 x1 x2 : Option Value} {r : List (Option Value)} {x : Int32} (hdg : decode y.2.1 pc = .ok (.iload_n 3, 1)) (hp : pc + 1 = pc') (kk : J l g d y pc' (x0 :: x1 :: x2 :: some (.int x) :: r) (.int x :: st) m Q) : J l g d y pc (x0 :: x1 :: x2 :: some (.int x) :: r) st m Q := jg_iload_n pc' 3 rfl hdg hp rfl kk
theorem j_aload3 (pc' : Nat) {x0 x1 x2 : Option Value} {r : List (Option Value)} {x : Nat} (hdg : decode y.2.1 pc = .ok (.aload_n 3, 1)) (hp : pc + 1 = pc') (kk : J l g d y pc' (x0 :: x1 :: x2 :: some (rf g x) :: r) (rf g x :: st) m Q) : J l g d y pc (x0 :: x1 :: x2 :: some (rf g x) :: r) st m Q := jg_aload_n pc' 3 rfl hdg hp rfl kk
theorem j_lload3 (pc' : Nat) {x0 x1 x2 : Option Value} {r : List (Option Value)} {x : Int64} (hdg : decode y.2.1 pc = .ok (.lload_n 3, 1)) (hp : pc + 1 = pc') (kk : J l g d y pc' (x0 :: x1 :: x2 :: some (.long x) :: r) (.long x :: st) m Q) : J l g d y pc (x0 :: x1 :: x2 :: some (.long x) :: r) st m Q := jg_lload_n pc' 3 rfl hdg hp rfl kk
theorem j_istore3 (pc' : Nat) {x0 x1 x2 : Option Value} {o : Option Value} {r : List (Option Value)} {x : Int32} (hdg : decode y.2.1 pc = .ok (.istore_n 3, 1)) (hp : pc + 1 = pc') (hn : Nat.blt 3 y.2.2.1 = true) (hc : okc x2 = true) (kk : J l g d y pc' (x0 :: x1 :: x2 :: some (.int x) :: r) st m Q) : J l g d y pc (x0 :: x1 :: x2 :: o :: r) (.int x :: st) m Q := jg_istore_n pc' 3 rfl hdg hp (Nat.le_of_ble_eq_true hn) (okc_at rfl hc) kk
theorem j_astore3 (pc' : Nat) {x0 x1 x2 : Option Value} {o : Option Value} {r : List (Option Value)} {x : Nat} (hdg : decode y.2.1 pc = .ok (.astore_n 3, 1)) (hp : pc + 1 = pc') (hn : Nat.blt 3 y.2.2.1 = true) (hc : okc x2 = true) (kk : J l g d y pc' (x0 :: x1 :: x2 :: some (rf g x) :: r) st m Q) : J l g d y pc (x0 :: x1 :: x2 :: o :: r) (rf g x :: st) m Q := jg_astore_n pc' 3 rfl hdg hp (Nat.le_of_ble_eq_true hn) (okc_at rfl hc) kk
theorem j_iinc3 (pc' : Nat) {x0 x1 x2 : Option Value} {r : List (Option Value)} {n : Int} {x : Int32} (v : Int32) (hdg : decode y.2.1 pc = .ok (.iinc 3 n, 3)) (hp : pc + 3 = pc') (hn : Nat.blt 3 y.2.2.1 = true) (hc : okc x2 = true) (hv : Int32.ofInt n = v) (kk : J l g d y pc' (x0 :: x1 :: x2 :: some (.int (x + v)) :: r) st m Q) : J l g d y pc (x0 :: x1 :: x2 :: some (.int x) :: r) st m Q := jg_iinc pc' 3 hdg hp rfl (by rw [hv]) (Nat.le_of_ble_eq_true hn) (okc_at rfl hc) kk
theorem j_iload4 (pc' : Nat) {x0 x1 x2 x3 : Option Value} {r : List (Option Value)} {x : Int32} (hdg : decode y.2.1 pc = .ok (.iload 4, 2)) (hp : pc + 2 = pc') (kk : J l g d y pc' (x0 :: x1 :: x2 :: x3 :: some (.int x) :: r) (.int x :: st) m Q) : J l g d y pc (x0 :: x1 :: x2 :: x3 :: some (.int x) :: r) st m Q := jg_iload pc' 4 hdg hp rfl kk
theorem j_aload4 (pc' : Nat) {x0 x1 x2 x3 : Option Value} {r : List (Option Value)} {x : Nat} (hdg : decode y.2.1 pc = .ok (.aload 4, 2)) (hp : pc + 2 = pc') (kk : J l g d y pc' (x0 :: x1 :: x2 :: x3 :: some (rf g x) :: r) (rf g x :: st) m Q) : J l g d y pc (x0 :: x1 :: x2 :: x3 :: some (rf g x) :: r) st m Q := jg_aload pc' 4 hdg hp rfl kk
theorem j_lload4 (pc' : Nat) {x0 x1 x2 x3 : Option Value} {r : List (Option Value)} {x : Int64} (hdg : decode y.2.1 pc = .ok (.lload 4, 2)) (hp : pc + 2 = pc') (kk : J l g d y pc' (x0 :: x1 :: x2 :: x3 :: some (.long x) :: r) (.long x :: st) m Q) : J l g d y pc (x0 :: x1 :: x2 :: x3 :: some (.long x) :: r) st m Q := jg_lload pc' 4 hdg hp rfl kk
theorem j_istore4 (pc' : Nat) {x0 x1 x2 x3 : Option Value} {o : Option Value} {r : List (Option Value)} {x : Int32} (hdg : decode y.2.1 pc = .ok (.istore 4, 2)) (hp : pc + 2 = pc') (hn : Nat.blt 4 y.2.2.1 = true) (hc : okc x3 = true) (kk : J l g d y pc' (x0 :: x1 :: x2 :: x3 :: some (.int x) :: r) st m Q) : J l g d y pc (x0 :: x1 :: x2 :: x3 :: o :: r) (.int x :: st) m Q := jg_istore pc' 4 hdg hp (Nat.le_of_ble_eq_true hn) (okc_at rfl hc) kk
theorem j_astore4 (pc' : Nat) {x0 x1 x2 x3 : Option Value} {o : Option Value} {r : List (Option Value)} {x : Nat} (hdg : decode y.2.1 pc = .ok (.astore 4, 2)) (hp : pc + 2 = pc') (hn : Nat.blt 4 y.2.2.1 = true) (hc : okc x3 = true) (kk : J l g d y pc' (x0 :: x1 :: x2 :: x3 :: some (rf g x) :: r) st m Q) : J l g d y pc (x0 :: x1 :: x2 :: x3 :: o :: r) (rf g x :: st) m Q := jg_astore pc' 4 hdg hp (Nat.le_of_ble_eq_true hn) (okc_at rfl hc) kk
theorem j_iinc4 (pc' : Nat) {x0 x1 x2 x3 : Option Value} {r : List (Option Value)} {n : Int} {x : Int32} (v : Int32) (hdg : decode y.2.1 pc = .ok (.iinc 4 n, 3)) (hp : pc + 3 = pc') (hn : Nat.blt 4 y.2.2.1 = true) (hc : okc x3 = true) (hv : Int32.ofInt n = v) (kk : J l g d y pc' (x0 :: x1 :: x2 :: x3 :: some (.int (x + v)) :: r) st m Q) : J l g d y pc (x0 :: x1 :: x2 :: x3 :: some (.int x) :: r) st m Q := jg_iinc pc' 4 hdg hp rfl (by rw [hv]) (Nat.le_of_ble_eq_true hn) (okc_at rfl hc) kk
theorem j_iload5 (pc' : Nat) {x0 x1 x2 x3 x4 : Option Value} {r : List (Option Value)} {x : Int32} (hdg : decode y.2.1 pc = .ok (.iload 5, 2)) (hp : pc + 2 = pc') (kk : J l g d y pc' (x0 :: x1 :: x2 :: x3 :: x4 :: some (.int x) :: r) (.int x :: st) m Q) : J l g d y pc (x0 :: x1 :: x2 :: x3 :: x4 :: some (.int x) :: r) st m Q := jg_iload pc' 5 hdg hp rfl kk
theorem j_aload5 (pc' : Nat) {x0 x1 x2 x3 x4 : Option Value} {r : List (Option Value)} {x : Nat} (hdg : decode y.2.1 pc = .ok (.aload 5, 2)) (hp : pc + 2 = pc') (kk : J l g d y pc' (x0 :: x1 :: x2 :: x3 :: x4 :: some (rf g x) :: r) (rf g x :: st) m Q) : J l g d y pc (x0 :: x1 :: x2 :: x3 :: x4 :: some (rf g x) :: r) st m Q := jg_aload pc' 5 hdg hp rfl kk
theorem j_lload5 (pc' : Nat) {x0 x1 x2 x3 x4 : Option Value} {r : List (Option Value)} {x : Int64} (hdg : decode y.2.1 pc = .ok (.lload 5, 2)) (hp : pc + 2 = pc') (kk : J l g d y pc' (x0 :: x1 :: x2 :: x3 :: x4 :: some (.long x) :: r) (.long x :: st) m Q) : J l g d y pc (x0 :: x1 :: x2 :: x3 :: x4 :: some (.long x) :: r) st m Q := jg_lload pc' 5 hdg hp rfl kk
theorem j_istore5 (pc' : Nat) {x0 x1 x2 x3 x4 : Option Value} {o : Option Value} {r : List (Option Value)} {x : Int32} (hdg : decode y.2.1 pc = .ok (.istore 5, 2)) (hp : pc + 2 = pc') (hn : Nat.blt 5 y.2.2.1 = true) (hc : okc x4 = true) (kk : J l g d y pc' (x0 :: x1 :: x2 :: x3 :: x4 :: some (.int x) :: r) st m Q) : J l g d y pc (x0 :: x1 :: x2 :: x3 :: x4 :: o :: r) (.int x :: st) m Q := jg_istore pc' 5 hdg hp (Nat.le_of_ble_eq_true hn) (okc_at rfl hc) kk
theorem j_astore5 (pc' : Nat) {x0 x1 x2 x3 x4 : Option Value} {o : Option Value} {r : List (Option Value)} {x : Nat} (hdg : decode y.2.1 pc = .ok (.astore 5, 2)) (hp : pc + 2 = pc') (hn : Nat.blt 5 y.2.2.1 = true) (hc : okc x4 = true) (kk : J l g d y pc' (x0 :: x1 :: x2 :: x3 :: x4 :: some (rf g x) :: r) st m Q) : J l g d y pc (x0 :: x1 :: x2 :: x3 :: x4 :: o :: r) (rf g x :: st) m Q := jg_astore pc' 5 hdg hp (Nat.le_of_ble_eq_true hn) (okc_at rfl hc) kk
theorem j_iinc5 (pc' : Nat) {x0 x1 x2 x3 x4 : Option Value} {r : List (Option Value)} {n : Int} {x : Int32} (v : Int32) (hdg : decode y.2.1 pc = .ok (.iinc 5 n, 3)) (hp : pc + 3 = pc') (hn : Nat.blt 5 y.2.2.1 = true) (hc : okc x4 = true) (hv : Int32.ofInt n = v) (kk : J l g d y pc' (x0 :: x1 :: x2 :: x3 :: x4 :: some (.int (x + v)) :: r) st m Q) : J l g d y pc (x0 :: x1 :: x2 :: x3 :: x4 :: some (.int x) :: r) st m Q := jg_iinc pc' 5 hdg hp rfl (by rw [hv]) (Nat.le_of_ble_eq_true hn) (okc_at rfl hc) kk
theorem j_iload6 (pc' : Nat) {x0 x1 x2 x3 x4 x5 : Option Value} {r : List (Option Value)} {x : Int32} (hdg : decode y.2.1 pc = .ok (.iload 6, 2)) (hp : pc + 2 = pc') (kk : J l g d y pc' (x0 :: x1 :: x2 :: x3 :: x4 :: x5 :: some (.int x) :: r) (.int x :: st) m Q) : J l g d y pc (x0 :: x1 :: x2 :: x3 :: x4 :: x5 :: some (.int x) :: r) st m Q := jg_iload pc' 6 hdg hp rfl kk
theorem j_aload6 (pc' : Nat) {x0 x1 x2 x3 x4 x5 : Option Value} {r : List (Option Value)} {x : Nat} (hdg : decode y.2.1 pc = .ok (.aload 6, 2)) (hp : pc + 2 = pc') (kk : J l g d y pc' (x0 :: x1 :: x2 :: x3 :: x4 :: x5 :: some (rf g x) :: r) (rf g x :: st) m Q) : J l g d y pc (x0 :: x1 :: x2 :: x3 :: x4 :: x5 :: some (rf g x) :: r) st m Q := jg_aload pc' 6 hdg hp rfl kk
theorem j_lload6 (pc' : Nat) {x0 x1 x2 x3 x4 x5 : Option Value} {r : List (Option Value)} {x : Int64} (hdg : decode y.2.1 pc = .ok (.lload 6, 2)) (hp : pc + 2 = pc') (kk : J l g d y pc' (x0 :: x1 :: x2 :: x3 :: x4 :: x5 :: some (.long x) :: r) (.long x :: st) m Q) : J l g d y pc (x0 :: x1 :: x2 :: x3 :: x4 :: x5 :: some (.long x) :: r) st m Q := jg_lload pc' 6 hdg hp rfl kk
theorem j_istore6 (pc' : Nat) {x0 x1 x2 x3 x4 x5 : Option Value} {o : Option Value} {r : List (Option Value)} {x : Int32} (hdg : decode y.2.1 pc = .ok (.istore 6, 2)) (hp : pc + 2 = pc') (hn : Nat.blt 6 y.2.2.1 = true) (hc : okc x5 = true) (kk : J l g d y pc' (x0 :: x1 :: x2 :: x3 :: x4 :: x5 :: some (.int x) :: r) st m Q) : J l g d y pc (x0 :: x1 :: x2 :: x3 :: x4 :: x5 :: o :: r) (.int x :: st) m Q := jg_istore pc' 6 hdg hp (Nat.le_of_ble_eq_true hn) (okc_at rfl hc) kk
theorem j_astore6 (pc' : Nat) {x0 x1 x2 x3 x4 x5 : Option Value} {o : Option Value} {r : List (Option Value)} {x : Nat} (hdg : decode y.2.1 pc = .ok (.astore 6, 2)) (hp : pc + 2 = pc') (hn : Nat.blt 6 y.2.2.1 = true) (hc : okc x5 = true) (kk : J l g d y pc' (x0 :: x1 :: x2 :: x3 :: x4 :: x5 :: some (rf g x) :: r) st m Q) : J l g d y pc (x0 :: x1 :: x2 :: x3 :: x4 :: x5 :: o :: r) (rf g x :: st) m Q := jg_astore pc' 6 hdg hp (Nat.le_of_ble_eq_true hn) (okc_at rfl hc) kk
theorem j_iinc6 (pc' : Nat) {x0 x1 x2 x3 x4 x5 : Option Value} {r : List (Option Value)} {n : Int} {x : Int32} (v : Int32) (hdg : decode y.2.1 pc = .ok (.iinc 6 n, 3)) (hp : pc + 3 = pc') (hn : Nat.blt 6 y.2.2.1 = true) (hc : okc x5 = true) (hv : Int32.ofInt n = v) (kk : J l g d y pc' (x0 :: x1 :: x2 :: x3 :: x4 :: x5 :: some (.int (x + v)) :: r) st m Q) : J l g d y pc (x0 :: x1 :: x2 :: x3 :: x4 :: x5 :: some (.int x) :: r) st m Q := jg_iinc pc' 6 hdg hp rfl (by rw [hv]) (Nat.le_of_ble_eq_true hn) (okc_at rfl hc) kk
theorem j_iload7 (pc' : Nat) {x0 x1 x2 x3 x4 x5 x6 : Option Value} {r : List (Option Value)} {x : Int32} (hdg : decode y.2.1 pc = .ok (.iload 7, 2)) (hp : pc + 2 = pc') (kk : J l g d y pc' (x0 :: x1 :: x2 :: x3 :: x4 :: x5 :: x6 :: some (.int x) :: r) (.int x :: st) m Q) : J l g d y pc (x0 :: x1 :: x2 :: x3 :: x4 :: x5 :: x6 :: some (.int x) :: r) st m Q := jg_iload pc' 7 hdg hp rfl kk
theorem j_aload7 (pc' : Nat) {x0 x1 x2 x3 x4 x5 x6 : Option Value} {r : List (Option Value)} {x : Nat} (hdg : decode y.2.1 pc = .ok (.aload 7, 2)) (hp : pc + 2 = pc') (kk : J l g d y pc' (x0 :: x1 :: x2 :: x3 :: x4 :: x5 :: x6 :: some (rf g x) :: r) (rf g x :: st) m Q) : J l g d y pc (x0 :: x1 :: x2 :: x3 :: x4 :: x5 :: x6 :: some (rf g x) :: r) st m Q := jg_aload pc' 7 hdg hp rfl kk
theorem j_lload7 (pc' : Nat) {x0 x1 x2 x3 x4 x5 x6 : Option Value} {r : List (Option Value)} {x : Int64} (hdg : decode y.2.1 pc = .ok (.lload 7, 2)) (hp : pc + 2 = pc') (kk : J l g d y pc' (x0 :: x1 :: x2 :: x3 :: x4 :: x5 :: x6 :: some (.long x) :: r) (.long x :: st) m Q) : J l g d y pc (x0 :: x1 :: x2 :: x3 :: x4 :: x5 :: x6 :: some (.long x) :: r) st m Q := jg_lload pc' 7 hdg hp rfl kk
theorem j_istore7 (pc' : Nat) {x0 x1 x2 x3 x4 x5 x6 : Option Value} {o : Option Value} {r : List (Option Value)} {x : Int32} (hdg : decode y.2.1 pc = .ok (.istore 7, 2)) (hp : pc + 2 = pc') (hn : Nat.blt 7 y.2.2.1 = true) (hc : okc x6 = true) (kk : J l g d y pc' (x0 :: x1 :: x2 :: x3 :: x4 :: x5 :: x6 :: some (.int x) :: r) st m Q) : J l g d y pc (x0 :: x1 :: x2 :: x3 :: x4 :: x5 :: x6 :: o :: r) (.int x :: st) m Q := jg_istore pc' 7 hdg hp (Nat.le_of_ble_eq_true hn) (okc_at rfl hc) kk
theorem j_astore7 (pc' : Nat) {x0 x1 x2 x3 x4 x5 x6 : Option Value} {o : Option Value} {r : List (Option Value)} {x : Nat} (hdg : decode y.2.1 pc = .ok (.astore 7, 2)) (hp : pc + 2 = pc') (hn : Nat.blt 7 y.2.2.1 = true) (hc : okc x6 = true) (kk : J l g d y pc' (x0 :: x1 :: x2 :: x3 :: x4 :: x5 :: x6 :: some (rf g x) :: r) st m Q) : J l g d y pc (x0 :: x1 :: x2 :: x3 :: x4 :: x5 :: x6 :: o :: r) (rf g x :: st) m Q := jg_astore pc' 7 hdg hp (Nat.le_of_ble_eq_true hn) (okc_at rfl hc) kk
theorem j_iinc7 (pc' : Nat) {x0 x1 x2 x3 x4 x5 x6 : Option Value} {r : List (Option Value)} {n : Int} {x : Int32} (v : Int32) (hdg : decode y.2.1 pc = .ok (.iinc 7 n, 3)) (hp : pc + 3 = pc') (hn : Nat.blt 7 y.2.2.1 = true) (hc : okc x6 = true) (hv : Int32.ofInt n = v) (kk : J l g d y pc' (x0 :: x1 :: x2 :: x3 :: x4 :: x5 :: x6 :: some (.int (x + v)) :: r) st m Q) : J l g d y pc (x0 :: x1 :: x2 :: x3 :: x4 :: x5 :: x6 :: some (.int x) :: r) st m Q := jg_iinc pc' 7 hdg hp rfl (by rw [hv]) (Nat.le_of_ble_eq_true hn) (okc_at rfl hc) kk
theorem j_iload8 (pc' : Nat) {x0 x1 x2 x3 x4 x5 x6 x7 : Option Value} {r : List (Option Value)} {x : Int32} (hdg : decode y.2.1 pc = .ok (.iload 8, 2)) (hp : pc + 2 = pc') (kk : J l g d y pc' (x0 :: x1 :: x2 :: x3 :: x4 :: x5 :: x6 :: x7 :: some (.int x) :: r) (.int x :: st) m Q) : J l g d y pc (x0 :: x1 :: x2 :: x3 :: x4 :: x5 :: x6 :: x7 :: some (.int x) :: r) st m Q := jg_iload pc' 8 hdg hp rfl kk
theorem j_aload8 (pc' : Nat) {x0 x1 x2 x3 x4 x5 x6 x7 : Option Value} {r : List (Option Value)} {x : Nat} (hdg : decode y.2.1 pc = .ok (.aload 8, 2)) (hp : pc + 2 = pc') (kk : J l g d y pc' (x0 :: x1 :: x2 :: x3 :: x4 :: x5 :: x6 :: x7 :: some (rf g x) :: r) (rf g x :: st) m Q) : J l g d y pc (x0 :: x1 :: x2 :: x3 :: x4 :: x5 :: x6 :: x7 :: some (rf g x) :: r) st m Q := jg_aload pc' 8 hdg hp rfl kk
theorem j_lload8 (pc' : Nat) {x0 x1 x2 x3 x4 x5 x6 x7 : Option Value} {r : List (Option Value)} {x : Int64} (hdg : decode y.2.1 pc = .ok (.lload 8, 2)) (hp : pc + 2 = pc') (kk : J l g d y pc' (x0 :: x1 :: x2 :: x3 :: x4 :: x5 :: x6 :: x7 :: some (.long x) :: r) (.long x :: st) m Q) : J l g d y pc (x0 :: x1 :: x2 :: x3 :: x4 :: x5 :: x6 :: x7 :: some (.long x) :: r) st m Q := jg_lload pc' 8 hdg hp rfl kk
theorem j_istore8 (pc' : Nat) {x0 x1 x2 x3 x4 x5 x6 x7 : Option Value} {o : Option Value} {r : List (Option Value)} {x : Int32} (hdg : decode y.2.1 pc = .ok (.istore 8, 2)) (hp : pc + 2 = pc') (hn : Nat.blt 8 y.2.2.1 = true) (hc : okc x7 = true) (kk : J l g d y pc' (x0 :: x1 :: x2 :: x3 :: x4 :: x5 :: x6 :: x7 :: some (.int x) :: r) st m Q) : J l g d y pc (x0 :: x1 :: x2 :: x3 :: x4 :: x5 :: x6 :: x7 :: o :: r) (.int x :: st) m Q := jg_istore pc' 8 hdg hp (Nat.le_of_ble_eq_true hn) (okc_at rfl hc) kk
theorem j_astore8 (pc' : Nat) {x0 x1 x2 x3 x4 x5 x6 x7 : Option Value} {o : Option Value} {r : List (Option Value)} {x : Nat} (hdg : decode y.2.1 pc = .ok (.astore 8, 2)) (hp : pc + 2 = pc') (hn : Nat.blt 8 y.2.2.1 = true) (hc : okc x7 = true) (kk : J l g d y pc' (x0 :: x1 :: x2 :: x3 :: x4 :: x5 :: x6 :: x7 :: some (rf g x) :: r) st m Q) : J l g d y pc (x0 :: x1 :: x2 :: x3 :: x4 :: x5 :: x6 :: x7 :: o :: r) (rf g x :: st) m Q := jg_astore pc' 8 hdg hp (Nat.le_of_ble_eq_true hn) (okc_at rfl hc) kk
theorem j_iinc8 (pc' : Nat) {x0 x1 x2 x3 x4 x5 x6 x7 : Option Value} {r : List (Option Value)} {n : Int} {x : Int32} (v : Int32) (hdg : decode y.2.1 pc = .ok (.iinc 8 n, 3)) (hp : pc + 3 = pc') (hn : Nat.blt 8 y.2.2.1 = true) (hc : okc x7 = true) (hv : Int32.ofInt n = v) (kk : J l g d y pc' (x0 :: x1 :: x2 :: x3 :: x4 :: x5 :: x6 :: x7 :: some (.int (x + v)) :: r) st m Q) : J l g d y pc (x0 :: x1 :: x2 :: x3 :: x4 :: x5 :: x6 :: x7 :: some (.int x) :: r) st m Q := jg_iinc pc' 8 hdg hp rfl (by rw [hv]) (Nat.le_of_ble_eq_true hn) (okc_at rfl hc) kk
theorem j_iload9 (pc' : Nat) {x0 x1 x2 x3 x4 x5 x6 x7 x8 : Option Value} {r : List (Option Value)} {x : Int32} (hdg : decode y.2.1 pc = .ok (.iload 9, 2)) (hp : pc + 2 = pc') (kk : J l g d y pc' (x0 :: x1 :: x2 :: x3 :: x4 :: x5 :: x6 :: x7 :: x8 :: some (.int x) :: r) (.int x :: st) m Q) : J l g d y pc (x0 :: x1 :: x2 :: x3 :: x4 :: x5 :: x6 :: x7 :: x8 :: some (.int x) :: r) st m Q := jg_iload pc' 9 hdg hp rfl kk
theorem j_aload9 (pc' : Nat) {x0 x1 x2 x3 x4 x5 x6 x7 x8 : Option Value} {r : List (Option Value)} {x : Nat} (hdg : decode y.2.1 pc = .ok (.aload 9, 2)) (hp : pc + 2 = pc') (kk : J l g d y pc' (x0 :: x1 :: x2 :: x3 :: x4 :: x5 :: x6 :: x7 :: x8 :: some (rf g x) :: r) (rf g x :: st) m Q) : J l g d y pc (x0 :: x1 :: x2 :: x3 :: x4 :: x5 :: x6 :: x7 :: x8 :: some (rf g x) :: r) st m Q := jg_aload pc' 9 hdg hp rfl kk
theorem j_lload9 (pc' : Nat) {x0 x1 x2 x3 x4 x5 x6 x7 x8 : Option Value} {r : List (Option Value)} {x : Int64} (hdg : decode y.2.1 pc = .ok (.lload 9, 2)) (hp : pc + 2 = pc') (kk : J l g d y pc' (x0 :: x1 :: x2 :: x3 :: x4 :: x5 :: x6 :: x7 :: x8 :: some (.long x) :: r) (.long x :: st) m Q) : J l g d y pc (x0 :: x1 :: x2 :: x3 :: x4 :: x5 :: x6 :: x7 :: x8 :: some (.long x) :: r) st m Q := jg_lload pc' 9 hdg hp rfl kk
theorem j_istore9 (pc' : Nat) {x0 x1 x2 x3 x4 x5 x6 x7 x8 : Option Value} {o : Option Value} {r : List (Option Value)} {x : Int32} (hdg : decode y.2.1 pc = .ok (.istore 9, 2)) (hp : pc + 2 = pc') (hn : Nat.blt 9 y.2.2.1 = true) (hc : okc x8 = true) (kk : J l g d y pc' (x0 :: x1 :: x2 :: x3 :: x4 :: x5 :: x6 :: x7 :: x8 :: some (.int x) :: r) st m Q) : J l g d y pc (x0 :: x1 :: x2 :: x3 :: x4 :: x5 :: x6 :: x7 :: x8 :: o :: r) (.int x :: st) m Q := jg_istore pc' 9 hdg hp (Nat.le_of_ble_eq_true hn) (okc_at rfl hc) kk
theorem j_astore9 (pc' : Nat) {x0 x1 x2 x3 x4 x5 x6 x7 x8 : Option Value} {o : Option Value} {r : List (Option Value)} {x : Nat} (hdg : decode y.2.1 pc = .ok (.astore 9, 2)) (hp : pc + 2 = pc') (hn : Nat.blt 9 y.2.2.1 = true) (hc : okc x8 = true) (kk : J l g d y pc' (x0 :: x1 :: x2 :: x3 :: x4 :: x5 :: x6 :: x7 :: x8 :: some (rf g x) :: r) st m Q) : J l g d y pc (x0 :: x1 :: x2 :: x3 :: x4 :: x5 :: x6 :: x7 :: x8 :: o :: r) (rf g x :: st) m Q := jg_astore pc' 9 hdg hp (Nat.le_of_ble_eq_true hn) (okc_at rfl hc) kk
theorem j_iinc9 (pc' : Nat) {x0 x1 x2 x3 x4 x5 x6 x7 x8 : Option Value} {r : List (Option Value)} {n : Int} {x : Int32} (v : Int32) (hdg : decode y.2.1 pc = .ok (.iinc 9 n, 3)) (hp : pc + 3 = pc') (hn : Nat.blt 9 y.2.2.1 = true) (hc : okc x8 = true) (hv : Int32.ofInt n = v) (kk : J l g d y pc' (x0 :: x1 :: x2 :: x3 :: x4 :: x5 :: x6 :: x7 :: x8 :: some (.int (x + v)) :: r) st m Q) : J l g d y pc (x0 :: x1 :: x2 :: x3 :: x4 :: x5 :: x6 :: x7 :: x8 :: some (.int x) :: r) st m Q := jg_iinc pc' 9 hdg hp rfl (by rw [hv]) (Nat.le_of_ble_eq_true hn) (okc_at rfl hc) kk
theorem j_iload10 (pc' : Nat) {x0 x1 x2 x3 x4 x5 x6 x7 x8 x9 : Option Value} {r : List (Option Value)} {x : Int32} (hdg : decode y.2.1 pc = .ok (.iload 10, 2)) (hp : pc + 2 = pc') (kk : J l g d y pc' (x0 :: x1 :: x2 :: x3 :: x4 :: x5 :: x6 :: x7 :: x8 :: x9 :: some (.int x) :: r) (.int x :: st) m Q) : J l g d y pc (x0 :: x1 :: x2 :: x3 :: x4 :: x5 :: x6 :: x7 :: x8 :: x9 :: some (.int x) :: r) st m Q := jg_iload pc' 10 hdg hp rfl kk
theorem j_aload10 (pc' : Nat) {x0 x1 x2 x3 x4 x5 x6 x7 x8 x9 : Option Value} {r : List (Option Value)} {x : Nat} (hdg : decode y.2.1 pc = .ok (.aload 10, 2)) (hp : pc + 2 = pc') (kk : J l g d y pc' (x0 :: x1 :: x2 :: x3 :: x4 :: x5 :: x6 :: x7 :: x8 :: x9 :: some (rf g x) :: r) (rf g x :: st) m Q) : J l g d y pc (x0 :: x1 :: x2 :: x3 :: x4 :: x5 :: x6 :: x7 :: x8 :: x9 :: some (rf g x) :: r) st m Q := jg_aload pc' 10 hdg hp rfl kk
theorem j_lload10 (pc' : Nat) {x0 x1 x2 x3 x4 x5 x6 x7 x8 x9 : Option Value} {r : List (Option Value)} {x : Int64} (hdg : decode y.2.1 pc = .ok (.lload 10, 2)) (hp : pc + 2 = pc') (kk : J l g d y pc' (x0 :: x1 :: x2 :: x3 :: x4 :: x5 :: x6 :: x7 :: x8 :: x9 :: some (.long x) :: r) (.long x :: st) m Q) : J l g d y pc (x0 :: x1 :: x2 :: x3 :: x4 :: x5 :: x6 :: x7 :: x8 :: x9 :: some (.long x) :: r) st m Q := jg_lload pc' 10 hdg hp rfl kk
theorem j_istore10 (pc' : Nat) {x0 x1 x2 x3 x4 x5 x6 x7 x8 x9 : Option Value} {o : Option Value} {r : List (Option Value)} {x : Int32} (hdg : decode y.2.1 pc = .ok (.istore 10, 2)) (hp : pc + 2 = pc') (hn : Nat.blt 10 y.2.2.1 = true) (hc : okc x9 = true) (kk : J l g d y pc' (x0 :: x1 :: x2 :: x3 :: x4 :: x5 :: x6 :: x7 :: x8 :: x9 :: some (.int x) :: r) st m Q) : J l g d y pc (x0 :: x1 :: x2 :: x3 :: x4 :: x5 :: x6 :: x7 :: x8 :: x9 :: o :: r) (.int x :: st) m Q := jg_istore pc' 10 hdg hp (Nat.le_of_ble_eq_true hn) (okc_at rfl hc) kk
theorem j_astore10 (pc' : Nat) {x0 x1 x2 x3 x4 x5 x6 x7 x8 x9 : Option Value} {o : Option Value} {r : List (Option Value)} {x : Nat} (hdg : decode y.2.1 pc = .ok (.astore 10, 2)) (hp : pc + 2 = pc') (hn : Nat.blt 10 y.2.2.1 = true) (hc : okc x9 = true) (kk : J l g d y pc' (x0 :: x1 :: x2 :: x3 :: x4 :: x5 :: x6 :: x7 :: x8 :: x9 :: some (rf g x) :: r) st m Q) : J l g d y pc (x0 :: x1 :: x2 :: x3 :: x4 :: x5 :: x6 :: x7 :: x8 :: x9 :: o :: r) (rf g x :: st) m Q := jg_astore pc' 10 hdg hp (Nat.le_of_ble_eq_true hn) (okc_at rfl hc) kk
theorem j_iinc10 (pc' : Nat) {x0 x1 x2 x3 x4 x5 x6 x7 x8 x9 : Option Value} {r : List (Option Value)} {n : Int} {x : Int32} (v : Int32) (hdg : decode y.2.1 pc = .ok (.iinc 10 n, 3)) (hp : pc + 3 = pc') (hn : Nat.blt 10 y.2.2.1 = true) (hc : okc x9 = true) (hv : Int32.ofInt n = v) (kk : J l g d y pc' (x0 :: x1 :: x2 :: x3 :: x4 :: x5 :: x6 :: x7 :: x8 :: x9 :: some (.int (x + v)) :: r) st m Q) : J l g d y pc (x0 :: x1 :: x2 :: x3 :: x4 :: x5 :: x6 :: x7 :: x8 :: x9 :: some (.int x) :: r) st m Q := jg_iinc pc' 10 hdg hp rfl (by rw [hv]) (Nat.le_of_ble_eq_true hn) (okc_at rfl hc) kk
theorem j_iload11 (pc' : Nat) {x0 x1 x2 x3 x4 x5 x6 x7 x8 x9 x10 : Option Value} {r : List (Option Value)} {x : Int32} (hdg : decode y.2.1 pc = .ok (.iload 11, 2)) (hp : pc + 2 = pc') (kk : J l g d y pc' (x0 :: x1 :: x2 :: x3 :: x4 :: x5 :: x6 :: x7 :: x8 :: x9 :: x10 :: some (.int x) :: r) (.int x :: st) m Q) : J l g d y pc (x0 :: x1 :: x2 :: x3 :: x4 :: x5 :: x6 :: x7 :: x8 :: x9 :: x10 :: some (.int x) :: r) st m Q := jg_iload pc' 11 hdg hp rfl kk
theorem j_aload11 (pc' : Nat) {x0 x1 x2 x3 x4 x5 x6 x7 x8 x9 x10 : Option Value} {r : List (Option Value)} {x : Nat} (hdg : decode y.2.1 pc = .ok (.aload 11, 2)) (hp : pc + 2 = pc') (kk : J l g d y pc' (x0 :: x1 :: x2 :: x3 :: x4 :: x5 :: x6 :: x7 :: x8 :: x9 :: x10 :: some (rf g x) :: r) (rf g x :: st) m Q) : J l g d y pc (x0 :: x1 :: x2 :: x3 :: x4 :: x5 :: x6 :: x7 :: x8 :: x9 :: x10 :: some (rf g x) :: r) st m Q := jg_aload pc' 11 hdg hp rfl kk
theorem j_lload11 (pc' : Nat) {x0 x1 x2 x3 x4 x5 x6 x7 x8 x9 x10 : Option Value} {r : List (Option Value)} {x : Int64} (hdg : decode y.2.1 pc = .ok (.lload 11, 2)) (hp : pc + 2 = pc') (kk : J l g d y pc' (x0 :: x1 :: x2 :: x3 :: x4 :: x5 :: x6 :: x7 :: x8 :: x9 :: x10 :: some (.long x) :: r) (.long x :: st) m Q) : J l g d y pc (x0 :: x1 :: x2 :: x3 :: x4 :: x5 :: x6 :: x7 :: x8 :: x9 :: x10 :: some (.long x) :: r) st m Q := jg_lload pc' 11 hdg hp rfl kk
theorem j_istore11 (pc' : Nat) {x0 x1 x2 x3 x4 x5 x6 x7 x8 x9 x10 : Option Value} {o : Option Value} {r : List (Option Value)} {x : Int32} (hdg : decode y.2.1 pc = .ok (.istore 11, 2)) (hp : pc + 2 = pc') (hn : Nat.blt 11 y.2.2.1 = true) (hc : okc x10 = true) (kk : J l g d y pc' (x0 :: x1 :: x2 :: x3 :: x4 :: x5 :: x6 :: x7 :: x8 :: x9 :: x10 :: some (.int x) :: r) st m Q) : J l g d y pc (x0 :: x1 :: x2 :: x3 :: x4 :: x5 :: x6 :: x7 :: x8 :: x9 :: x10 :: o :: r) (.int x :: st) m Q := jg_istore pc' 11 hdg hp (Nat.le_of_ble_eq_true hn) (okc_at rfl hc) kk
theorem j_astore11 (pc' : Nat) {x0 x1 x2 x3 x4 x5 x6 x7 x8 x9 x10 : Option Value} {o : Option Value} {r : List (Option Value)} {x : Nat} (hdg : decode y.2.1 pc = .ok (.astore 11, 2)) (hp : pc + 2 = pc') (hn : Nat.blt 11 y.2.2.1 = true) (hc : okc x10 = true) (kk : J l g d y pc' (x0 :: x1 :: x2 :: x3 :: x4 :: x5 :: x6 :: x7 :: x8 :: x9 :: x10 :: some (rf g x) :: r) st m Q) : J l g d y pc (x0 :: x1 :: x2 :: x3 :: x4 :: x5 :: x6 :: x7 :: x8 :: x9 :: x10 :: o :: r) (rf g x :: st) m Q := jg_astore pc' 11 hdg hp (Nat.le_of_ble_eq_true hn) (okc_at rfl hc) kk
theorem j_iinc11 (pc' : Nat) {x0 x1 x2 x3 x4 x5 x6 x7 x8 x9 x10 : Option Value} {r : List (Option Value)} {n : Int} {x : Int32} (v : Int32) (hdg : decode y.2.1 pc = .ok (.iinc 11 n, 3)) (hp : pc + 3 = pc') (hn : Nat.blt 11 y.2.2.1 = true) (hc : okc x10 = true) (hv : Int32.ofInt n = v) (kk : J l g d y pc' (x0 :: x1 :: x2 :: x3 :: x4 :: x5 :: x6 :: x7 :: x8 :: x9 :: x10 :: some (.int (x + v)) :: r) st m Q) : J l g d y pc (x0 :: x1 :: x2 :: x3 :: x4 :: x5 :: x6 :: x7 :: x8 :: x9 :: x10 :: some (.int x) :: r) st m Q := jg_iinc pc' 11 hdg hp rfl (by rw [hv]) (Nat.le_of_ble_eq_true hn) (okc_at rfl hc) kk
theorem j_iload12 (pc' : Nat) {x0 x1 x2 x3 x4 x5 x6 x7 x8 x9 x10 x11 : Option Value} {r : List (Option Value)} {x : Int32} (hdg : decode y.2.1 pc = .ok (.iload 12, 2)) (hp : pc + 2 = pc') (kk : J l g d y pc' (x0 :: x1 :: x2 :: x3 :: x4 :: x5 :: x6 :: x7 :: x8 :: x9 :: x10 :: x11 :: some (.int x) :: r) (.int x :: st) m Q) : J l g d y pc (x0 :: x1 :: x2 :: x3 :: x4 :: x5 :: x6 :: x7 :: x8 :: x9 :: x10 :: x11 :: some (.int x) :: r) st m Q := jg_iload pc' 12 hdg hp rfl kk
theorem j_aload12 (pc' : Nat) {x0 x1 x2 x3 x4 x5 x6 x7 x8 x9 x10 x11 : Option Value} {r : List (Option Value)} {x : Nat} (hdg : decode y.2.1 pc = .ok (.aload 12, 2)) (hp : pc + 2 = pc') (kk : J l g d y pc' (x0 :: x1 :: x2 :: x3 :: x4 :: x5 :: x6 :: x7 :: x8 :: x9 :: x10 :: x11 :: some (rf g x) :: r) (rf g x :: st) m Q) : J l g d y pc (x0 :: x1 :: x2 :: x3 :: x4 :: x5 :: x6 :: x7 :: x8 :: x9 :: x10 :: x11 :: some (rf g x) :: r) st m Q := jg_aload pc' 12 hdg hp rfl kk
theorem j_lload12 (pc' : Nat) {x0 x1 x2 x3 x4 x5 x6 x7 x8 x9 x10 x11 : Option Value} {r : List (Option Value)} {x : Int64} (hdg : decode y.2.1 pc = .ok (.lload 12, 2)) (hp : pc + 2 = pc') (kk : J l g d y pc' (x0 :: x1 :: x2 :: x3 :: x4 :: x5 :: x6 :: x7 :: x8 :: x9 :: x10 :: x11 :: some (.long x) :: r) (.long x :: st) m Q) : J l g d y pc (x0 :: x1 :: x2 :: x3 :: x4 :: x5 :: x6 :: x7 :: x8 :: x9 :: x10 :: x11 :: some (.long x) :: r) st m Q := jg_lload pc' 12 hdg hp rfl kk
theorem j_istore12 (pc' : Nat) {x0 x1 x2 x3 x4 x5 x6 x7 x8 x9 x10 x11 : Option Value} {o : Option Value} {r : List (Option Value)} {x : Int32} (hdg : decode y.2.1 pc = .ok (.istore 12, 2)) (hp : pc + 2 = pc') (hn : Nat.blt 12 y.2.2.1 = true) (hc : okc x11 = true) (kk : J l g d y pc' (x0 :: x1 :: x2 :: x3 :: x4 :: x5 :: x6 :: x7 :: x8 :: x9 :: x10 :: x11 :: some (.int x) :: r) st m Q) : J l g d y pc (x0 :: x1 :: x2 :: x3 :: x4 :: x5 :: x6 :: x7 :: x8 :: x9 :: x10 :: x11 :: o :: r) (.int x :: st) m Q := jg_istore pc' 12 hdg hp (Nat.le_of_ble_eq_true hn) (okc_at rfl hc) kk
theorem j_astore12 (pc' : Nat) {x0 x1 x2 x3 x4 x5 x6 x7 x8 x9 x10 x11 : Option Value} {o : Option Value} {r : List (Option Value)} {x : Nat} (hdg : decode y.2.1 pc = .ok (.astore 12, 2)) (hp : pc + 2 = pc') (hn : Nat.blt 12 y.2.2.1 = true) (hc : okc x11 = true) (kk : J l g d y pc' (x0 :: x1 :: x2 :: x3 :: x4 :: x5 :: x6 :: x7 :: x8 :: x9 :: x10 :: x11 :: some (rf g x) :: r) st m Q) : J l g d y pc (x0 :: x1 :: x2 :: x3 :: x4 :: x5 :: x6 :: x7 :: x8 :: x9 :: x10 :: x11 :: o :: r) (rf g x :: st) m Q := jg_astore pc' 12 hdg hp (Nat.le_of_ble_eq_true hn) (okc_at rfl hc) kk
theorem j_iinc12 (pc' : Nat) {x0 x1 x2 x3 x4 x5 x6 x7 x8 x9 x10 x11 : Option Value} {r : List (Option Value)} {n : Int} {x : Int32} (v : Int32) (hdg : decode y.2.1 pc = .ok (.iinc 12 n, 3)) (hp : pc + 3 = pc') (hn : Nat.blt 12 y.2.2.1 = true) (hc : okc x11 = true) (hv : Int32.ofInt n = v) (kk : J l g d y pc' (x0 :: x1 :: x2 :: x3 :: x4 :: x5 :: x6 :: x7 :: x8 :: x9 :: x10 :: x11 :: some (.int (x + v)) :: r) st m Q) : J l g d y pc (x0 :: x1 :: x2 :: x3 :: x4 :: x5 :: x6 :: x7 :: x8 :: x9 :: x10 :: x11 :: some (.int x) :: r) st m Q := jg_iinc pc' 12 hdg hp rfl (by rw [hv]) (Nat.le_of_ble_eq_true hn) (okc_at rfl hc) kk
theorem j_iload13 (pc' : Nat) {x0 x1 x2 x3 x4 x5 x6 x7 x8 x9 x10 x11 x12 : Option Value} {r : List (Option Value)} {x : Int32} (hdg : decode y.2.1 pc = .ok (.iload 13, 2)) (hp : pc + 2 = pc') (kk : J l g d y pc' (x0 :: x1 :: x2 :: x3 :: x4 :: x5 :: x6 :: x7 :: x8 :: x9 :: x10 :: x11 :: x12 :: some (.int x) :: r) (.int x :: st) m Q) : J l g d y pc (x0 :: x1 :: x2 :: x3 :: x4 :: x5 :: x6 :: x7 :: x8 :: x9 :: x10 :: x11 :: x12 :: some (.int x) :: r) st m Q := jg_iload pc' 13 hdg hp rfl kk
theorem j_aload13 (pc' : Nat) {x0 x1 x2 x3 x4 x5 x6 x7 x8 x9 x10 x11 x12 : Option Value} {r : List (Option Value)} {x : Nat} (hdg : decode y.2.1 pc = .ok (.aload 13, 2)) (hp : pc + 2 = pc') (kk : J l g d y pc' (x0 :: x1 :: x2 :: x3 :: x4 :: x5 :: x6 :: x7 :: x8 :: x9 :: x10 :: x11 :: x12 :: some (rf g x) :: r) (rf g x :: st) m Q) : J l g d y pc (x0 :: x1 :: x2 :: x3 :: x4 :: x5 :: x6 :: x7 :: x8 :: x9 :: x10 :: x11 :: x12 :: some (rf g x) :: r) st m Q := jg_aload pc' 13 hdg hp rfl kk
theorem j_lload13 (pc' : Nat) {x0 x1 x2 x3 x4 x5 x6 x7 x8 x9 x10 x11 x12 : Option Value} {r : List (Option Value)} {x : Int64} (hdg : decode y.2.1 pc = .ok (.lload 13, 2)) (hp : pc + 2 = pc') (kk : J l g d y pc' (x0 :: x1 :: x2 :: x3 :: x4 :: x5 :: x6 :: x7 :: x8 :: x9 :: x10 :: x11 :: x12 :: some (.long x) :: r) (.long x :: st) m Q) : J l g d y pc (x0 :: x1 :: x2 :: x3 :: x4 :: x5 :: x6 :: x7 :: x8 :: x9 :: x10 :: x11 :: x12 :: some (.long x) :: r) st m Q := jg_lload pc' 13 hdg hp rfl kk
theorem j_istore13 (pc' : Nat) {x0 x1 x2 x3 x4 x5 x6 x7 x8 x9 x10 x11 x12 : Option Value} {o : Option Value} {r : List (Option Value)} {x : Int32} (hdg : decode y.2.1 pc = .ok (.istore 13, 2)) (hp : pc + 2 = pc') (hn : Nat.blt 13 y.2.2.1 = true) (hc : okc x12 = true) (kk : J l g d y pc' (x0 :: x1 :: x2 :: x3 :: x4 :: x5 :: x6 :: x7 :: x8 :: x9 :: x10 :: x11 :: x12 :: some (.int x) :: r) st m Q) : J l g d y pc (x0 :: x1 :: x2 :: x3 :: x4 :: x5 :: x6 :: x7 :: x8 :: x9 :: x10 :: x11 :: x12 :: o :: r) (.int x :: st) m Q := jg_istore pc' 13 hdg hp (Nat.le_of_ble_eq_true hn) (okc_at rfl hc) kk
theorem j_astore13 (pc' : Nat) {x0 x1 x2 x3 x4 x5 x6 x7 x8 x9 x10 x11 x12 : Option Value} {o : Option Value} {r : List (Option Value)} {x : Nat} (hdg : decode y.2.1 pc = .ok (.astore 13, 2)) (hp : pc + 2 = pc') (hn : Nat.blt 13 y.2.2.1 = true) (hc : okc x12 = true) (kk : J l g d y pc' (x0 :: x1 :: x2 :: x3 :: x4 :: x5 :: x6 :: x7 :: x8 :: x9 :: x10 :: x11 :: x12 :: some (rf g x) :: r) st m Q) : J l g d y pc (x0 :: x1 :: x2 :: x3 :: x4 :: x5 :: x6 :: x7 :: x8 :: x9 :: x10 :: x11 :: x12 :: o :: r) (rf g x :: st) m Q := jg_astore pc' 13 hdg hp (Nat.le_of_ble_eq_true hn) (okc_at rfl hc) kk
theorem j_iinc13 (pc' : Nat) {x0 x1 x2 x3 x4 x5 x6 x7 x8 x9 x10 x11 x12 : Option Value} {r : List (Option Value)} {n : Int} {x : Int32} (v : Int32) (hdg : decode y.2.1 pc = .ok (.iinc 13 n, 3)) (hp : pc + 3 = pc') (hn : Nat.blt 13 y.2.2.1 = true) (hc : okc x12 = true) (hv : Int32.ofInt n = v) (kk : J l g d y pc' (x0 :: x1 :: x2 :: x3 :: x4 :: x5 :: x6 :: x7 :: x8 :: x9 :: x10 :: x11 :: x12 :: some (.int (x + v)) :: r) st m Q) : J l g d y pc (x0 :: x1 :: x2 :: x3 :: x4 :: x5 :: x6 :: x7 :: x8 :: x9 :: x10 :: x11 :: x12 :: some (.int x) :: r) st m Q := jg_iinc pc' 13 hdg hp rfl (by rw [hv]) (Nat.le_of_ble_eq_true hn) (okc_at rfl hc) kk
end JR
end
section
/-! heap rows, returns, calls -/
theorem u_in_6 : ∀ w ∈ u_ws RX6 TX6 9, w ∈ lw_gd := by decide +kernel
theorem u_in_8 : ∀ w ∈ u_ws RX8 TX8 7, w ∈ lw_gd := by decide +kernel
theorem u_in_9 : ∀ w ∈ u_ws RX9 TX9 4, w ∈ lw_gd := by decide +kernel
theorem u_in_10 : ∀ w ∈ u_ws RX10 TX10 14, w ∈ lw_gd := by decide +kernel
theorem u_in_11 : ∀ w ∈ u_ws RX11 TX11 11, w ∈ lw_gd := by decide +kernel
theorem u_in_12 : ∀ w ∈ u_ws RX12 TX12 22, w ∈ lw_gd := by decide +kernel
def clsP (q : vw_C) : Prop := (∀ w ∈ u_ws q.1 q.2.1 q.2.2, w ∈ lw_gd) ∧ (∃ ty0 : Nat → FieldType, ∀ k, k < q.2.2 → parseFieldDescriptor (q.2.1 k).2.2.1 = some (ty0 k)) ∧ ∀ a, a < q.2.2 → ∀ b, b < q.2.2 → a ≠ b → (q.2.1 a).2.1 ≠ (q.2.1 b).2.1
theorem clsOK {ci : Nat} {q : vw_C} (h : cls[ci]? = some q) : clsP q := by
  match ci, h with
  | 0, h => cases h; exact ⟨fun w h => by simp [u_ws] at h, ⟨tyX0, tyX0_ok⟩, nmX0⟩
  | 1, h => cases h; exact ⟨fun w h => by simp [u_ws] at h, ⟨tyX1, tyX1_ok⟩, nmX1⟩
  | 2, h => cases h; exact ⟨fun w h => by simp [u_ws] at h, ⟨tyX2, tyX2_ok⟩, nmX2⟩
  | 3, h => cases h; exact ⟨fun w h => by simp [u_ws] at h, ⟨tyX3, tyX3_ok⟩, nmX3⟩
  | 4, h => cases h; exact ⟨fun w h => by simp [u_ws] at h, ⟨tyX4, tyX4_ok⟩, nmX4⟩
  | 5, h => cases h; exact ⟨fun w h => by simp [u_ws] at h, ⟨tyX5, tyX5_ok⟩, nmX5⟩
  | 6, h => cases h; exact ⟨u_in_6, ⟨tyX6, tyX6_ok⟩, nmX6⟩
  | 7, h => cases h; exact ⟨fun w h => by simp [u_ws] at h, ⟨tyX7, tyX7_ok⟩, nmX7⟩
  | 8, h => cases h; exact ⟨u_in_8, ⟨tyX8, tyX8_ok⟩, nmX8⟩
  | 9, h => cases h; exact ⟨u_in_9, ⟨tyX9, tyX9_ok⟩, nmX9⟩
  | 10, h => cases h; exact ⟨u_in_10, ⟨tyX10, tyX10_ok⟩, nmX10⟩
  | 11, h => cases h; exact ⟨u_in_11, ⟨tyX11, tyX11_ok⟩, nmX11⟩
  | 12, h => cases h; exact ⟨u_in_12, ⟨tyX12, tyX12_ok⟩, nmX12⟩
  | k + 13, h => simp [cls] at h
def FL (own : String) (idx ci k : Nat) : Prop := ∃ q : vw_C, cls[ci]? = some q ∧ k < q.2.2 ∧ Cond.fieldLink own idx (q.2.1 k).1 (q.2.1 k).2.1 (q.2.1 k).2.2.1 ∈ lw_gd
def FP (own : String) (idx ci k : Nat) (ty : FieldType) : Prop := ∃ q : vw_C, cls[ci]? = some q ∧ k < q.2.2 ∧ Cond.fieldLink own idx (q.2.1 k).1 (q.2.1 k).2.1 (q.2.1 k).2.2.1 ∈ lw_gd ∧ (q.2.1 k).2.2.2 = false ∧ parseFieldDescriptor (q.2.1 k).2.2.1 = some ty
def okO (a ci k : Nat) : Bool := Nat.blt a 81 && (Nat.beq (tg a) 0 && (Nat.beq (cx a) ci && Nat.blt k (ln a)))
def okC (a ci : Nat) : Bool := Nat.blt a 81 && (Nat.beq (tg a) 0 && Nat.beq (cx a) ci)
def okA (a : Nat) : Bool := Nat.blt a 81 && Nat.beq (tg a) 1
def okR (a : Nat) : Bool := Nat.blt a 81 && Nat.beq (tg a) 2
theorem okO_s {a ci k : Nat} (h : okO a ci k = true) : a < 81 ∧ tg a = 0 ∧ cx a = ci ∧ k < ln a := by
  simp only [okO, Bool.and_eq_true] at h
  exact ⟨Nat.le_of_ble_eq_true h.1, Nat.eq_of_beq_eq_true h.2.1, Nat.eq_of_beq_eq_true h.2.2.1, Nat.le_of_ble_eq_true h.2.2.2⟩
theorem okA_s {a : Nat} (h : okA a = true) : a < 81 ∧ tg a = 1 := by
  simp only [okA, Bool.and_eq_true] at h
  exact ⟨Nat.le_of_ble_eq_true h.1, Nat.eq_of_beq_eq_true h.2⟩
theorem okR_s {a : Nat} (h : okR a = true) : a < 81 ∧ tg a = 2 := by
  simp only [okR, Bool.and_eq_true] at h
  exact ⟨Nat.le_of_ble_eq_true h.1, Nat.eq_of_beq_eq_true h.2⟩
section JH
variable {l : Launch} {g : Gv} {d : Nat} {y : MD} {pc : Nat} {ls : List (Option Value)} {st : List Value} {m : Mem} {Q : Option Value → Mem → Prop}
theorem jg_get (pc' : Nat) {a i ci k : Nat} {v : Value} (hdg : decode y.2.1 pc = .ok (.getfield i, 3)) (hp : pc + 3 = pc') (hf : FL y.1.cls i ci k) (ho : okO a ci k = true) (hv : fv g m a k = v) (kk : J l g d y pc' ls (v :: st) m Q) : J l g d y pc ls (rf g a :: st) m Q := by
  intro p e s mi args below meth c H locs la C R S L
  subst hp
  obtain ⟨q, h1, h2, h3⟩ := hf
  obtain ⟨o1, o2, o3, o4⟩ := okO_s ho
  refine va_get (D := gD g) (cl := cls) (tys := tys g) (ws := Wd g m) (C := q.1) (T := q.2.1) (N := q.2.2) (ci := ci) (fs := (List.range (ln a)).map (fv g m a)) C.1 C.2.1 C.2.2.2.2.2.1 (clsOK h1).1 C.2.2.2.2.1 (C.2.2.2.2.2.2.2).K R.1 a (by rw [Wd_get g m o1, cell_obj o2, o3]) h1 k h2 (C.2.2.2.2.2.1 _ h3) (fun _ h => h) ?_ hdg (kk p e s mi args below meth c H locs la C R S L)
  rw [List.getElem?_map, List.getElem?_range o4, ← hv]
  rfl
theorem j_getI (pc' : Nat) {a i ci k : Nat} (hdg : decode y.2.1 pc = .ok (.getfield i, 3)) (hp : pc + 3 = pc') (hf : FL y.1.cls i ci k) (ho : okO a ci k = true) (hr : rs a k = 0) (kk : J l g d y pc' ls (.int (m a k) :: st) m Q) : J l g d y pc ls (rf g a :: st) m Q :=
  jg_get pc' hdg hp hf ho (by unfold fv; rw [hr]) kk
theorem j_getR (pc' : Nat) {a i ci k b : Nat} (hdg : decode y.2.1 pc = .ok (.getfield i, 3)) (hp : pc + 3 = pc') (hf : FL y.1.cls i ci k) (ho : okO a ci k = true) (hr : rs a k = b + 1) (kk : J l g d y pc' ls (rf g b :: st) m Q) : J l g d y pc ls (rf g a :: st) m Q :=
  jg_get pc' hdg hp hf ho (by unfold fv; rw [hr]) kk
theorem jg_put (pc' : Nat) {a i ci k : Nat} {ty : FieldType} {v : Int32} (hdg : decode y.2.1 pc = .ok (.putfield i, 3)) (hp : pc + 3 = pc') (hf : FP y.1.cls i ci k ty) (ho : okO a ci k = true) (hr : rs a k = 0) (hn : narrow ty (.int v) = .int v) (hfit : fits ty (.int v) = true) (kk : J l g d y pc' ls st (up2 m a k v) Q) : J l g d y pc ls (.int v :: rf g a :: st) m Q := by
  intro p e s mi args below meth c H locs la C R S L
  subst hp
  obtain ⟨q, h1, h2, h3, h4, h5⟩ := hf
  obtain ⟨o1, o2, o3, o4⟩ := okO_s ho
  obtain ⟨c1, ⟨ty0, c2⟩, c3⟩ := clsOK h1
  refine va_put (D := gD g) (cl := cls) (tys := tys g) (ws := Wd g m) (A := Fz g) (H0 := g.1.heap) (C := q.1) (T := q.2.1) (N := q.2.2) (ci := ci) (fs := (List.range (ln a)).map (fv g m a)) C.1 C.2.1 C.2.2.2.2.2.1 c1 ty0 c2 c3 C.2.2.2.2.1 (C.2.2.2.2.2.2.2).K R.1 (Wd_D C.2.2.2.2.2.2.2.1 m) (R.S S) a (by rw [Wd_get g m o1, cell_obj o2, o3]) h1 k h2 (C.2.2.2.2.2.1 _ h3) (fun _ h => h) h4 h5 hn hfit (by simp; exact o4) hdg (fun H1 locs1 p1 _ s1 => ?_)
  have e2 : (Wd g m).set a (ga g a, .inr (ci, ((List.range (ln a)).map (fv g m a)).set k (.int v))) = Wd g (up2 m a k v) := Wd_set o1 (by rw [cell_obj o2, o3, map_up hr o4])
  have e3 : va_P (gD g) cls (Wd g (up2 m a k v)) H1 := by rw [← e2]; exact p1
  obtain ⟨R1, S1⟩ := RH.of e3 s1
  exact kk p e s mi args below meth c H1 locs1 la C R1 S1 L
theorem j_putI (pc' : Nat) {a i ci k : Nat} {v : Int32} (hdg : decode y.2.1 pc = .ok (.putfield i, 3)) (hp : pc + 3 = pc') (hf : FP y.1.cls i ci k .int) (ho : okO a ci k = true) (hr : rs a k = 0) (kk : J l g d y pc' ls st (up2 m a k v) Q) : J l g d y pc ls (.int v :: rf g a :: st) m Q := jg_put pc' hdg hp hf ho hr rfl rfl kk
theorem nar_z {v : Int32} (h : v = 0 ∨ v = 1) : narrow .boolean (.int v) = .int v := by rcases h with rfl | rfl <;> rfl
theorem fit_z {v : Int32} (h : v = 0 ∨ v = 1) : fits .boolean (.int v) = true := by rcases h with rfl | rfl <;> rfl
theorem j_putZ (pc' : Nat) {a i ci k : Nat} {v : Int32} (hz : v = 0 ∨ v = 1) (hdg : decode y.2.1 pc = .ok (.putfield i, 3)) (hp : pc + 3 = pc') (hf : FP y.1.cls i ci k .boolean) (ho : okO a ci k = true) (hr : rs a k = 0) (kk : J l g d y pc' ls st (up2 m a k v) Q) : J l g d y pc ls (.int v :: rf g a :: st) m Q := jg_put pc' hdg hp hf ho hr (nar_z hz) (fit_z hz) kk
theorem nI_cl {x : Int32} {i n : Nat} (hx : x = nI i) (hi : i < n) (hn : n < 2 ^ 31) : vp_in x n ∧ x.toNatClampNeg = i := by
  subst hx
  exact ⟨vp_in_nI hi hn, nI_clamp (Nat.lt_trans hi hn)⟩
theorem ln_lt (a : Nat) : ln a < 2 ^ 31 := by
  have h : ∀ q ∈ plan, q.2.2 < 1000 := by decide +kernel
  unfold ln
  by_cases ha : a < plan.length
  · have := h _ (List.getElem_mem ha)
    rw [List.getD_eq_getElem?_getD, List.getElem?_eq_getElem ha]
    show plan[a].2.2 < _
    omega
  · rw [List.getD_eq_getElem?_getD, List.getElem?_eq_none (by omega)]
    decide
theorem j_iald (pc' : Nat) (i : Nat) {a : Nat} {x : Int32} (hx : x = nI i) (hi : i < ln a) (hdg : decode y.2.1 pc = .ok (.iaload, 1)) (hp : pc + 1 = pc') (ho : okA a = true) (kk : J l g d y pc' ls (.int (m a i) :: st) m Q) : J l g d y pc ls (.int x :: rf g a :: st) m Q := by
  intro p e s mi args below meth c H locs la C R S L
  subst hp
  obtain ⟨o1, o2⟩ := okA_s ho
  obtain ⟨c1, c2⟩ := nI_cl hx hi (ln_lt a)
  refine va_iald (D := gD g) (cl := cls) (tys := tys g) (ws := Wd g m) (n := ln a) (f := m a) C.1 C.2.1 (C.2.2.2.2.2.2.2).K R.1 a 0 (by rw [Wd_get g m o1, cell_arr o2]) rfl c1 hdg ?_
  rw [c2]
  exact kk p e s mi args below meth c H locs la C R S L
theorem up2_row (m : Mem) (a i : Nat) (v : Int32) : upd (m a) i v = up2 m a i v a := by
  funext j
  by_cases h : j = i
  · subst h
    rw [pk_us]
    unfold up2
    rw [if_pos ⟨rfl, rfl⟩]
  · rw [pk_un h]
    unfold up2
    rw [if_neg (fun q => h q.2)]
theorem j_iast (pc' : Nat) (i : Nat) {a : Nat} {x v : Int32} (hx : x = nI i) (hi : i < ln a) (hdg : decode y.2.1 pc = .ok (.iastore, 1)) (hp : pc + 1 = pc') (ho : okA a = true) (kk : J l g d y pc' ls st (up2 m a i v) Q) : J l g d y pc ls (.int v :: .int x :: rf g a :: st) m Q := by
  intro p e s mi args below meth c H locs la C R S L
  subst hp
  obtain ⟨o1, o2⟩ := okA_s ho
  obtain ⟨c1, c2⟩ := nI_cl hx hi (ln_lt a)
  refine va_iast (D := gD g) (cl := cls) (tys := tys g) (ws := Wd g m) (A := Fz g) (H0 := g.1.heap) (n := ln a) (f := m a) C.1 C.2.1 (C.2.2.2.2.2.2.2).K R.1 (Wd_D C.2.2.2.2.2.2.2.1 m) (R.S S) a 0 (by rw [Wd_get g m o1, cell_arr o2]) rfl c1 hdg (fun H1 locs1 p1 _ s1 => ?_)
  rw [c2, up2_row] at p1
  have e2 : (Wd g m).set a (ga g a, .inl (gc g 0, ln a, .inl (up2 m a i v a))) = Wd g (up2 m a i v) := Wd_set o1 (by rw [cell_arr o2])
  have e3 : va_P (gD g) cls (Wd g (up2 m a i v)) H1 := by rw [← e2]; exact p1
  obtain ⟨R1, S1⟩ := RH.of e3 s1
  exact kk p e s mi args below meth c H1 locs1 la C R1 S1 L
theorem j_alen (pc' : Nat) {a : Nat} (hdg : decode y.2.1 pc = .ok (.arraylength, 1)) (hp : pc + 1 = pc') (ho : okA a = true) (kk : J l g d y pc' ls (.int (nI (ln a)) :: st) m Q) : J l g d y pc ls (rf g a :: st) m Q := by
  intro p e s mi args below meth c H locs la C R S L
  subst hp
  obtain ⟨o1, o2⟩ := okA_s ho
  exact va_alen (D := gD g) (cl := cls) (tys := tys g) (ws := Wd g m) (x := (ln a, .inl (m a))) C.1 C.2.1 (C.2.2.2.2.2.2.2).K R.1 a 0 (by rw [Wd_get g m o1, cell_arr o2]) rfl rfl hdg (kk p e s mi args below meth c H locs la C R S L)
theorem j_alen1 (pc' : Nat) (hdg : decode y.2.1 pc = .ok (.arraylength, 1)) (hp : pc + 1 = pc') (kk : J l g d y pc' ls (.int 7 :: st) m Q) : J l g d y pc ls (rf g 1 :: st) m Q := by
  intro p e s mi args below meth c H locs la C R S L
  subst hp
  exact va_alen (D := gD g) (cl := cls) (tys := tys g) (ws := Wd g m) (x := (ln 1, .inr (.inr (.inr (.inr (fun k => some (ga g (rs 1 k - 1)))))))) C.1 C.2.1 (C.2.2.2.2.2.2.2).K R.1 1 1 (by rw [Wd_get g m (by decide), cell_ref rfl]; rfl) rfl rfl hdg (kk p e s mi args below meth c H locs la C R S L)
theorem j_aald (pc' : Nat) (i : Nat) {a : Nat} {x : Int32} (hx : x = nI i) (hi : i < ln a) (hdg : decode y.2.1 pc = .ok (.aaload, 1)) (hp : pc + 1 = pc') (ho : a = 1 ∨ a = 60) (kk : J l g d y pc' ls (rf g (rs a i - 1) :: st) m Q) : J l g d y pc ls (.int x :: rf g a :: st) m Q := by
  intro p e s mi args below meth c H locs la C R S L
  subst hp
  obtain ⟨c1, c2⟩ := nI_cl hx hi (ln_lt a)
  have hlt : x.toNatClampNeg < ln a := by rw [c2]; exact hi
  have kk' := kk p e s mi args below meth c H locs la C R S L
  have hK := (C.2.2.2.2.2.2.2).K
  rcases ho with rfl | rfl
  · have h0 := R.1 1 _ (Wd_get g m (by decide))
    rw [cell_ref rfl] at h0
    refine W.aald (v := rf g (rs 1 i - 1)) (ty := .object RX5) C.1 C.2.1 h0 ((hK.2 1 _ rfl).1 _ (fun j => va_rf (some (ga g (rs 1 j - 1))))) rfl (fun q => by cases q) (by show ¬ (x < 0 ∨ (arrV _ _ _).slots.size ≤ _); rw [arrV_size]; exact c1) (by show (arrV _ _ _).slots[_]? = _; rw [arrV_read _ _ hlt, c2]; rfl) rfl rfl hdg kk'
  · have h0 := R.1 60 _ (Wd_get g m (by decide))
    rw [cell_ref rfl] at h0
    refine W.aald (v := rf g (rs 60 i - 1)) (ty := .array .int) C.1 C.2.1 h0 ((hK.2 2 _ rfl).1 _ (fun j => va_rf (some (ga g (rs 60 j - 1))))) rfl (fun q => by cases q) (by show ¬ (x < 0 ∨ (arrV _ _ _).slots.size ≤ _); rw [arrV_size]; exact c1) (by show (arrV _ _ _).slots[_]? = _; rw [arrV_read _ _ hlt, c2]; rfl) rfl rfl hdg kk'
theorem j_iret {v : Int32} (hdg : decode y.2.1 pc = .ok (.ireturn, 1)) (hr : y.2.2.2 = some .int) (hq : Q (some (.int v)) m) : J l g d y pc ls [.int v] m Q := by
  intro p e s mi args below meth c H locs la C R S L
  exact W.iret (hlocks := C.2.2.2.2.2.2.1) C.1 C.2.1 (C.2.2.1.trans hr) (fun t ht hW => ⟨_, m, rfl, hq, by rw [ht]; exact R, (C.2.2.2.2.2.2.2).alike hW.alike⟩) S hdg
theorem j_zret {v : Int32} (hz : v = 0 ∨ v = 1) (hdg : decode y.2.1 pc = .ok (.ireturn, 1)) (hr : y.2.2.2 = some .boolean) (hq : Q (some (.int v)) m) : J l g d y pc ls [.int v] m Q := by
  intro p e s mi args below meth c H locs la C R S L
  exact W.zret (hlocks := C.2.2.2.2.2.2.1) C.1 C.2.1 (C.2.2.1.trans hr) (nar_z hz) (fun t ht hW => ⟨_, m, rfl, hq, by rw [ht]; exact R, (C.2.2.2.2.2.2.2).alike hW.alike⟩) S hdg
theorem j_vret (hdg : decode y.2.1 pc = .ok (.return_, 1)) (hr : y.2.2.2 = none) (hq : Q none m) : J l g d y pc ls [] m Q := by
  intro p e s mi args below meth c H locs la C R S L
  exact W.vret (hlocks := C.2.2.2.2.2.2.1) C.1 C.2.1 (C.2.2.1.trans hr) (fun t ht hW => ⟨_, m, rfl, hq, by rw [ht]; exact R, (C.2.2.2.2.2.2.2).alike hW.alike⟩) S hdg
theorem j_aret {a : Nat} {n : String} (hdg : decode y.2.1 pc = .ok (.areturn, 1)) (hr : y.2.2.2 = some (.object n)) (hq : Q (some (rf g a)) m) : J l g d y pc ls [rf g a] m Q := by
  intro p e s mi args below meth c H locs la C R S L
  exact W.aret (hlocks := C.2.2.2.2.2.2.1) C.1 C.2.1 (C.2.2.1.trans hr) (Or.inl ⟨n, rfl⟩) (Or.inr ⟨_, rfl⟩) (fun t ht hW => ⟨_, m, rfl, hq, by rw [ht]; exact R, (C.2.2.2.2.2.2.2).alike hW.alike⟩) S hdg
theorem JM_of {as : List Value} (hy : plainName y.1.cls = true) (hn : Nat.ble (lg_sl as).length y.2.2.1 = true) (hl : lvl 0 ls = lv_args 0 as) (kk : J l g d y 0 ls [] m Q) : JM l g d y as m Q := by
  refine Met.ofW (cc := y.2.1) (maxL := y.2.2.1) (ret := y.2.2.2) hy rfl ?_
  intro p e s mi args below meth c s₁ B hml hv
  obtain ⟨rfl, hR, hG⟩ := hv
  have h0 := lv_entry as (n := y.2.2.1) (Nat.le_of_ble_eq_true hn)
  rw [← hl] at h0
  rw [lg_entry_eq]
  have hts := atoms_spec (ws := .code y.1 y.2.1 y.2.2.1 y.2.2.2 :: lw_gd) B.pre
  exact kk p e s mi _ below meth c s.heap [] _ ⟨B.exec, B.bytes, B.returns, hml, findClass_of_methodNamed B.named, fun w h => hts w (List.mem_cons_of_mem _ h), B.notSynchronized, hG⟩ hR (fun q h => by cases h) h0
theorem JM.mono {as : List Value} {Q' : Option Value → Mem → Prop} (h : JM l g d y as m Q') (hq : ∀ r m', Q' r m' → Q r m') : JM l g d y as m Q := by
  intro p e ha hc hk s mi args below hf hsp hP hT
  obtain ⟨k, o, h1, h2, h3, ⟨r, m', q1, q2, q3⟩, h4⟩ := h p e ha hc hk s mi args below hf hsp hP hT
  exact ⟨k, o, h1, h2, h3, ⟨r, m', q1, hq r m' q2, q3⟩, h4⟩
theorem blind (as : List Value) (m : Mem) : FrameBlind (va_Pc as (fun U => RH g m U.heap ∧ GV g U)) := fun _ _ _ _ h => h
/-- behind a call -/
theorem j_run {as rest : List Value} {Q' : Option Value → Mem → Prop} (hr : ∀ (p : Program) (e : Env) (s : State) (mi : MethodId) (args : Array Value) (below : List Frame) (meth : Method) (c : Code) (H : Heap) (locs : List Loc) (la : Array Slot),
    Cx g y p s mi args meth c → RH g m H → (∀ q ∈ locs, Fz g q.base) → lv_has la y.2.2.1 (lvl 0 ls) → va_Run p l e (rmOf d) s mi args below meth c H locs 0 0 0 0 (F0 mi pc la st) rest (JQ g Q' as.toArray) (Fz g))
    (kk : ∀ r m', Q' r m' → J l g d y (pc + 3) ls (r.toList ++ rest) m' Q) : J l g d y pc ls st m Q := by
  intro p e s mi args below meth c H locs la C R S L T hT X
  obtain ⟨v, st₀, t, T', LL, h0, X', hL, e1, e2, ⟨r, m', hv, hq, hR, hG⟩, stp⟩ := hr p e s mi args below meth c H locs la C R S L T hT X
  cases hv
  obtain ⟨t2, a1, b1⟩ := kk v m' hq p e s mi args below meth c T'.heap (locs ++ LL) la C (by rw [e1]; exact hR) (fun q hq => (List.mem_append.mp hq).elim (S q) (hL q)) L T' rfl X'
  exact ⟨t2, stp t2 a1, b1⟩
end JH
/-- what the tables say of a method -/
def MI (y : MD) (n : Nat) : Prop := Cond.code y.1 y.2.1 y.2.2.1 y.2.2.2 ∈ lw_gd ∧ Cond.initialized y.1.cls ∈ lw_gd ∧ (y.1.cls ≠ "java/lang/invoke/MethodHandle" ∧ y.1.cls ≠ "java/lang/invoke/VarHandle" ∧ (parseMethodDescriptor y.1.desc).map (fun d => d.parameters.length) = some n) ∧ Nat.ble y.2.2.1 21 = true
def CSt (own : String) (i : Nat) (y : MD) (n : Nat) : Prop := MI y n ∧ Cond.methodLink own i y.1 ∈ lw_gd ∧ Cond.static y.1 ∈ lw_gd
def CVi (own : String) (i : Nat) (y : MD) (n : Nat) : Prop := MI y n ∧ Cond.methodLink own i y.1 ∈ lw_gd ∧ Cond.instanceMethod y.1 ∈ lw_gd ∧ Cond.selects y.1.cls y.1 y.1 ∈ lw_gd
/-- a method chosen by the class C of the object: x is named, y runs -/
def CUi (own : String) (i : Nat) (C : String) (x : MethodName) (y : MD) (n : Nat) : Prop := MI y n ∧ Cond.methodLink own i x ∈ lw_gd ∧ Cond.sameMethod x.cls x.cls x.name x.desc ∈ lw_gd ∧ Cond.instanceMethod x ∈ lw_gd ∧ (∃ b0 m0 r0, Cond.code x b0 m0 r0 ∈ lw_gd) ∧ Cond.selects C x y.1 ∈ lw_gd ∧ Cond.instanceMethod y.1 ∈ lw_gd ∧ (x.cls ≠ "java/lang/invoke/MethodHandle" ∧ x.cls ≠ "java/lang/invoke/VarHandle") ∧ (parseMethodDescriptor x.desc).map (fun d => d.parameters.length) = some n
def CSu (own : String) (i : Nat) (y : MD) (n : Nat) : Prop := MI y n ∧ Cond.methodLink own i y.1 ∈ lw_gd ∧ Cond.sameMethod y.1.cls y.1.cls y.1.name y.1.desc ∈ lw_gd ∧ Cond.superclass own y.1.cls ∈ lw_gd ∧ Cond.instanceMethod y.1 ∈ lw_gd ∧ y.1.name ≠ "<init>"
theorem gd_cons {y : MD} {n : Nat} (h : MI y n) : GoodIn lw_gd (Cond.code y.1 y.2.1 y.2.2.1 y.2.2.2 :: lw_gd) := fun w hw => (List.mem_cons.mp hw).elim (fun e => by subst e; exact ⟨h.1, good_of_word (List.mem_filter.mp h.1).2⟩) (fun h => gd_in w h)
theorem rm_fit {y : MD} {n d d' : Nat} (h : MI y n) (hd : d' < d) : (rmOf d').frames + 1 ≤ (rmOf d).frames ∧ 8 + (y.2.2.1 + 11) + (rmOf d').locals ≤ (rmOf d).locals := by
  have := Nat.le_of_ble_eq_true h.2.2.2
  show d' + 1 ≤ d ∧ 8 + (y.2.2.1 + 11) + 40 * d' ≤ 40 * d
  omega
section JC
variable {l : Launch} {g : Gv} {d d' : Nat} {y y' : MD} {pc : Nat} {ls : List (Option Value)} {st rest As : List Value} {m : Mem} {Q Q' : Option Value → Mem → Prop} {i a : Nat}
theorem jg_static (hdg : decode y.2.1 pc = .ok (.invokestatic i, 3)) (hd : d' < d) (hc : CSt y.1.cls i y' As.length) (hst : st = As.reverse ++ rest) (hw : Nat.ble (rest.map fun v => v.category).sum 8 = true) (hM : JM l g d' y' As m Q') (kk : ∀ r m', Q' r m' → J l g d y (pc + 3) ls (r.toList ++ rest) m' Q) : J l g d y pc ls st m Q := by
  refine j_run (as := As) (rest := rest) (Q' := Q') (fun p e s mi args below meth c H locs la C R S L => ?_) kk
  have hts := C.2.2.2.2.2.1
  exact va_runS (n := As.length) (Ts := lw_gd) (As := As) ⟨C.1, C.2.1, C.2.2.2.1, C.2.2.2.2.1, hts⟩ hM ⟨callB_of As.length hts (gd_cons hc.1) rfl rfl rfl (hts _ hc.1.2.1) (hts _ hc.2.1) hc.1.2.2.1 (rm_fit hc.1 hd), hts _ hc.2.2⟩ ⟨blind As m, fun U hU hW => ⟨rfl, by rw [hU]; exact R, (C.2.2.2.2.2.2.2).alike hW.alike⟩⟩ rfl rfl L.1 hst (lv_room (Nat.le_of_ble_eq_true hw)) hdg ⟨Nat.le_refl _, Nat.le_refl _⟩
theorem recv {p : Program} {s : State} {mi : MethodId} {args : Array Value} {meth : Method} {c : Code} {H : Heap} (C : Cx g y p s mi args meth c) (R : RH g m H) {ci : Nat} {q : vw_C} (ho : okC a ci = true) (hq : cls[ci]? = some q) : ∃ cellB : Cell, H[ga g a]? = some cellB ∧ cellB.vm.isStatics = false ∧ s.vm.findClass q.1 = some cellB.cls := by
  simp only [okC, Bool.and_eq_true] at ho
  exact va_recv (C.2.2.2.2.2.2.2).K R.1 (ci := ci) (q0 := a) hq (by rw [Wd_get g m (Nat.le_of_ble_eq_true ho.1), cell_obj (Nat.eq_of_beq_eq_true ho.2.1), Nat.eq_of_beq_eq_true ho.2.2])
theorem jg_virtual {ci : Nat} {q : vw_C} (hdg : decode y.2.1 pc = .ok (.invokevirtual i, 3)) (hd : d' < d) (hc : CVi y.1.cls i y' As.length) (ho : okC a ci = true) (hq : cls[ci]? = some q) (hqy : q.1 = y'.1.cls) (hst : st = As.reverse ++ rf g a :: rest) (hw : Nat.ble (rest.map fun v => v.category).sum 8 = true) (hM : JM l g d' y' (rf g a :: As) m Q') (kk : ∀ r m', Q' r m' → J l g d y (pc + 3) ls (r.toList ++ rest) m' Q) : J l g d y pc ls st m Q := by
  refine j_run (as := rf g a :: As) (rest := rest) (Q' := Q') (fun p e s mi args below meth c H locs la C R S L => ?_) kk
  have hts := C.2.2.2.2.2.1
  exact va_runV (n := As.length) (Ts := lw_gd) (C := y'.1.cls) (b := ga g a) (As := As) ⟨C.1, C.2.1, C.2.2.2.1, C.2.2.2.2.1, hts⟩ hM ⟨callB_of As.length hts (gd_cons hc.1) rfl rfl rfl (hts _ hc.1.2.1) (hts _ hc.2.1) hc.1.2.2.1 (rm_fit hc.1 hd), hts _ hc.2.2.1, hts _ hc.2.2.2⟩ ⟨blind _ m, by rw [← hqy]; exact recv C R ho hq, fun U hU hW => ⟨rfl, by rw [hU]; exact R, (C.2.2.2.2.2.2.2).alike hW.alike⟩⟩ rfl rfl L.1 hst (lv_room (Nat.le_of_ble_eq_true hw)) hdg ⟨Nat.le_refl _, Nat.le_refl _⟩
theorem jg_dyn {ci : Nat} {q : vw_C} {x : MethodName} (hdg : decode y.2.1 pc = .ok (.invokevirtual i, 3)) (hd : d' < d) (hq : cls[ci]? = some q) (hc : CUi y.1.cls i q.1 x y' As.length) (ho : okC a ci = true) (hst : st = As.reverse ++ rf g a :: rest) (hw : Nat.ble (rest.map fun v => v.category).sum 8 = true) (hM : JM l g d' y' (rf g a :: As) m Q') (kk : ∀ r m', Q' r m' → J l g d y (pc + 3) ls (r.toList ++ rest) m' Q) : J l g d y pc ls st m Q := by
  refine j_run (as := rf g a :: As) (rest := rest) (Q' := Q') (fun p e s mi args below meth c H locs la C R S L => ?_) kk
  have hts := C.2.2.2.2.2.1
  obtain ⟨hm, c1, c2, c3, ⟨b0, m0, r0, c4⟩, c5, c6, c7, c8⟩ := hc
  exact va_runU (n := As.length) (Ts := lw_gd) (C := q.1) (owner := x.cls) (b := ga g a) (As := As) ⟨C.1, C.2.1, C.2.2.2.1, C.2.2.2.2.1, hts⟩ hM ⟨⟨rfl, rfl, (rm_fit hm hd).1, (rm_fit hm hd).2, pay_in hts (gd_cons hm), List.mem_cons_self⟩, hts _ hm.1, hts _ hm.2.1, c7, fun sig h => by rw [h] at c8; exact (Option.some.inj c8).symm, hts _ c1, hts _ c2, va_Decl.of (hts _ c3) (hts _ c4), hts _ c5, hts _ c6⟩ ⟨blind _ m, recv C R ho hq, fun U hU hW => ⟨rfl, by rw [hU]; exact R, (C.2.2.2.2.2.2.2).alike hW.alike⟩⟩ rfl rfl L.1 hst (lv_room (Nat.le_of_ble_eq_true hw)) hdg ⟨Nat.le_refl _, Nat.le_refl _⟩
theorem jg_super {ci : Nat} {q : vw_C} (hdg : decode y.2.1 pc = .ok (.invokespecial i, 3)) (hd : d' < d) (hq : cls[ci]? = some q) (hc : CSu y.1.cls i y' As.length) (ho : okC a ci = true) (hst : st = As.reverse ++ rf g a :: rest) (hw : Nat.ble (rest.map fun v => v.category).sum 8 = true) (hM : JM l g d' y' (rf g a :: As) m Q') (kk : ∀ r m', Q' r m' → J l g d y (pc + 3) ls (r.toList ++ rest) m' Q) : J l g d y pc ls st m Q := by
  refine j_run (as := rf g a :: As) (rest := rest) (Q' := Q') (fun p e s mi args below meth c H locs la C R S L => ?_) kk
  have hts := C.2.2.2.2.2.1
  obtain ⟨hm, c1, c2, c3, c4, c5⟩ := hc
  exact va_runSU (n := As.length) (Ts := lw_gd) (C := q.1) (b := ga g a) (As := As) ((C.2.2.2.2.2.2.2).K.1 ci q hq).2 ⟨C.1, C.2.1, C.2.2.2.1, C.2.2.2.2.1, hts⟩ hM ⟨⟨rfl, rfl, (rm_fit hm hd).1, (rm_fit hm hd).2, pay_in hts (gd_cons hm), List.mem_cons_self⟩, hts _ c1, hts _ c2, hts _ c3, hts _ c4, hts _ hm.2.1, hts _ hm.1, c5, fun sig h => by have h2 := hm.2.2.1.2.2; rw [h] at h2; exact (Option.some.inj h2).symm⟩ ⟨blind _ m, recv C R ho hq, fun U hU hW => ⟨rfl, by rw [hU]; exact R, (C.2.2.2.2.2.2.2).alike hW.alike⟩⟩ rfl rfl L.1 hst (lv_room (Nat.le_of_ble_eq_true hw)) hdg ⟨Nat.le_refl _, Nat.le_refl _⟩
end JC
end
