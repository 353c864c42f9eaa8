section
-- ===== PART A: goes FIRST, ahead of the names: the tables' words, and 'selects' of the private methods out of them =====
/-- a private method of a class that the tables say can be made, by its rows of tables_1 -/
def lw_okq (q : MethodName × Nat) : Prop := (q.1.cls ≠ "java/lang/invoke/MethodHandle" ∧ q.1.cls ≠ "java/lang/invoke/VarHandle") ∧ Cond.instantiable q.1.cls q.2 ∈ tables_1 ∧ Cond.privateMethod q.1 ∈ tables_1 ∧ Cond.instanceMethod q.1 ∈ tables_1
theorem lw_p0 : lw_okq (⟨"NameNoon", "found", "(I)I"⟩, 10) := ⟨⟨by decide +kernel, by decide +kernel⟩, List.mem_of_getElem? (i := 14) (by decide +kernel), List.mem_of_getElem? (i := 252) (by decide +kernel), List.mem_of_getElem? (i := 253) (by decide +kernel)⟩
theorem lw_p1 : lw_okq (⟨"NameNoon$Tape", "readLaw", "()Z"⟩, 7) := ⟨⟨by decide +kernel, by decide +kernel⟩, List.mem_of_getElem? (i := 44) (by decide +kernel), List.mem_of_getElem? (i := 322) (by decide +kernel), List.mem_of_getElem? (i := 323) (by decide +kernel)⟩
theorem lw_p2 : lw_okq (⟨"NameNoon$Tape", "readByte", "(C)Z"⟩, 7) := ⟨⟨by decide +kernel, by decide +kernel⟩, List.mem_of_getElem? (i := 44) (by decide +kernel), List.mem_of_getElem? (i := 326) (by decide +kernel), List.mem_of_getElem? (i := 327) (by decide +kernel)⟩
theorem lw_p3 : lw_okq (⟨"NameNoon$Tape", "byteAt", "(I)I"⟩, 7) := ⟨⟨by decide +kernel, by decide +kernel⟩, List.mem_of_getElem? (i := 44) (by decide +kernel), List.mem_of_getElem? (i := 330) (by decide +kernel), List.mem_of_getElem? (i := 331) (by decide +kernel)⟩
theorem lw_p4 : lw_okq (⟨"NameNoon$Tape", "faulty", "(I)Z"⟩, 7) := ⟨⟨by decide +kernel, by decide +kernel⟩, List.mem_of_getElem? (i := 44) (by decide +kernel), List.mem_of_getElem? (i := 334) (by decide +kernel), List.mem_of_getElem? (i := 335) (by decide +kernel)⟩
theorem lw_p5 : lw_okq (⟨"NameNoon$Tape", "readNumber", "(II)Z"⟩, 7) := ⟨⟨by decide +kernel, by decide +kernel⟩, List.mem_of_getElem? (i := 44) (by decide +kernel), List.mem_of_getElem? (i := 338) (by decide +kernel), List.mem_of_getElem? (i := 339) (by decide +kernel)⟩
theorem lw_p6 : lw_okq (⟨"NameNoon$Tape", "readPaper", "()Z"⟩, 7) := ⟨⟨by decide +kernel, by decide +kernel⟩, List.mem_of_getElem? (i := 44) (by decide +kernel), List.mem_of_getElem? (i := 346) (by decide +kernel), List.mem_of_getElem? (i := 347) (by decide +kernel)⟩
theorem lw_p7 : lw_okq (⟨"NameNoon$Square", "bite", "(I)V"⟩, 13) := ⟨⟨by decide +kernel, by decide +kernel⟩, List.mem_of_getElem? (i := 50) (by decide +kernel), List.mem_of_getElem? (i := 415) (by decide +kernel), List.mem_of_getElem? (i := 416) (by decide +kernel)⟩
theorem lw_p8 : lw_okq (⟨"NameNoon$Square", "lenderOf", "(I)I"⟩, 13) := ⟨⟨by decide +kernel, by decide +kernel⟩, List.mem_of_getElem? (i := 50) (by decide +kernel), List.mem_of_getElem? (i := 419) (by decide +kernel), List.mem_of_getElem? (i := 420) (by decide +kernel)⟩
theorem lw_p9 : lw_okq (⟨"NameNoon$Square", "isSpatOut", "(I)Z"⟩, 13) := ⟨⟨by decide +kernel, by decide +kernel⟩, List.mem_of_getElem? (i := 50) (by decide +kernel), List.mem_of_getElem? (i := 423) (by decide +kernel), List.mem_of_getElem? (i := 424) (by decide +kernel)⟩
theorem lw_p10 : lw_okq (⟨"NameNoon$Square", "biteOf", "(I)I"⟩, 13) := ⟨⟨by decide +kernel, by decide +kernel⟩, List.mem_of_getElem? (i := 50) (by decide +kernel), List.mem_of_getElem? (i := 428) (by decide +kernel), List.mem_of_getElem? (i := 429) (by decide +kernel)⟩
theorem lw_p11 : lw_okq (⟨"NameNoon$Foresight", "savesAll", "(II)Z"⟩, 2) := ⟨⟨by decide +kernel, by decide +kernel⟩, List.mem_of_getElem? (i := 175) (by decide +kernel), List.mem_of_getElem? (i := 558) (by decide +kernel), List.mem_of_getElem? (i := 559) (by decide +kernel)⟩
theorem lw_p12 : lw_okq (⟨"NameNoon$Foresight", "isSetOf", "(II)Z"⟩, 2) := ⟨⟨by decide +kernel, by decide +kernel⟩, List.mem_of_getElem? (i := 175) (by decide +kernel), List.mem_of_getElem? (i := 572) (by decide +kernel), List.mem_of_getElem? (i := 573) (by decide +kernel)⟩
theorem lw_p13 : lw_okq (⟨"NameNoon$Foresight", "gain", "(III)I"⟩, 2) := ⟨⟨by decide +kernel, by decide +kernel⟩, List.mem_of_getElem? (i := 175) (by decide +kernel), List.mem_of_getElem? (i := 600) (by decide +kernel), List.mem_of_getElem? (i := 601) (by decide +kernel)⟩
theorem lw_p14 : lw_okq (⟨"NameNoon$Foresight", "suppose", "(III)V"⟩, 2) := ⟨⟨by decide +kernel, by decide +kernel⟩, List.mem_of_getElem? (i := 175) (by decide +kernel), List.mem_of_getElem? (i := 617) (by decide +kernel), List.mem_of_getElem? (i := 618) (by decide +kernel)⟩
theorem lw_p15 : lw_okq (⟨"NameNoon$Foresight", "comesAsTold", "(LNameNoon$Rows;III)Z"⟩, 2) := ⟨⟨by decide +kernel, by decide +kernel⟩, List.mem_of_getElem? (i := 175) (by decide +kernel), List.mem_of_getElem? (i := 621) (by decide +kernel), List.mem_of_getElem? (i := 622) (by decide +kernel)⟩
def lw_privs_1 : List (MethodName × Nat) := [(⟨"NameNoon", "found", "(I)I"⟩, 10), (⟨"NameNoon$Tape", "readLaw", "()Z"⟩, 7), (⟨"NameNoon$Tape", "readByte", "(C)Z"⟩, 7), (⟨"NameNoon$Tape", "byteAt", "(I)I"⟩, 7), (⟨"NameNoon$Tape", "faulty", "(I)Z"⟩, 7), (⟨"NameNoon$Tape", "readNumber", "(II)Z"⟩, 7), (⟨"NameNoon$Tape", "readPaper", "()Z"⟩, 7), (⟨"NameNoon$Square", "bite", "(I)V"⟩, 13), (⟨"NameNoon$Square", "lenderOf", "(I)I"⟩, 13), (⟨"NameNoon$Square", "isSpatOut", "(I)Z"⟩, 13), (⟨"NameNoon$Square", "biteOf", "(I)I"⟩, 13), (⟨"NameNoon$Foresight", "savesAll", "(II)Z"⟩, 2), (⟨"NameNoon$Foresight", "isSetOf", "(II)Z"⟩, 2), (⟨"NameNoon$Foresight", "gain", "(III)I"⟩, 2), (⟨"NameNoon$Foresight", "suppose", "(III)V"⟩, 2), (⟨"NameNoon$Foresight", "comesAsTold", "(LNameNoon$Rows;III)Z"⟩, 2)]
theorem lw_r1 : ∀ q ∈ lw_privs_1, lw_okq q := List.forall_mem_cons.mpr ⟨lw_p0, List.forall_mem_cons.mpr ⟨lw_p1, List.forall_mem_cons.mpr ⟨lw_p2, List.forall_mem_cons.mpr ⟨lw_p3, List.forall_mem_cons.mpr ⟨lw_p4, List.forall_mem_cons.mpr ⟨lw_p5, List.forall_mem_cons.mpr ⟨lw_p6, List.forall_mem_cons.mpr ⟨lw_p7, List.forall_mem_cons.mpr ⟨lw_p8, List.forall_mem_cons.mpr ⟨lw_p9, List.forall_mem_cons.mpr ⟨lw_p10, List.forall_mem_cons.mpr ⟨lw_p11, List.forall_mem_cons.mpr ⟨lw_p12, List.forall_mem_cons.mpr ⟨lw_p13, List.forall_mem_cons.mpr ⟨lw_p14, List.forall_mem_cons.mpr ⟨lw_p15, fun _ h => absurd h List.not_mem_nil⟩⟩⟩⟩⟩⟩⟩⟩⟩⟩⟩⟩⟩⟩⟩⟩
theorem lw_p16 : lw_okq (⟨"NameNoon$Foresight", "keepsName", "(III)Z"⟩, 2) := ⟨⟨by decide +kernel, by decide +kernel⟩, List.mem_of_getElem? (i := 175) (by decide +kernel), List.mem_of_getElem? (i := 641) (by decide +kernel), List.mem_of_getElem? (i := 642) (by decide +kernel)⟩
theorem lw_p17 : lw_okq (⟨"NameNoon$Foresight", "draw", "(J)V"⟩, 2) := ⟨⟨by decide +kernel, by decide +kernel⟩, List.mem_of_getElem? (i := 175) (by decide +kernel), List.mem_of_getElem? (i := 663) (by decide +kernel), List.mem_of_getElem? (i := 664) (by decide +kernel)⟩
theorem lw_p18 : lw_okq (⟨"NameNoon", "imageAt", "(I)LNameNoon$Square;"⟩, 10) := ⟨⟨by decide +kernel, by decide +kernel⟩, List.mem_of_getElem? (i := 14) (by decide +kernel), List.mem_of_getElem? (i := 675) (by decide +kernel), List.mem_of_getElem? (i := 676) (by decide +kernel)⟩
theorem lw_p19 : lw_okq (⟨"NameNoon$Asks", "body", "(III)I"⟩, 3) := ⟨⟨by decide +kernel, by decide +kernel⟩, List.mem_of_getElem? (i := 190) (by decide +kernel), List.mem_of_getElem? (i := 707) (by decide +kernel), List.mem_of_getElem? (i := 708) (by decide +kernel)⟩
theorem lw_p20 : lw_okq (⟨"NameNoon$Asks", "leaveTrace", "(I)V"⟩, 3) := ⟨⟨by decide +kernel, by decide +kernel⟩, List.mem_of_getElem? (i := 190) (by decide +kernel), List.mem_of_getElem? (i := 711) (by decide +kernel), List.mem_of_getElem? (i := 712) (by decide +kernel)⟩
theorem lw_p21 : lw_okq (⟨"NameNoon$Asks", "anew", "(III)I"⟩, 3) := ⟨⟨by decide +kernel, by decide +kernel⟩, List.mem_of_getElem? (i := 190) (by decide +kernel), List.mem_of_getElem? (i := 715) (by decide +kernel), List.mem_of_getElem? (i := 716) (by decide +kernel)⟩
theorem lw_p22 : lw_okq (⟨"NameNoonModel", "finding", "(I)I"⟩, 23) := ⟨⟨by decide +kernel, by decide +kernel⟩, List.mem_of_getElem? (i := 737) (by decide +kernel), List.mem_of_getElem? (i := 827) (by decide +kernel), List.mem_of_getElem? (i := 828) (by decide +kernel)⟩
theorem lw_p23 : lw_okq (⟨"NameNoonModel", "begin", "()V"⟩, 23) := ⟨⟨by decide +kernel, by decide +kernel⟩, List.mem_of_getElem? (i := 737) (by decide +kernel), List.mem_of_getElem? (i := 858) (by decide +kernel), List.mem_of_getElem? (i := 859) (by decide +kernel)⟩
theorem lw_p24 : lw_okq (⟨"NameNoonModel", "nextToken", "()V"⟩, 23) := ⟨⟨by decide +kernel, by decide +kernel⟩, List.mem_of_getElem? (i := 737) (by decide +kernel), List.mem_of_getElem? (i := 862) (by decide +kernel), List.mem_of_getElem? (i := 863) (by decide +kernel)⟩
theorem lw_p25 : lw_okq (⟨"NameNoonModel", "isLetter", "(I)Z"⟩, 23) := ⟨⟨by decide +kernel, by decide +kernel⟩, List.mem_of_getElem? (i := 737) (by decide +kernel), List.mem_of_getElem? (i := 871) (by decide +kernel), List.mem_of_getElem? (i := 872) (by decide +kernel)⟩
theorem lw_p26 : lw_okq (⟨"NameNoonModel", "must", "(Z)V"⟩, 23) := ⟨⟨by decide +kernel, by decide +kernel⟩, List.mem_of_getElem? (i := 737) (by decide +kernel), List.mem_of_getElem? (i := 875) (by decide +kernel), List.mem_of_getElem? (i := 876) (by decide +kernel)⟩
theorem lw_p27 : lw_okq (⟨"NameNoonModel", "bad", "(I)V"⟩, 23) := ⟨⟨by decide +kernel, by decide +kernel⟩, List.mem_of_getElem? (i := 737) (by decide +kernel), List.mem_of_getElem? (i := 879) (by decide +kernel), List.mem_of_getElem? (i := 880) (by decide +kernel)⟩
theorem lw_p28 : lw_okq (⟨"NameNoonModel", "number", "(II)I"⟩, 23) := ⟨⟨by decide +kernel, by decide +kernel⟩, List.mem_of_getElem? (i := 737) (by decide +kernel), List.mem_of_getElem? (i := 883) (by decide +kernel), List.mem_of_getElem? (i := 884) (by decide +kernel)⟩
theorem lw_p29 : lw_okq (⟨"NameNoonModel", "mustSign", "(I)V"⟩, 23) := ⟨⟨by decide +kernel, by decide +kernel⟩, List.mem_of_getElem? (i := 737) (by decide +kernel), List.mem_of_getElem? (i := 887) (by decide +kernel), List.mem_of_getElem? (i := 888) (by decide +kernel)⟩
theorem lw_p30 : lw_okq (⟨"NameNoonModel", "isSort", "()Z"⟩, 23) := ⟨⟨by decide +kernel, by decide +kernel⟩, List.mem_of_getElem? (i := 737) (by decide +kernel), List.mem_of_getElem? (i := 891) (by decide +kernel), List.mem_of_getElem? (i := 892) (by decide +kernel)⟩
theorem lw_p31 : lw_okq (⟨"NameNoonModel", "readPaper", "()V"⟩, 23) := ⟨⟨by decide +kernel, by decide +kernel⟩, List.mem_of_getElem? (i := 737) (by decide +kernel), List.mem_of_getElem? (i := 898) (by decide +kernel), List.mem_of_getElem? (i := 899) (by decide +kernel)⟩
def lw_privs_2 : List (MethodName × Nat) := [(⟨"NameNoon$Foresight", "keepsName", "(III)Z"⟩, 2), (⟨"NameNoon$Foresight", "draw", "(J)V"⟩, 2), (⟨"NameNoon", "imageAt", "(I)LNameNoon$Square;"⟩, 10), (⟨"NameNoon$Asks", "body", "(III)I"⟩, 3), (⟨"NameNoon$Asks", "leaveTrace", "(I)V"⟩, 3), (⟨"NameNoon$Asks", "anew", "(III)I"⟩, 3), (⟨"NameNoonModel", "finding", "(I)I"⟩, 23), (⟨"NameNoonModel", "begin", "()V"⟩, 23), (⟨"NameNoonModel", "nextToken", "()V"⟩, 23), (⟨"NameNoonModel", "isLetter", "(I)Z"⟩, 23), (⟨"NameNoonModel", "must", "(Z)V"⟩, 23), (⟨"NameNoonModel", "bad", "(I)V"⟩, 23), (⟨"NameNoonModel", "number", "(II)I"⟩, 23), (⟨"NameNoonModel", "mustSign", "(I)V"⟩, 23), (⟨"NameNoonModel", "isSort", "()Z"⟩, 23), (⟨"NameNoonModel", "readPaper", "()V"⟩, 23)]
theorem lw_r2 : ∀ q ∈ lw_privs_2, lw_okq q := List.forall_mem_cons.mpr ⟨lw_p16, List.forall_mem_cons.mpr ⟨lw_p17, List.forall_mem_cons.mpr ⟨lw_p18, List.forall_mem_cons.mpr ⟨lw_p19, List.forall_mem_cons.mpr ⟨lw_p20, List.forall_mem_cons.mpr ⟨lw_p21, List.forall_mem_cons.mpr ⟨lw_p22, List.forall_mem_cons.mpr ⟨lw_p23, List.forall_mem_cons.mpr ⟨lw_p24, List.forall_mem_cons.mpr ⟨lw_p25, List.forall_mem_cons.mpr ⟨lw_p26, List.forall_mem_cons.mpr ⟨lw_p27, List.forall_mem_cons.mpr ⟨lw_p28, List.forall_mem_cons.mpr ⟨lw_p29, List.forall_mem_cons.mpr ⟨lw_p30, List.forall_mem_cons.mpr ⟨lw_p31, fun _ h => absurd h List.not_mem_nil⟩⟩⟩⟩⟩⟩⟩⟩⟩⟩⟩⟩⟩⟩⟩⟩
theorem lw_p32 : lw_okq (⟨"NameNoonModel", "failed", "()Z"⟩, 23) := ⟨⟨by decide +kernel, by decide +kernel⟩, List.mem_of_getElem? (i := 737) (by decide +kernel), List.mem_of_getElem? (i := 902) (by decide +kernel), List.mem_of_getElem? (i := 903) (by decide +kernel)⟩
theorem lw_p33 : lw_okq (⟨"NameNoonModel", "isThere", "()Z"⟩, 23) := ⟨⟨by decide +kernel, by decide +kernel⟩, List.mem_of_getElem? (i := 737) (by decide +kernel), List.mem_of_getElem? (i := 911) (by decide +kernel), List.mem_of_getElem? (i := 912) (by decide +kernel)⟩
theorem lw_p34 : lw_okq (⟨"NameNoonModel", "keep", "()V"⟩, 23) := ⟨⟨by decide +kernel, by decide +kernel⟩, List.mem_of_getElem? (i := 737) (by decide +kernel), List.mem_of_getElem? (i := 917) (by decide +kernel), List.mem_of_getElem? (i := 918) (by decide +kernel)⟩
theorem lw_p35 : lw_okq (⟨"NameNoonModel", "isPaper", "(I)Z"⟩, 23) := ⟨⟨by decide +kernel, by decide +kernel⟩, List.mem_of_getElem? (i := 737) (by decide +kernel), List.mem_of_getElem? (i := 946) (by decide +kernel), List.mem_of_getElem? (i := 947) (by decide +kernel)⟩
theorem lw_p36 : lw_okq (⟨"NameNoonModel", "layThen", "()V"⟩, 23) := ⟨⟨by decide +kernel, by decide +kernel⟩, List.mem_of_getElem? (i := 737) (by decide +kernel), List.mem_of_getElem? (i := 986) (by decide +kernel), List.mem_of_getElem? (i := 987) (by decide +kernel)⟩
theorem lw_p37 : lw_okq (⟨"NameNoonModel", "afterTurns", "(IIIII)I"⟩, 23) := ⟨⟨by decide +kernel, by decide +kernel⟩, List.mem_of_getElem? (i := 737) (by decide +kernel), List.mem_of_getElem? (i := 1047) (by decide +kernel), List.mem_of_getElem? (i := 1048) (by decide +kernel)⟩
theorem lw_p38 : lw_okq (⟨"NameNoonModel", "step", "(II)Z"⟩, 23) := ⟨⟨by decide +kernel, by decide +kernel⟩, List.mem_of_getElem? (i := 737) (by decide +kernel), List.mem_of_getElem? (i := 1051) (by decide +kernel), List.mem_of_getElem? (i := 1052) (by decide +kernel)⟩
theorem lw_p39 : lw_okq (⟨"NameNoonModel", "rowFound", "(III)I"⟩, 23) := ⟨⟨by decide +kernel, by decide +kernel⟩, List.mem_of_getElem? (i := 737) (by decide +kernel), List.mem_of_getElem? (i := 1064) (by decide +kernel), List.mem_of_getElem? (i := 1065) (by decide +kernel)⟩
theorem lw_p40 : lw_okq (⟨"NameNoonModel", "isSo", "(II)Z"⟩, 23) := ⟨⟨by decide +kernel, by decide +kernel⟩, List.mem_of_getElem? (i := 737) (by decide +kernel), List.mem_of_getElem? (i := 1068) (by decide +kernel), List.mem_of_getElem? (i := 1069) (by decide +kernel)⟩
theorem lw_p41 : lw_okq (⟨"NameNoonModel", "sizeOf", "(I)I"⟩, 23) := ⟨⟨by decide +kernel, by decide +kernel⟩, List.mem_of_getElem? (i := 737) (by decide +kernel), List.mem_of_getElem? (i := 1110) (by decide +kernel), List.mem_of_getElem? (i := 1111) (by decide +kernel)⟩
theorem lw_p42 : lw_okq (⟨"NameNoonModel", "doubleSize", "(I)I"⟩, 23) := ⟨⟨by decide +kernel, by decide +kernel⟩, List.mem_of_getElem? (i := 737) (by decide +kernel), List.mem_of_getElem? (i := 1114) (by decide +kernel), List.mem_of_getElem? (i := 1115) (by decide +kernel)⟩
theorem lw_p43 : lw_okq (⟨"NameNoonModel", "began", "(I)V"⟩, 23) := ⟨⟨by decide +kernel, by decide +kernel⟩, List.mem_of_getElem? (i := 737) (by decide +kernel), List.mem_of_getElem? (i := 1118) (by decide +kernel), List.mem_of_getElem? (i := 1119) (by decide +kernel)⟩
theorem lw_p44 : lw_okq (⟨"NameNoonModel", "plainSize", "(I)I"⟩, 23) := ⟨⟨by decide +kernel, by decide +kernel⟩, List.mem_of_getElem? (i := 737) (by decide +kernel), List.mem_of_getElem? (i := 1122) (by decide +kernel), List.mem_of_getElem? (i := 1123) (by decide +kernel)⟩
theorem lw_p45 : lw_okq (⟨"NameNoonModel", "markOf", "(I)I"⟩, 23) := ⟨⟨by decide +kernel, by decide +kernel⟩, List.mem_of_getElem? (i := 737) (by decide +kernel), List.mem_of_getElem? (i := 1126) (by decide +kernel), List.mem_of_getElem? (i := 1127) (by decide +kernel)⟩
def lw_privs_3 : List (MethodName × Nat) := [(⟨"NameNoonModel", "failed", "()Z"⟩, 23), (⟨"NameNoonModel", "isThere", "()Z"⟩, 23), (⟨"NameNoonModel", "keep", "()V"⟩, 23), (⟨"NameNoonModel", "isPaper", "(I)Z"⟩, 23), (⟨"NameNoonModel", "layThen", "()V"⟩, 23), (⟨"NameNoonModel", "afterTurns", "(IIIII)I"⟩, 23), (⟨"NameNoonModel", "step", "(II)Z"⟩, 23), (⟨"NameNoonModel", "rowFound", "(III)I"⟩, 23), (⟨"NameNoonModel", "isSo", "(II)Z"⟩, 23), (⟨"NameNoonModel", "sizeOf", "(I)I"⟩, 23), (⟨"NameNoonModel", "doubleSize", "(I)I"⟩, 23), (⟨"NameNoonModel", "began", "(I)V"⟩, 23), (⟨"NameNoonModel", "plainSize", "(I)I"⟩, 23), (⟨"NameNoonModel", "markOf", "(I)I"⟩, 23)]
theorem lw_r3 : ∀ q ∈ lw_privs_3, lw_okq q := List.forall_mem_cons.mpr ⟨lw_p32, List.forall_mem_cons.mpr ⟨lw_p33, List.forall_mem_cons.mpr ⟨lw_p34, List.forall_mem_cons.mpr ⟨lw_p35, List.forall_mem_cons.mpr ⟨lw_p36, List.forall_mem_cons.mpr ⟨lw_p37, List.forall_mem_cons.mpr ⟨lw_p38, List.forall_mem_cons.mpr ⟨lw_p39, List.forall_mem_cons.mpr ⟨lw_p40, List.forall_mem_cons.mpr ⟨lw_p41, List.forall_mem_cons.mpr ⟨lw_p42, List.forall_mem_cons.mpr ⟨lw_p43, List.forall_mem_cons.mpr ⟨lw_p44, List.forall_mem_cons.mpr ⟨lw_p45, fun _ h => absurd h List.not_mem_nil⟩⟩⟩⟩⟩⟩⟩⟩⟩⟩⟩⟩⟩⟩
def lw_privs : List (MethodName × Nat) := lw_privs_1 ++ (lw_privs_2 ++ (lw_privs_3))
def lw_tbl : List Cond := k2_sels lw_privs ++ tables_1
theorem lw_privs_ok : ∀ q ∈ lw_privs, lw_okq q := by
  show ∀ q ∈ lw_privs_1 ++ (lw_privs_2 ++ (lw_privs_3)), lw_okq q
  exact List.forall_mem_append.mpr ⟨lw_r1, List.forall_mem_append.mpr ⟨lw_r2, lw_r3⟩⟩
end
section
/-! ===== BEGIN printed: names, fields, word lists, decode rows ===== -/
def RX0 : String := "NameNoon$Acts"
def TX0 : u_T := fun k => match k with
  | 0 => ("NameNoon$Acts", "before", "[LNameNoon$Square;", true)
  | 1 => ("NameNoon$Acts", "next", "I", false)
  | _ => ("NameNoon$Acts", "kept", "I", false)
def tyX0 : Nat → FieldType := fun k => match k with
  | 0 => .array (.object "NameNoon$Square")
  | 1 => .int
  | _ => .int
abbrev wsX00 : List Cond := u_ws RX0 TX0 3
theorem nmX0 : ∀ a, a < 3 → ∀ b, b < 3 → a ≠ b → (TX0 a).2.1 ≠ (TX0 b).2.1 := by decide +kernel
theorem tyX0_ok : ∀ k, k < 3 → parseFieldDescriptor (TX0 k).2.2.1 = some (tyX0 k) := by decide +kernel
abbrev cX0_init : ByteArray := prog_2_method_1_code
def yX0_init : MethodName := ⟨RX0, "<init>", "()V"⟩
abbrev cX0_clear : ByteArray := prog_2_method_2_code
def yX0_clear : MethodName := ⟨RX0, "clear", "()V"⟩
abbrev cX0_keep : ByteArray := prog_2_method_3_code
def yX0_keep : MethodName := ⟨RX0, "keep", "(LNameNoon$Square;)V"⟩
abbrev cX0_takeBack : ByteArray := prog_2_method_4_code
def yX0_takeBack : MethodName := ⟨RX0, "takeBack", "(LNameNoon$Square;)V"⟩
def RX1 : String := "NameNoon$Asks"
def TX1 : u_T := fun k => match k with
  | 0 => ("NameNoon$Asks", "now", "LNameNoon$Square;", true)
  | 1 => ("NameNoon$Asks", "numbers", "[I", true)
  | _ => ("NameNoon$Asks", "traced", "I", false)
def tyX1 : Nat → FieldType := fun k => match k with
  | 0 => .object "NameNoon$Square"
  | 1 => .array .int
  | _ => .int
abbrev wsX10 : List Cond := u_ws RX1 TX1 3
theorem nmX1 : ∀ a, a < 3 → ∀ b, b < 3 → a ≠ b → (TX1 a).2.1 ≠ (TX1 b).2.1 := by decide +kernel
theorem tyX1_ok : ∀ k, k < 3 → parseFieldDescriptor (TX1 k).2.2.1 = some (tyX1 k) := by decide +kernel
abbrev cX1_init : ByteArray := prog_3_method_1_code
def yX1_init : MethodName := ⟨RX1, "<init>", "(LNameNoon$Square;)V"⟩
abbrev cX1_answer : ByteArray := prog_3_method_2_code
def yX1_answer : MethodName := ⟨RX1, "answer", "(II)I"⟩
abbrev cX1_bodyFor : ByteArray := prog_3_method_3_code
def yX1_bodyFor : MethodName := ⟨RX1, "bodyFor", "(II)I"⟩
abbrev cX1_anew : ByteArray := prog_3_method_4_code
def yX1_anew : MethodName := ⟨RX1, "anew", "(III)I"⟩
abbrev cX1_body : ByteArray := prog_3_method_5_code
def yX1_body : MethodName := ⟨RX1, "body", "(III)I"⟩
abbrev cX1_leaveTrace : ByteArray := prog_3_method_6_code
def yX1_leaveTrace : MethodName := ⟨RX1, "leaveTrace", "(I)V"⟩
def RX2 : String := "NameNoon$Foresight"
def TX2 : u_T := fun k => match k with
  | 0 => ("NameNoon$Foresight", "now", "LNameNoon$Square;", true)
  | _ => ("NameNoon$Foresight", "then", "LNameNoon$Square;", true)
def tyX2 : Nat → FieldType := fun k => match k with
  | 0 => .object "NameNoon$Square"
  | _ => .object "NameNoon$Square"
abbrev wsX20 : List Cond := u_ws RX2 TX2 2
theorem nmX2 : ∀ a, a < 2 → ∀ b, b < 2 → a ≠ b → (TX2 a).2.1 ≠ (TX2 b).2.1 := by decide +kernel
theorem tyX2_ok : ∀ k, k < 2 → parseFieldDescriptor (TX2 k).2.2.1 = some (tyX2 k) := by decide +kernel
abbrev cX2_init : ByteArray := prog_4_method_1_code
def yX2_init : MethodName := ⟨RX2, "<init>", "(LNameNoon$Square;)V"⟩
abbrev cX2_behind : ByteArray := prog_4_method_2_code
def yX2_behind : MethodName := ⟨RX2, "behind", "(I)LNameNoon$Square;"⟩
abbrev cX2_firstBitten : ByteArray := prog_4_method_3_code
def yX2_firstBitten : MethodName := ⟨RX2, "firstBitten", "(I)I"⟩
abbrev cX2_firstNameless : ByteArray := prog_4_method_4_code
def yX2_firstNameless : MethodName := ⟨RX2, "firstNameless", "(I)I"⟩
abbrev cX2_bestPlace : ByteArray := prog_4_method_5_code
def yX2_bestPlace : MethodName := ⟨RX2, "bestPlace", "(II)I"⟩
abbrev cX2_lettersFrom : ByteArray := prog_4_method_6_code
def yX2_lettersFrom : MethodName := ⟨RX2, "lettersFrom", "(III)I"⟩
abbrev cX2_leastDecoy : ByteArray := prog_4_method_7_code
def yX2_leastDecoy : MethodName := ⟨RX2, "leastDecoy", "(III)I"⟩
abbrev cX2_fewestHidden : ByteArray := prog_4_method_8_code
def yX2_fewestHidden : MethodName := ⟨RX2, "fewestHidden", "(I)I"⟩
abbrev cX2_savesAll : ByteArray := prog_4_method_9_code
def yX2_savesAll : MethodName := ⟨RX2, "savesAll", "(II)Z"⟩
abbrev cX2_isSetOf : ByteArray := prog_4_method_10_code
def yX2_isSetOf : MethodName := ⟨RX2, "isSetOf", "(II)Z"⟩
abbrev cX2_howManySets : ByteArray := prog_4_method_11_code
def yX2_howManySets : MethodName := ⟨RX2, "howManySets", "(I)I"⟩
abbrev cX2_inAllSets : ByteArray := prog_4_method_12_code
def yX2_inAllSets : MethodName := ⟨RX2, "inAllSets", "(I)I"⟩
abbrev cX2_inAnySet : ByteArray := prog_4_method_13_code
def yX2_inAnySet : MethodName := ⟨RX2, "inAnySet", "(I)I"⟩
abbrev cX2_inkOf : ByteArray := prog_4_method_14_code
def yX2_inkOf : MethodName := ⟨RX2, "inkOf", "(II)I"⟩
abbrev cX2_bestOf : ByteArray := prog_4_method_15_code
def yX2_bestOf : MethodName := ⟨RX2, "bestOf", "(LNameNoon$Foresight;IIIII)I"⟩
abbrev cX2_gain : ByteArray := prog_4_method_16_code
def yX2_gain : MethodName := ⟨RX2, "gain", "(III)I"⟩
abbrev cX2_fitting : ByteArray := prog_4_method_17_code
def yX2_fitting : MethodName := ⟨RX2, "fitting", "(IILNameNoon$Rows;III)I"⟩
abbrev cX2_suppose : ByteArray := prog_4_method_18_code
def yX2_suppose : MethodName := ⟨RX2, "suppose", "(III)V"⟩
abbrev cX2_comesAsTold : ByteArray := prog_4_method_19_code
def yX2_comesAsTold : MethodName := ⟨RX2, "comesAsTold", "(LNameNoon$Rows;III)Z"⟩
abbrev cX2_casesKept : ByteArray := prog_4_method_20_code
def yX2_casesKept : MethodName := ⟨RX2, "casesKept", "(III)J"⟩
abbrev cX2_keepsName : ByteArray := prog_4_method_21_code
def yX2_keepsName : MethodName := ⟨RX2, "keepsName", "(III)Z"⟩
abbrev cX2_casesOfRain : ByteArray := prog_4_method_22_code
def yX2_casesOfRain : MethodName := ⟨RX2, "casesOfRain", "()J"⟩
abbrev cX2_power : ByteArray := prog_4_method_23_code
def yX2_power : MethodName := ⟨RX2, "power", "(II)J"⟩
abbrev cX2_behindDraws : ByteArray := prog_4_method_24_code
def yX2_behindDraws : MethodName := ⟨RX2, "behindDraws", "(II)LNameNoon$Square;"⟩
abbrev cX2_draw : ByteArray := prog_4_method_25_code
def yX2_draw : MethodName := ⟨RX2, "draw", "(J)V"⟩
def RX3 : String := "NameNoon$Rows"
def TX3 : u_T := fun k => match k with
  | 0 => ("NameNoon$Rows", "items", "[[I", true)
  | 1 => ("NameNoon$Rows", "lanes", "[I", true)
  | _ => ("NameNoon$Rows", "sizes", "[I", true)
def tyX3 : Nat → FieldType := fun k => match k with
  | 0 => .array (.array .int)
  | 1 => .array .int
  | _ => .array .int
abbrev wsX30 : List Cond := u_ws RX3 TX3 3
theorem nmX3 : ∀ a, a < 3 → ∀ b, b < 3 → a ≠ b → (TX3 a).2.1 ≠ (TX3 b).2.1 := by decide +kernel
theorem tyX3_ok : ∀ k, k < 3 → parseFieldDescriptor (TX3 k).2.2.1 = some (tyX3 k) := by decide +kernel
abbrev cX3_init : ByteArray := prog_5_method_1_code
def yX3_init : MethodName := ⟨RX3, "<init>", "()V"⟩
abbrev cX3_isRow : ByteArray := prog_5_method_2_code
def yX3_isRow : MethodName := ⟨RX3, "isRow", "(I)Z"⟩
abbrev cX3_isMissing : ByteArray := prog_5_method_3_code
def yX3_isMissing : MethodName := ⟨RX3, "isMissing", "(I)Z"⟩
abbrev cX3_laneOf : ByteArray := prog_5_method_4_code
def yX3_laneOf : MethodName := ⟨RX3, "laneOf", "(I)I"⟩
abbrev cX3_hasItems : ByteArray := prog_5_method_5_code
def yX3_hasItems : MethodName := ⟨RX3, "hasItems", "(III)Z"⟩
abbrev cX3_make : ByteArray := prog_5_method_6_code
def yX3_make : MethodName := ⟨RX3, "make", "(III)V"⟩
abbrev cX3_put : ByteArray := prog_5_method_7_code
def yX3_put : MethodName := ⟨RX3, "put", "(III)I"⟩
abbrev cX3_itemAt : ByteArray := prog_5_method_8_code
def yX3_itemAt : MethodName := ⟨RX3, "itemAt", "(II)I"⟩
abbrev cX3_carry : ByteArray := prog_5_method_9_code
def yX3_carry : MethodName := ⟨RX3, "carry", "(IIIII)V"⟩
abbrev cX3_remove : ByteArray := prog_5_method_10_code
def yX3_remove : MethodName := ⟨RX3, "remove", "(I)I"⟩
abbrev cX3_present : ByteArray := prog_5_method_11_code
def yX3_present : MethodName := ⟨RX3, "present", "()I"⟩
def RX4 : String := "NameNoon$Square"
def TX4 : u_T := fun k => match k with
  | 0 => ("NameNoon$Square", "papers", "I", false)
  | 1 => ("NameNoon$Square", "clock", "I", false)
  | 2 => ("NameNoon$Square", "drift", "I", false)
  | 3 => ("NameNoon$Square", "rest", "I", false)
  | 4 => ("NameNoon$Square", "noon", "I", false)
  | 5 => ("NameNoon$Square", "eaten", "I", false)
  | 6 => ("NameNoon$Square", "hidden", "I", false)
  | 7 => ("NameNoon$Square", "latestBitten", "I", false)
  | 8 => ("NameNoon$Square", "latestLost", "I", false)
  | 9 => ("NameNoon$Square", "kinds", "[I", true)
  | 10 => ("NameNoon$Square", "places", "[I", true)
  | 11 => ("NameNoon$Square", "lows", "[I", true)
  | _ => ("NameNoon$Square", "longs", "[I", true)
def tyX4 : Nat → FieldType := fun k => match k with
  | 0 => .int
  | 1 => .int
  | 2 => .int
  | 3 => .int
  | 4 => .int
  | 5 => .int
  | 6 => .int
  | 7 => .int
  | 8 => .int
  | 9 => .array .int
  | 10 => .array .int
  | 11 => .array .int
  | _ => .array .int
abbrev wsX40 : List Cond := u_ws RX4 TX4 13
theorem nmX4 : ∀ a, a < 13 → ∀ b, b < 13 → a ≠ b → (TX4 a).2.1 ≠ (TX4 b).2.1 := by decide +kernel
theorem tyX4_ok : ∀ k, k < 13 → parseFieldDescriptor (TX4 k).2.2.1 = some (tyX4 k) := by decide +kernel
abbrev cX4_init : ByteArray := prog_6_method_1_code
def yX4_init : MethodName := ⟨RX4, "<init>", "()V"⟩
abbrev cX4_take : ByteArray := prog_6_method_2_code
def yX4_take : MethodName := ⟨RX4, "take", "(LNameNoon$Square;)V"⟩
abbrev cX4_has : ByteArray := prog_6_method_3_code
def yX4_has : MethodName := ⟨RX4, "has", "(I)Z"⟩
abbrev cX4_isHidden : ByteArray := prog_6_method_4_code
def yX4_isHidden : MethodName := ⟨RX4, "isHidden", "(I)Z"⟩
abbrev cX4_allBits : ByteArray := prog_6_method_5_code
def yX4_allBits : MethodName := ⟨RX4, "allBits", "()I"⟩
abbrev cX4_nearOf : ByteArray := prog_6_method_6_code
def yX4_nearOf : MethodName := ⟨RX4, "nearOf", "(I)I"⟩
abbrev cX4_allLetters : ByteArray := prog_6_method_7_code
def yX4_allLetters : MethodName := ⟨RX4, "allLetters", "()I"⟩
abbrev cX4_namelessBits : ByteArray := prog_6_method_8_code
def yX4_namelessBits : MethodName := ⟨RX4, "namelessBits", "()I"⟩
abbrev cX4_nextBitten : ByteArray := prog_6_method_9_code
def yX4_nextBitten : MethodName := ⟨RX4, "nextBitten", "()I"⟩
abbrev cX4_passNoon : ByteArray := prog_6_method_10_code
def yX4_passNoon : MethodName := ⟨RX4, "passNoon", "()V"⟩
abbrev cX4_passNoons : ByteArray := prog_6_method_11_code
def yX4_passNoons : MethodName := ⟨RX4, "passNoons", "(I)V"⟩
abbrev cX4_bite : ByteArray := prog_6_method_12_code
def yX4_bite : MethodName := ⟨RX4, "bite", "(I)V"⟩
abbrev cX4_isSpatOut : ByteArray := prog_6_method_13_code
def yX4_isSpatOut : MethodName := ⟨RX4, "isSpatOut", "(I)Z"⟩
abbrev cX4_biteOf : ByteArray := prog_6_method_14_code
def yX4_biteOf : MethodName := ⟨RX4, "biteOf", "(I)I"⟩
abbrev cX4_lenderOf : ByteArray := prog_6_method_15_code
def yX4_lenderOf : MethodName := ⟨RX4, "lenderOf", "(I)I"⟩
def RX5 : String := "NameNoon$Tape"
def TX5 : u_T := fun k => match k with
  | 0 => ("NameNoon$Tape", "bytes", "[I", true)
  | 1 => ("NameNoon$Tape", "length", "I", false)
  | 2 => ("NameNoon$Tape", "draft", "LNameNoon$Square;", true)
  | 3 => ("NameNoon$Tape", "at", "I", false)
  | 4 => ("NameNoon$Tape", "number", "I", false)
  | 5 => ("NameNoon$Tape", "fault", "I", false)
  | _ => ("NameNoon$Tape", "faultAt", "I", false)
def tyX5 : Nat → FieldType := fun k => match k with
  | 0 => .array .int
  | 1 => .int
  | 2 => .object "NameNoon$Square"
  | 3 => .int
  | 4 => .int
  | 5 => .int
  | _ => .int
abbrev wsX50 : List Cond := u_ws RX5 TX5 7
theorem nmX5 : ∀ a, a < 7 → ∀ b, b < 7 → a ≠ b → (TX5 a).2.1 ≠ (TX5 b).2.1 := by decide +kernel
theorem tyX5_ok : ∀ k, k < 7 → parseFieldDescriptor (TX5 k).2.2.1 = some (tyX5 k) := by decide +kernel
abbrev cX5_init : ByteArray := prog_7_method_1_code
def yX5_init : MethodName := ⟨RX5, "<init>", "()V"⟩
abbrev cX5_isFull : ByteArray := prog_7_method_2_code
def yX5_isFull : MethodName := ⟨RX5, "isFull", "()Z"⟩
abbrev cX5_add : ByteArray := prog_7_method_3_code
def yX5_add : MethodName := ⟨RX5, "add", "(I)I"⟩
abbrev cX5_clear : ByteArray := prog_7_method_4_code
def yX5_clear : MethodName := ⟨RX5, "clear", "()V"⟩
abbrev cX5_read : ByteArray := prog_7_method_5_code
def yX5_read : MethodName := ⟨RX5, "read", "()Z"⟩
abbrev cX5_readLaw : ByteArray := prog_7_method_6_code
def yX5_readLaw : MethodName := ⟨RX5, "readLaw", "()Z"⟩
abbrev cX5_readPaper : ByteArray := prog_7_method_7_code
def yX5_readPaper : MethodName := ⟨RX5, "readPaper", "()Z"⟩
abbrev cX5_readByte : ByteArray := prog_7_method_8_code
def yX5_readByte : MethodName := ⟨RX5, "readByte", "(C)Z"⟩
abbrev cX5_readNumber : ByteArray := prog_7_method_9_code
def yX5_readNumber : MethodName := ⟨RX5, "readNumber", "(II)Z"⟩
abbrev cX5_faulty : ByteArray := prog_7_method_10_code
def yX5_faulty : MethodName := ⟨RX5, "faulty", "(I)Z"⟩
abbrev cX5_byteAt : ByteArray := prog_7_method_11_code
def yX5_byteAt : MethodName := ⟨RX5, "byteAt", "(I)I"⟩
abbrev cX5_isFigure : ByteArray := prog_7_method_12_code
def yX5_isFigure : MethodName := ⟨RX5, "isFigure", "(I)Z"⟩
abbrev cX5_kindTold : ByteArray := prog_7_method_13_code
def yX5_kindTold : MethodName := ⟨RX5, "kindTold", "(I)I"⟩
def RX6 : String := "NameNoon"
def TX6 : u_T := fun k => match k with
  | 0 => ("NameNoon", "rows", "LNameNoon$Rows;", true)
  | 1 => ("NameNoon", "tape", "LNameNoon$Tape;", true)
  | 2 => ("NameNoon", "now", "LNameNoon$Square;", true)
  | 3 => ("NameNoon", "acts", "LNameNoon$Acts;", true)
  | 4 => ("NameNoon", "firstImage", "LNameNoon$Square;", true)
  | 5 => ("NameNoon", "secondImage", "LNameNoon$Square;", true)
  | 6 => ("NameNoon", "foresight", "LNameNoon$Foresight;", true)
  | 7 => ("NameNoon", "asks", "LNameNoon$Asks;", true)
  | 8 => ("NameNoon", "latestFault", "I", false)
  | _ => ("NameNoon", "latestFinding", "I", false)
def tyX6 : Nat → FieldType := fun k => match k with
  | 0 => .object "NameNoon$Rows"
  | 1 => .object "NameNoon$Tape"
  | 2 => .object "NameNoon$Square"
  | 3 => .object "NameNoon$Acts"
  | 4 => .object "NameNoon$Square"
  | 5 => .object "NameNoon$Square"
  | 6 => .object "NameNoon$Foresight"
  | 7 => .object "NameNoon$Asks"
  | 8 => .int
  | _ => .int
abbrev wsX60 : List Cond := u_ws RX6 TX6 10
theorem nmX6 : ∀ a, a < 10 → ∀ b, b < 10 → a ≠ b → (TX6 a).2.1 ≠ (TX6 b).2.1 := by decide +kernel
theorem tyX6_ok : ∀ k, k < 10 → parseFieldDescriptor (TX6 k).2.2.1 = some (tyX6 k) := by decide +kernel
abbrev cX6_init : ByteArray := prog_1_method_1_code
def yX6_init : MethodName := ⟨RX6, "<init>", "()V"⟩
abbrev cX6_row : ByteArray := prog_1_method_2_code
def yX6_row : MethodName := ⟨RX6, "row", "(III)I"⟩
abbrev cX6_set : ByteArray := prog_1_method_3_code
def yX6_set : MethodName := ⟨RX6, "set", "(III)I"⟩
abbrev cX6_copy : ByteArray := prog_1_method_4_code
def yX6_copy : MethodName := ⟨RX6, "copy", "(IIIII)I"⟩
abbrev cX6_drop : ByteArray := prog_1_method_5_code
def yX6_drop : MethodName := ⟨RX6, "drop", "(I)I"⟩
abbrev cX6_feed : ByteArray := prog_1_method_6_code
def yX6_feed : MethodName := ⟨RX6, "feed", "(I)I"⟩
abbrev cX6_square : ByteArray := prog_1_method_7_code
def yX6_square : MethodName := ⟨RX6, "square", "()I"⟩
abbrev cX6_fault : ByteArray := prog_1_method_8_code
def yX6_fault : MethodName := ⟨RX6, "fault", "()I"⟩
abbrev cX6_undo : ByteArray := prog_1_method_9_code
def yX6_undo : MethodName := ⟨RX6, "undo", "()I"⟩
abbrev cX6_noons : ByteArray := prog_1_method_10_code
def yX6_noons : MethodName := ⟨RX6, "noons", "(I)I"⟩
abbrev cX6_move : ByteArray := prog_1_method_11_code
def yX6_move : MethodName := ⟨RX6, "move", "(II)I"⟩
abbrev cX6_write : ByteArray := prog_1_method_12_code
def yX6_write : MethodName := ⟨RX6, "write", "(II)I"⟩
abbrev cX6_hide : ByteArray := prog_1_method_13_code
def yX6_hide : MethodName := ⟨RX6, "hide", "(I)I"⟩
abbrev cX6_clock : ByteArray := prog_1_method_14_code
def yX6_clock : MethodName := ⟨RX6, "clock", "(I)I"⟩
abbrev cX6_paper : ByteArray := prog_1_method_15_code
def yX6_paper : MethodName := ⟨RX6, "paper", "(II)I"⟩
abbrev cX6_stand : ByteArray := prog_1_method_16_code
def yX6_stand : MethodName := ⟨RX6, "stand", "(I)I"⟩
abbrev cX6_ahead : ByteArray := prog_1_method_17_code
def yX6_ahead : MethodName := ⟨RX6, "ahead", "(III)I"⟩
abbrev cX6_bitten : ByteArray := prog_1_method_18_code
def yX6_bitten : MethodName := ⟨RX6, "bitten", "(II)I"⟩
abbrev cX6_left : ByteArray := prog_1_method_19_code
def yX6_left : MethodName := ⟨RX6, "left", "(II)I"⟩
abbrev cX6_when : ByteArray := prog_1_method_20_code
def yX6_when : MethodName := ⟨RX6, "when", "(II)I"⟩
abbrev cX6_over : ByteArray := prog_1_method_21_code
def yX6_over : MethodName := ⟨RX6, "over", "()I"⟩
abbrev cX6_spot : ByteArray := prog_1_method_22_code
def yX6_spot : MethodName := ⟨RX6, "spot", "(III)I"⟩
abbrev cX6_decoy : ByteArray := prog_1_method_23_code
def yX6_decoy : MethodName := ⟨RX6, "decoy", "(III)I"⟩
abbrev cX6_hides : ByteArray := prog_1_method_24_code
def yX6_hides : MethodName := ⟨RX6, "hides", "(II)I"⟩
abbrev cX6_sets : ByteArray := prog_1_method_25_code
def yX6_sets : MethodName := ⟨RX6, "sets", "(II)I"⟩
abbrev cX6_share : ByteArray := prog_1_method_26_code
def yX6_share : MethodName := ⟨RX6, "share", "(II)I"⟩
abbrev cX6_byTurns : ByteArray := prog_1_method_27_code
def yX6_byTurns : MethodName := ⟨RX6, "byTurns", "(II)I"⟩
abbrev cX6_who : ByteArray := prog_1_method_28_code
def yX6_who : MethodName := ⟨RX6, "who", "(IIIII)I"⟩
abbrev cX6_rain : ByteArray := prog_1_method_29_code
def yX6_rain : MethodName := ⟨RX6, "rain", "(IIII)J"⟩
abbrev cX6_drawn : ByteArray := prog_1_method_30_code
def yX6_drawn : MethodName := ⟨RX6, "drawn", "(III)I"⟩
abbrev cX6_image : ByteArray := prog_1_method_31_code
def yX6_image : MethodName := ⟨RX6, "image", "(I)I"⟩
abbrev cX6_restore : ByteArray := prog_1_method_32_code
def yX6_restore : MethodName := ⟨RX6, "restore", "(I)I"⟩
abbrev cX6_kind : ByteArray := prog_1_method_33_code
def yX6_kind : MethodName := ⟨RX6, "kind", "(I)I"⟩
abbrev cX6_as : ByteArray := prog_1_method_34_code
def yX6_as : MethodName := ⟨RX6, "as", "(II)I"⟩
abbrev cX6_ask : ByteArray := prog_1_method_35_code
def yX6_ask : MethodName := ⟨RX6, "ask", "(II)I"⟩
abbrev cX6_trace : ByteArray := prog_1_method_36_code
def yX6_trace : MethodName := ⟨RX6, "trace", "(I)I"⟩
abbrev cX6_count : ByteArray := prog_1_method_37_code
def yX6_count : MethodName := ⟨RX6, "count", "(I)I"⟩
abbrev cX6_status : ByteArray := prog_1_method_38_code
def yX6_status : MethodName := ⟨RX6, "status", "()I"⟩
abbrev cX6_found : ByteArray := prog_1_method_39_code
def yX6_found : MethodName := ⟨RX6, "found", "(I)I"⟩
abbrev cX6_imageAt : ByteArray := prog_1_method_40_code
def yX6_imageAt : MethodName := ⟨RX6, "imageAt", "(I)LNameNoon$Square;"⟩
abbrev cX6_within : ByteArray := prog_1_method_41_code
def yX6_within : MethodName := ⟨RX6, "within", "(III)Z"⟩
abbrev cX6_isPlace : ByteArray := prog_1_method_42_code
def yX6_isPlace : MethodName := ⟨RX6, "isPlace", "(I)Z"⟩
abbrev cX6_isOfKind : ByteArray := prog_1_method_43_code
def yX6_isOfKind : MethodName := ⟨RX6, "isOfKind", "(II)Z"⟩
abbrev cX6_commonDivisor : ByteArray := prog_1_method_44_code
def yX6_commonDivisor : MethodName := ⟨RX6, "commonDivisor", "(JJ)J"⟩
def RX7 : String := "NameNoonModel"
def TX7 : u_T := fun k => match k with
  | 0 => ("NameNoonModel", "thrown", "I", false)
  | 1 => ("NameNoonModel", "status", "I", false)
  | 2 => ("NameNoonModel", "lane", "[I", true)
  | 3 => ("NameNoonModel", "many", "[I", true)
  | 4 => ("NameNoonModel", "item", "[I", true)
  | 5 => ("NameNoonModel", "square", "[I", true)
  | 6 => ("NameNoonModel", "fresh", "[I", true)
  | 7 => ("NameNoonModel", "then", "[I", true)
  | 8 => ("NameNoonModel", "was", "[I", true)
  | 9 => ("NameNoonModel", "acts", "I", false)
  | 10 => ("NameNoonModel", "tape", "[I", true)
  | 11 => ("NameNoonModel", "taped", "I", false)
  | 12 => ("NameNoonModel", "cursor", "I", false)
  | 13 => ("NameNoonModel", "start", "I", false)
  | 14 => ("NameNoonModel", "token", "I", false)
  | 15 => ("NameNoonModel", "value", "I", false)
  | 16 => ("NameNoonModel", "fault", "I", false)
  | 17 => ("NameNoonModel", "faultAt", "I", false)
  | 18 => ("NameNoonModel", "latest", "I", false)
  | 19 => ("NameNoonModel", "isKept", "[Z", true)
  | 20 => ("NameNoonModel", "kept", "[I", true)
  | 21 => ("NameNoonModel", "trace", "[I", true)
  | _ => ("NameNoonModel", "traced", "I", false)
def tyX7 : Nat → FieldType := fun k => match k with
  | 0 => .int
  | 1 => .int
  | 2 => .array .int
  | 3 => .array .int
  | 4 => .array .int
  | 5 => .array .int
  | 6 => .array .int
  | 7 => .array .int
  | 8 => .array .int
  | 9 => .int
  | 10 => .array .int
  | 11 => .int
  | 12 => .int
  | 13 => .int
  | 14 => .int
  | 15 => .int
  | 16 => .int
  | 17 => .int
  | 18 => .int
  | 19 => .array .boolean
  | 20 => .array .int
  | 21 => .array .int
  | _ => .int
abbrev wsX70 : List Cond := u_ws RX7 TX7 23
theorem nmX7 : ∀ a, a < 23 → ∀ b, b < 23 → a ≠ b → (TX7 a).2.1 ≠ (TX7 b).2.1 := by decide +kernel
theorem tyX7_ok : ∀ k, k < 23 → parseFieldDescriptor (TX7 k).2.2.1 = some (tyX7 k) := by decide +kernel
abbrev cX7_init : ByteArray := prog_9_method_1_code
def yX7_init : MethodName := ⟨RX7, "<init>", "()V"⟩
abbrev cX7_in : ByteArray := prog_9_method_3_code
def yX7_in : MethodName := ⟨RX7, "in", "(JJJ)Z"⟩
abbrev cX7_finding : ByteArray := prog_9_method_4_code
def yX7_finding : MethodName := ⟨RX7, "finding", "(I)I"⟩
abbrev cX7_isRow : ByteArray := prog_9_method_5_code
def yX7_isRow : MethodName := ⟨RX7, "isRow", "(I)Z"⟩
abbrev cX7_row : ByteArray := prog_9_method_6_code
def yX7_row : MethodName := ⟨RX7, "row", "(III)I"⟩
abbrev cX7_set : ByteArray := prog_9_method_7_code
def yX7_set : MethodName := ⟨RX7, "set", "(III)I"⟩
abbrev cX7_copy : ByteArray := prog_9_method_8_code
def yX7_copy : MethodName := ⟨RX7, "copy", "(IIIII)I"⟩
abbrev cX7_drop : ByteArray := prog_9_method_9_code
def yX7_drop : MethodName := ⟨RX7, "drop", "(I)I"⟩
abbrev cX7_feed : ByteArray := prog_9_method_10_code
def yX7_feed : MethodName := ⟨RX7, "feed", "(I)I"⟩
abbrev cX7_bad : ByteArray := prog_9_method_11_code
def yX7_bad : MethodName := ⟨RX7, "bad", "(I)V"⟩
abbrev cX7_nextToken : ByteArray := prog_9_method_12_code
def yX7_nextToken : MethodName := ⟨RX7, "nextToken", "()V"⟩
abbrev cX7_must : ByteArray := prog_9_method_13_code
def yX7_must : MethodName := ⟨RX7, "must", "(Z)V"⟩
abbrev cX7_isLetter : ByteArray := prog_9_method_14_code
def yX7_isLetter : MethodName := ⟨RX7, "isLetter", "(I)Z"⟩
abbrev cX7_number : ByteArray := prog_9_method_15_code
def yX7_number : MethodName := ⟨RX7, "number", "(II)I"⟩
abbrev cX7_mustSign : ByteArray := prog_9_method_16_code
def yX7_mustSign : MethodName := ⟨RX7, "mustSign", "(I)V"⟩
abbrev cX7_begin : ByteArray := prog_9_method_17_code
def yX7_begin : MethodName := ⟨RX7, "begin", "()V"⟩
abbrev cX7_failed : ByteArray := prog_9_method_18_code
def yX7_failed : MethodName := ⟨RX7, "failed", "()Z"⟩
abbrev cX7_fault : ByteArray := prog_9_method_19_code
def yX7_fault : MethodName := ⟨RX7, "fault", "()I"⟩
abbrev cX7_kindBy : ByteArray := prog_9_method_20_code
def yX7_kindBy : MethodName := ⟨RX7, "kindBy", "(I)I"⟩
abbrev cX7_isSort : ByteArray := prog_9_method_21_code
def yX7_isSort : MethodName := ⟨RX7, "isSort", "()Z"⟩
abbrev cX7_readPaper : ByteArray := prog_9_method_22_code
def yX7_readPaper : MethodName := ⟨RX7, "readPaper", "()V"⟩
abbrev cX7_square : ByteArray := prog_9_method_23_code
def yX7_square : MethodName := ⟨RX7, "square", "()I"⟩
abbrev cX7_isThere : ByteArray := prog_9_method_24_code
def yX7_isThere : MethodName := ⟨RX7, "isThere", "()Z"⟩
abbrev cX7_isPaper : ByteArray := prog_9_method_25_code
def yX7_isPaper : MethodName := ⟨RX7, "isPaper", "(I)Z"⟩
abbrev cX7_bits : ByteArray := prog_9_method_26_code
def yX7_bits : MethodName := ⟨RX7, "bits", "(I)I"⟩
abbrev cX7_has : ByteArray := prog_9_method_27_code
def yX7_has : MethodName := ⟨RX7, "has", "(II)Z"⟩
abbrev cX7_of : ByteArray := prog_9_method_28_code
def yX7_of : MethodName := ⟨RX7, "of", "([III)I"⟩
abbrev cX7_be : ByteArray := prog_9_method_29_code
def yX7_be : MethodName := ⟨RX7, "be", "([IIII)V"⟩
abbrev cX7_nearOf : ByteArray := prog_9_method_30_code
def yX7_nearOf : MethodName := ⟨RX7, "nearOf", "([II)I"⟩
abbrev cX7_nextOf : ByteArray := prog_9_method_31_code
def yX7_nextOf : MethodName := ⟨RX7, "nextOf", "([I)I"⟩
abbrev cX7_lenderOf : ByteArray := prog_9_method_32_code
def yX7_lenderOf : MethodName := ⟨RX7, "lenderOf", "([II)I"⟩
abbrev cX7_bite : ByteArray := prog_9_method_33_code
def yX7_bite : MethodName := ⟨RX7, "bite", "([II)I"⟩
abbrev cX7_noonOf : ByteArray := prog_9_method_34_code
def yX7_noonOf : MethodName := ⟨RX7, "noonOf", "([I)I"⟩
abbrev cX7_noonsOf : ByteArray := prog_9_method_35_code
def yX7_noonsOf : MethodName := ⟨RX7, "noonsOf", "([II)V"⟩
abbrev cX7_lettersOf : ByteArray := prog_9_method_36_code
def yX7_lettersOf : MethodName := ⟨RX7, "lettersOf", "([I)I"⟩
abbrev cX7_nameless : ByteArray := prog_9_method_37_code
def yX7_nameless : MethodName := ⟨RX7, "nameless", "([I)I"⟩
abbrev cX7_hiddenOf : ByteArray := prog_9_method_38_code
def yX7_hiddenOf : MethodName := ⟨RX7, "hiddenOf", "([I)I"⟩
abbrev cX7_layThen : ByteArray := prog_9_method_39_code
def yX7_layThen : MethodName := ⟨RX7, "layThen", "()V"⟩
abbrev cX7_keep : ByteArray := prog_9_method_40_code
def yX7_keep : MethodName := ⟨RX7, "keep", "()V"⟩
abbrev cX7_noons : ByteArray := prog_9_method_41_code
def yX7_noons : MethodName := ⟨RX7, "noons", "(I)I"⟩
abbrev cX7_move : ByteArray := prog_9_method_42_code
def yX7_move : MethodName := ⟨RX7, "move", "(II)I"⟩
abbrev cX7_write : ByteArray := prog_9_method_43_code
def yX7_write : MethodName := ⟨RX7, "write", "(II)I"⟩
abbrev cX7_hide : ByteArray := prog_9_method_44_code
def yX7_hide : MethodName := ⟨RX7, "hide", "(I)I"⟩
abbrev cX7_clock : ByteArray := prog_9_method_45_code
def yX7_clock : MethodName := ⟨RX7, "clock", "(I)I"⟩
abbrev cX7_undo : ByteArray := prog_9_method_46_code
def yX7_undo : MethodName := ⟨RX7, "undo", "()I"⟩
abbrev cX7_paper : ByteArray := prog_9_method_47_code
def yX7_paper : MethodName := ⟨RX7, "paper", "(II)I"⟩
abbrev cX7_stand : ByteArray := prog_9_method_48_code
def yX7_stand : MethodName := ⟨RX7, "stand", "(I)I"⟩
abbrev cX7_ahead : ByteArray := prog_9_method_49_code
def yX7_ahead : MethodName := ⟨RX7, "ahead", "(III)I"⟩
abbrev cX7_bitten : ByteArray := prog_9_method_50_code
def yX7_bitten : MethodName := ⟨RX7, "bitten", "(II)I"⟩
abbrev cX7_left : ByteArray := prog_9_method_51_code
def yX7_left : MethodName := ⟨RX7, "left", "(II)I"⟩
abbrev cX7_when : ByteArray := prog_9_method_52_code
def yX7_when : MethodName := ⟨RX7, "when", "(II)I"⟩
abbrev cX7_over : ByteArray := prog_9_method_53_code
def yX7_over : MethodName := ⟨RX7, "over", "()I"⟩
abbrev cX7_spot : ByteArray := prog_9_method_54_code
def yX7_spot : MethodName := ⟨RX7, "spot", "(III)I"⟩
abbrev cX7_decoy : ByteArray := prog_9_method_55_code
def yX7_decoy : MethodName := ⟨RX7, "decoy", "(III)I"⟩
abbrev cX7_hides : ByteArray := prog_9_method_56_code
def yX7_hides : MethodName := ⟨RX7, "hides", "(II)I"⟩
abbrev cX7_sets : ByteArray := prog_9_method_57_code
def yX7_sets : MethodName := ⟨RX7, "sets", "(II)I"⟩
abbrev cX7_share : ByteArray := prog_9_method_58_code
def yX7_share : MethodName := ⟨RX7, "share", "(II)I"⟩
abbrev cX7_afterTurns : ByteArray := prog_9_method_59_code
def yX7_afterTurns : MethodName := ⟨RX7, "afterTurns", "(IIIII)I"⟩
abbrev cX7_step : ByteArray := prog_9_method_60_code
def yX7_step : MethodName := ⟨RX7, "step", "(II)Z"⟩
abbrev cX7_byTurns : ByteArray := prog_9_method_61_code
def yX7_byTurns : MethodName := ⟨RX7, "byTurns", "(II)I"⟩
abbrev cX7_isSo : ByteArray := prog_9_method_62_code
def yX7_isSo : MethodName := ⟨RX7, "isSo", "(II)Z"⟩
abbrev cX7_rowFound : ByteArray := prog_9_method_63_code
def yX7_rowFound : MethodName := ⟨RX7, "rowFound", "(III)I"⟩
abbrev cX7_isMany : ByteArray := prog_9_method_64_code
def yX7_isMany : MethodName := ⟨RX7, "isMany", "(II)Z"⟩
abbrev cX7_who : ByteArray := prog_9_method_65_code
def yX7_who : MethodName := ⟨RX7, "who", "(IIIII)I"⟩
abbrev cX7_rain : ByteArray := prog_9_method_66_code
def yX7_rain : MethodName := ⟨RX7, "rain", "(IIII)J"⟩
abbrev cX7_drawn : ByteArray := prog_9_method_67_code
def yX7_drawn : MethodName := ⟨RX7, "drawn", "(III)I"⟩
abbrev cX7_image : ByteArray := prog_9_method_68_code
def yX7_image : MethodName := ⟨RX7, "image", "(I)I"⟩
abbrev cX7_restore : ByteArray := prog_9_method_69_code
def yX7_restore : MethodName := ⟨RX7, "restore", "(I)I"⟩
abbrev cX7_isOf : ByteArray := prog_9_method_70_code
def yX7_isOf : MethodName := ⟨RX7, "isOf", "(II)Z"⟩
abbrev cX7_kind : ByteArray := prog_9_method_71_code
def yX7_kind : MethodName := ⟨RX7, "kind", "(I)I"⟩
abbrev cX7_as : ByteArray := prog_9_method_72_code
def yX7_as : MethodName := ⟨RX7, "as", "(II)I"⟩
abbrev cX7_began : ByteArray := prog_9_method_73_code
def yX7_began : MethodName := ⟨RX7, "began", "(I)V"⟩
abbrev cX7_plainSize : ByteArray := prog_9_method_74_code
def yX7_plainSize : MethodName := ⟨RX7, "plainSize", "(I)I"⟩
abbrev cX7_doubleSize : ByteArray := prog_9_method_75_code
def yX7_doubleSize : MethodName := ⟨RX7, "doubleSize", "(I)I"⟩
abbrev cX7_markOf : ByteArray := prog_9_method_76_code
def yX7_markOf : MethodName := ⟨RX7, "markOf", "(I)I"⟩
abbrev cX7_sizeOf : ByteArray := prog_9_method_77_code
def yX7_sizeOf : MethodName := ⟨RX7, "sizeOf", "(I)I"⟩
abbrev cX7_ask : ByteArray := prog_9_method_78_code
def yX7_ask : MethodName := ⟨RX7, "ask", "(II)I"⟩
abbrev cX7_trace : ByteArray := prog_9_method_79_code
def yX7_trace : MethodName := ⟨RX7, "trace", "(I)I"⟩
abbrev cX7_count : ByteArray := prog_9_method_80_code
def yX7_count : MethodName := ⟨RX7, "count", "(I)I"⟩
abbrev cX7_status : ByteArray := prog_9_method_81_code
def yX7_status : MethodName := ⟨RX7, "status", "()I"⟩
def RJ6 : String := "java/lang/Integer"
def TJ6 : u_T := fun k => match k with
  | _ => ("", "", "", false)
def tyJ6 : Nat → FieldType := fun k => match k with
  | _ => .int
abbrev wsJ60 : List Cond := u_ws RJ6 TJ6 0
theorem nmJ6 : ∀ a, a < 0 → ∀ b, b < 0 → a ≠ b → (TJ6 a).2.1 ≠ (TJ6 b).2.1 := by decide +kernel
theorem tyJ6_ok : ∀ k, k < 0 → parseFieldDescriptor (TJ6 k).2.2.1 = some (tyJ6 k) := by decide +kernel
abbrev cJ6_bitCount_0f7a4 : ByteArray := prog_10_method_49_code
def yJ6_bitCount_0f7a4 : MethodName := ⟨RJ6, "bitCount", "(I)I"⟩
def RJ9 : String := "java/lang/Math"
def TJ9 : u_T := fun k => match k with
  | _ => ("", "", "", false)
def tyJ9 : Nat → FieldType := fun k => match k with
  | _ => .int
abbrev wsJ90 : List Cond := u_ws RJ9 TJ9 0
theorem nmJ9 : ∀ a, a < 0 → ∀ b, b < 0 → a ≠ b → (TJ9 a).2.1 ≠ (TJ9 b).2.1 := by decide +kernel
theorem tyJ9_ok : ∀ k, k < 0 → parseFieldDescriptor (TJ9 k).2.2.1 = some (tyJ9 k) := by decide +kernel
abbrev cJ9_floorMod_7cf53 : ByteArray := prog_11_method_50_code
def yJ9_floorMod_7cf53 : MethodName := ⟨RJ9, "floorMod", "(II)I"⟩
abbrev cJ9_abs_0f7a4 : ByteArray := prog_11_method_59_code
def yJ9_abs_0f7a4 : MethodName := ⟨RJ9, "abs", "(I)I"⟩
abbrev cJ9_max_7cf53 : ByteArray := prog_11_method_65_code
def yJ9_max_7cf53 : MethodName := ⟨RJ9, "max", "(II)I"⟩
abbrev cJ9_min_7cf53 : ByteArray := prog_11_method_69_code
def yJ9_min_7cf53 : MethodName := ⟨RJ9, "min", "(II)I"⟩
def RJ10 : String := "java/lang/System"
def TJ10 : u_T := fun k => match k with
  | _ => ("", "", "", false)
def tyJ10 : Nat → FieldType := fun k => match k with
  | _ => .int
abbrev wsJ100 : List Cond := u_ws RJ10 TJ10 0
theorem nmJ10 : ∀ a, a < 0 → ∀ b, b < 0 → a ≠ b → (TJ10 a).2.1 ≠ (TJ10 b).2.1 := by decide +kernel
theorem tyJ10_ok : ∀ k, k < 0 → parseFieldDescriptor (TJ10 k).2.2.1 = some (tyJ10 k) := by decide +kernel
def RJ7 : String := "java/util/Arrays"
def TJ7 : u_T := fun k => match k with
  | _ => ("", "", "", false)
def tyJ7 : Nat → FieldType := fun k => match k with
  | _ => .int
abbrev wsJ70 : List Cond := u_ws RJ7 TJ7 0
theorem nmJ7 : ∀ a, a < 0 → ∀ b, b < 0 → a ≠ b → (TJ7 a).2.1 ≠ (TJ7 b).2.1 := by decide +kernel
theorem tyJ7_ok : ∀ k, k < 0 → parseFieldDescriptor (TJ7 k).2.2.1 = some (tyJ7 k) := by decide +kernel
abbrev cJ7_fill_53178 : ByteArray := prog_13_method_103_code
def yJ7_fill_53178 : MethodName := ⟨RJ7, "fill", "([II)V"⟩
def RL : String := "NameNoonLaw"
abbrev cL_law : ByteArray := code
def yL_law : MethodName := ⟨RL, "law", "([I)Z"⟩
abbrev vwCl : List vw_C := [(RX0, TX0, 3), (RX1, TX1, 3), (RX2, TX2, 2), (RX3, TX3, 3), (RX4, TX4, 13), (RX5, TX5, 7), (RX6, TX6, 10), (RX7, TX7, 23)]
end
section
/-! ===== the ground: one world for all methods. zE: launch, class numbers, addresses, array classes, the static table's address ===== -/
abbrev zE : Type := Launch × va_G × (Nat → Nat) × (Nat → ClassId) × Nat
/-- a method: its name, bytes, locals, what it returns -/
abbrev zM : Type := MethodName × ByteArray × Nat × Option FieldType
/-- what the cells hold: squares (which, part, place), all else (cell, place) -/
abbrev zMem : Type := (Nat → Nat → Nat → Int32) × (Nat → Nat → Int32)
def zad (E : zE) : Nat → Nat := E.2.2.1
def zsq (j : Nat) : Nat := 5 * j
def zsa (j q : Nat) : Nat := 5 * j + q
def lw_good : List Cond := lw_tbl.filter goodWord
theorem lw_goodAt {w : Cond} (i : Nat) (h : lw_tbl[i]? = some w) (g : goodWord w = true) : w ∈ lw_good := List.mem_filter.mpr ⟨List.mem_of_getElem? h, g⟩
theorem lw_goodGood : ∀ w ∈ lw_good, (w.onTables && w.keeps) = true ∨ ∃ ty, w = .arrayClass ty := fun w h => good_of_word (List.mem_filter.mp h).2
def zisN : Cond → Bool
  | .fieldLinkNest _ _ _ _ _ _ => true
  | .methodLinkNest _ _ _ _ => true
  | _ => false
/-- the cells that are no square's -/
def zce2 (E : zE) (Z : Nat → Nat → Int32) (a : Nat) : va_E := match a with
  | 145 => .inr (6, [.ref (zad E 146), .ref (zad E 158), .ref (zad E (zsq 1)), .ref (zad E 160), .ref (zad E (zsq 2)), .ref (zad E (zsq 3)), .ref (zad E 162), .ref (zad E 163), .int (Z 145 8), .int (Z 145 9)])
  | 146 => .inr (3, [.ref (zad E 147), .ref (zad E 156), .ref (zad E 157)])
  | 147 => .inl (E.2.2.2.1 2, 8, .inr (.inr (.inr (.inr (fun i => some (zad E (148 + i)))))))
  | 156 => .inl (E.2.2.2.1 0, 8, .inl (Z 156))
  | 157 => .inl (E.2.2.2.1 0, 8, .inl (Z 157))
  | 158 => .inr (5, [.ref (zad E 159), .int (Z 158 1), .ref (zad E (zsq 0)), .int (Z 158 3), .int (Z 158 4), .int (Z 158 5), .int (Z 158 6)])
  | 159 => .inl (E.2.2.2.1 0, 90, .inl (Z 159))
  | 160 => .inr (0, [.ref (zad E 161), .int (Z 160 1), .int (Z 160 2)])
  | 161 => .inl (E.2.2.2.1 1, 24, .inr (.inr (.inr (.inr (fun i => some (zad E (zsq (5 + i))))))))
  | 162 => .inr (2, [.ref (zad E (zsq 1)), .ref (zad E (zsq 4))])
  | 163 => .inr (1, [.ref (zad E (zsq 1)), .ref (zad E 164), .int (Z 163 2)])
  | 164 => .inl (E.2.2.2.1 0, 16, .inl (Z 164))
  | 165 => .inr (7, [.int (Z 165 0), .int (Z 165 1), .ref (zad E 166), .ref (zad E 167), .ref (zad E 168), .ref (zad E 169), .ref (zad E 170), .ref (zad E 171), .ref (zad E 172), .int (Z 165 9), .ref (zad E 173), .int (Z 165 11), .int (Z 165 12), .int (Z 165 13), .int (Z 165 14), .int (Z 165 15), .int (Z 165 16), .int (Z 165 17), .int (Z 165 18), .ref (zad E 174), .ref (zad E 175), .ref (zad E 176), .int (Z 165 22)])
  | 166 => .inl (E.2.2.2.1 0, 8, .inl (Z 166))
  | 167 => .inl (E.2.2.2.1 0, 8, .inl (Z 167))
  | 168 => .inl (E.2.2.2.1 0, 320, .inl (Z 168))
  | 169 => .inl (E.2.2.2.1 0, 36, .inl (Z 169))
  | 170 => .inl (E.2.2.2.1 0, 36, .inl (Z 170))
  | 171 => .inl (E.2.2.2.1 0, 36, .inl (Z 171))
  | 172 => .inl (E.2.2.2.1 0, 864, .inl (Z 172))
  | 173 => .inl (E.2.2.2.1 0, 90, .inl (Z 173))
  | 174 => .inl (E.2.2.2.1 3, 2, .inl (Z 174))
  | 175 => .inl (E.2.2.2.1 0, 72, .inl (Z 175))
  | 176 => .inl (E.2.2.2.1 0, 16, .inl (Z 176))
  | b => .inl (E.2.2.2.1 0, 40, .inl (Z b))
def zce (E : zE) (M : zMem) (a : Nat) : va_E :=
  if a < 145 then
    if a % 5 = 0 then .inr (4, [.int (M.1 (a / 5) 0 0), .int (M.1 (a / 5) 0 1), .int (M.1 (a / 5) 0 2), .int (M.1 (a / 5) 0 3), .int (M.1 (a / 5) 0 4), .int (M.1 (a / 5) 0 5), .int (M.1 (a / 5) 0 6), .int (M.1 (a / 5) 0 7), .int (M.1 (a / 5) 0 8), .ref (zad E (a + 1)), .ref (zad E (a + 2)), .ref (zad E (a + 3)), .ref (zad E (a + 4))])
    else .inl (E.2.2.2.1 0, 6, .inl (M.1 (a / 5) (a % 5)))
  else zce2 E M.2 a
def zwl (E : zE) (M : zMem) : va_W := (List.range 177).map fun a => (zad E a, zce E M a)
theorem zwl_at (E : zE) (M : zMem) {a : Nat} (h : a < 177) : (zwl E M)[a]? = some (zad E a, zce E M a) := by
  simp [zwl, List.getElem?_map, List.getElem?_range, h]
theorem zwl_lt {E : zE} {M : zMem} {a : Nat} {q : Nat × va_E} (h : (zwl E M)[a]? = some q) : a < 177 := by
  have := (List.getElem?_eq_some_iff.mp h).1
  simpa [zwl] using this
theorem zwl_set {E : zE} {M M1 : zMem} {a : Nat} {x : va_E} (h : a < 177) (hx : zce E M1 a = x) (ho : ∀ b, b ≠ a → zce E M1 b = zce E M b) : (zwl E M).set a (zad E a, x) = zwl E M1 := by
  apply List.ext_getElem?
  intro k
  by_cases hk : k = a
  · subst hk
    rw [List.getElem?_set_self (by simpa [zwl] using h), zwl_at E M1 h, hx]
  · rw [List.getElem?_set_ne (Ne.symm hk)]
    by_cases hl : k < 177
    · rw [zwl_at E M hl, zwl_at E M1 hl, ho k hk]
    · simp [zwl, hl]
theorem zce_sq (E : zE) (M : zMem) {j : Nat} (h : j < 29) : zce E M (zsq j) = .inr (4, [.int (M.1 j 0 0), .int (M.1 j 0 1), .int (M.1 j 0 2), .int (M.1 j 0 3), .int (M.1 j 0 4), .int (M.1 j 0 5), .int (M.1 j 0 6), .int (M.1 j 0 7), .int (M.1 j 0 8), .ref (zad E (zsa j 1)), .ref (zad E (zsa j 2)), .ref (zad E (zsa j 3)), .ref (zad E (zsa j 4))]) := by
  unfold zce zsq zsa
  rw [if_pos (by omega), if_pos (by omega), show 5 * j / 5 = j by omega]
theorem zce_sa (E : zE) (M : zMem) {j q : Nat} (h : j < 29) (h1 : 0 < q) (h2 : q < 5) : zce E M (zsa j q) = .inl (E.2.2.2.1 0, 6, .inl (M.1 j q)) := by
  unfold zce zsa
  rw [if_pos (by omega), if_neg (by omega), show (5 * j + q) / 5 = j by omega, show (5 * j + q) % 5 = q by omega]
theorem zce_o (E : zE) (M : zMem) {a : Nat} (h : 145 ≤ a) : zce E M a = zce2 E M.2 a := by
  unfold zce
  rw [if_neg (by omega)]
theorem zce2_row (E : zE) (Z : Nat → Nat → Int32) {i : Nat} (h : i < 8) : zce2 E Z (148 + i) = .inl (E.2.2.2.1 0, 40, .inl (Z (148 + i))) := by
  match i, h with
  | 0, _ => rfl
  | 1, _ => rfl
  | 2, _ => rfl
  | 3, _ => rfl
  | 4, _ => rfl
  | 5, _ => rfl
  | 6, _ => rfl
  | 7, _ => rfl
/-- a cell's content depends on its own row alone -/
theorem zce_sqOther {E : zE} {M M1 : zMem} {j : Nat} (h1 : ∀ i, i ≠ j → M1.1 i = M.1 i) (h2 : M1.2 = M.2) {b : Nat} (hb : b / 5 ≠ j ∨ 145 ≤ b) : zce E M1 b = zce E M b := by
  unfold zce
  by_cases hl : b < 145
  · have hj : b / 5 ≠ j := by omega
    rw [if_pos hl, if_pos hl, h1 _ hj]
  · rw [if_neg hl, if_neg hl, h2]
theorem zce2_other {E : zE} {Z Z1 : Nat → Nat → Int32} {a : Nat} (h1 : ∀ i, i ≠ a → Z1 i = Z i) {b : Nat} (hb : b ≠ a) : zce2 E Z1 b = zce2 E Z b := by
  unfold zce2
  split <;> first | rfl | (rw [h1 _ hb])
theorem zce_oOther {E : zE} {M M1 : zMem} {a : Nat} (ha : 145 ≤ a) (h1 : ∀ i, i ≠ a → M1.2 i = M.2 i) (h2 : M1.1 = M.1) {b : Nat} (hb : b ≠ a) : zce E M1 b = zce E M b := by
  unfold zce
  rw [h2, zce2_other h1 hb]
def zA (E : zE) : Nat → Prop := fun q => ∃ k, k < 177 ∧ q = zad E k
def ztys (E : zE) : List (ClassId × FieldType) := [(E.2.2.2.1 0, .int), (E.2.2.2.1 1, .object "NameNoon$Square"), (E.2.2.2.1 2, .array .int), (E.2.2.2.1 3, .boolean)]
def zkn (j : Nat) : Int32 := match j with
  | 0 => 0
  | 1 => 0
  | 2 => 1
  | 3 => 1
  | 4 => 0
  | _ => 4
/-- what stays through a call: classes, addresses apart, nest words, the static table -/
def zW (E : zE) (U : State) : Prop := va_K E.2.1 vwCl (ztys E) U ∧ (∀ i j : Nat, i < 177 → j < 177 → zad E i = zad E j → i = j) ∧ (∀ w ∈ lw_tbl, zisN w = true → va_Nw w U) ∧ va_Z "NameNoon" "KIND_ABOVE" "[I" (.ref E.2.2.2.2) (zA E) U U.heap ∧ va_T .int E.2.2.2.2 6 (fun j => .int (zkn j)) (zA E) U U.heap
theorem zD_of {E : zE} (h : ∀ i j : Nat, i < 177 → j < 177 → zad E i = zad E j → i = j) (M : zMem) : va_D (zA E) (zwl E M) := by
  refine ⟨fun i j p q hi hj hpq => ?_, fun k q hk => ?_⟩
  · have l1 := zwl_lt hi
    have l2 := zwl_lt hj
    rw [zwl_at E M l1] at hi
    rw [zwl_at E M l2] at hj
    cases hi
    cases hj
    exact h i j l1 l2 hpq
  · have l1 := zwl_lt hk
    rw [zwl_at E M l1] at hk
    cases hk
    exact ⟨k, l1, rfl⟩
theorem zNw_warm {w : Cond} (hw : zisN w = true) {s U : State} (hW : s.WarmedH U.vm) (h : va_Nw w s) : va_Nw w U := by
  cases w <;> first | exact va_Nw.warmF hW h | exact va_Nw.warmM hW h | (cases hw)
theorem zNw_same {w : Cond} (hw : zisN w = true) {s U : State} (hv : s.vm = U.vm) (h : va_Nw w s) : va_Nw w U := by
  cases w <;> first | exact va_Nw.same rfl hv h | (cases hw)
/-- the standing facts, carried to a callee's start -/
theorem zW.to {E : zE} {s U : State} {H : Heap} {locs : List Loc} (h : zW E s) (hS : va_S (zA E) s.heap H locs) (hU : U.heap = H) (hW : s.WarmedH U.vm) : zW E U := by
  obtain ⟨h1, h2, h3, h4, h5⟩ := h
  refine ⟨va_K.moved hW.alike h1, h2, fun w hw hn => zNw_warm hn hW (h3 w hw hn), ?_, ?_⟩
  · rw [hU]; exact (h4.moved hW.alike).kept hS.2.1
  · rw [hU]; exact (h5.moved hW.alike).kept hS.2.1
theorem zW.blind {E : zE} {U : State} {a : Array Value} {g : JFrame} {mk : MethodId} (h : zW E U) : zW E (U.calling g mk a) := by
  obtain ⟨h1, h2, h3, h4, h5⟩ := h
  exact ⟨va_K.moved (u := U) (U := U.calling g mk a) (Vm.Alike.refl U.vm) h1, h2, fun w hw hn => zNw_same (s := U) (U := U.calling g mk a) hn (rfl : U.vm = (U.calling g mk a).vm) (h3 w hw hn), va_Z.moved (u := U) (U := U.calling g mk a) (Vm.Alike.refl U.vm) h4, va_T.moved (u := U) (U := U.calling g mk a) (Vm.Alike.refl U.vm) h5⟩
def zrm (d : Nat) : Room := { frames := d, cells := 0, slots := 0, locals := 64 * d }
def zQ (E : zE) (rv : Option Value) (M1 : zMem) : Array Value → State → Outcome → State → Prop := fun _ st oc t => oc = .returned rv ∧ va_P E.2.1 vwCl (zwl E M1) t.heap ∧ va_F (zA E) st t
/-- a method's words -/
def zws (mi : zM) : List Cond := .code mi.1 mi.2.1 mi.2.2.1 mi.2.2.2 :: lw_good
/-- A CONTRACT: called with av, the cells holding M, it returns rv, the cells holding M1; at most d frames -/
def zCT (E : zE) (d : Nat) (mi : zM) (av : List Value) (M : zMem) (rv : Option Value) (M1 : zMem) : Prop :=
  Met E.1 mi.1 (zws mi) (zrm d) (va_Pc av (fun U => va_P E.2.1 vwCl (zwl E M) U.heap ∧ zW E U)) (zQ E rv M1) 0 0 (zA E)
def zCx (E : zE) (mi : zM) (p : Program) (s : State) (m : MethodId) (args : Array Value) (meth : Method) (c : Code) : Prop :=
  p.tables.exec = Jvm.exec ∧ c.code = mi.2.1 ∧ meth.sig.returnType = mi.2.2.2 ∧ c.maxLocals = mi.2.2.1 ∧ s.vm.findClass mi.1.cls = some m.cls ∧ (∀ w ∈ lw_good, w.before args s = true) ∧ meth.locks = false ∧ zW E s
def zlo (ls : Array Slot) (nL : Nat) (lo : List (Option Value)) : Prop := ls.size = nL ∧ lv_wf ls ∧ ∀ (i : Nat) (v : Value), lo[i]? = some (some v) → ls[i]? = some (.val v)
/-- THE JUDGEMENT: from here the method comes to its end with rv and M1 -/
def zG (E : zE) (mi : zM) (d : Nat) (rv : Option Value) (M1 : zMem) (pc : Nat) (lo : List (Option Value)) (st : List Value) (M : zMem) : Prop :=
  ∀ (p : Program) (e : Env) (s : State) (m : MethodId) (args : Array Value) (below : List Frame) (meth : Method) (c : Code) (H : Heap) (locs : List Loc) (ls : Array Slot), zCx E mi p s m args meth c → va_P E.2.1 vwCl (zwl E M) H → va_S (zA E) s.heap H locs → zlo ls mi.2.2.1 lo → W p E.1 e (zrm d) s m args below meth c H locs 0 0 (MQ below (zQ E rv M1) args s 0 0 (zA E)) (F0 m pc ls st)
def zll : Nat → List (Option Value) → List (Nat × Value)
  | _, [] => []
  | i, none :: t => zll (i + 1) t
  | i, some v :: t => (i, v) :: zll (i + 1) t
theorem zll_mem : ∀ (lo : List (Option Value)) (i : Nat) (q : Nat × Value), q ∈ zll i lo → ∃ j, q.1 = i + j ∧ lo[j]? = some (some q.2)
  | [], i, q, h => by simp [zll] at h
  | none :: t, i, q, h => by
    obtain ⟨j, h1, h2⟩ := zll_mem t (i + 1) q h
    exact ⟨j + 1, by omega, by simpa using h2⟩
  | some v :: t, i, q, h => by
    rcases List.mem_cons.mp h with rfl | h
    · exact ⟨0, rfl, rfl⟩
    · obtain ⟨j, h1, h2⟩ := zll_mem t (i + 1) q h
      exact ⟨j + 1, by omega, by simpa using h2⟩
theorem zll_of : ∀ (lo : List (Option Value)) (i j : Nat) (v : Value), lo[j]? = some (some v) → (i + j, v) ∈ zll i lo
  | [], i, j, v, h => by simp at h
  | none :: t, i, 0, v, h => by simp at h
  | none :: t, i, j + 1, v, h => by
    have := zll_of t (i + 1) j v (by simpa using h)
    rw [show i + (j + 1) = i + 1 + j by omega]
    exact this
  | some w :: t, i, 0, v, h => by
    have e : w = v := by simpa using h
    subst e
    exact List.mem_cons_self
  | some w :: t, i, j + 1, v, h => by
    have := zll_of t (i + 1) j v (by simpa using h)
    rw [show i + (j + 1) = i + 1 + j by omega]
    exact List.mem_cons_of_mem _ this
theorem zlo.has {ls : Array Slot} {nL : Nat} {lo : List (Option Value)} (h : zlo ls nL lo) : lv_has ls nL (zll 0 lo) := by
  refine ⟨h.1, h.2.1, fun q hq => ?_⟩
  obtain ⟨j, h1, h2⟩ := zll_mem lo 0 q hq
  rw [show q.1 = j by omega]
  exact h.2.2 j q.2 h2
/-- the local ahead of i is no long -/
def zpv (lo : List (Option Value)) (i : Nat) : Bool := match i with
  | 0 => true
  | k + 1 => match lo[k]? with
    | some (some w) => w.category == 1
    | _ => true
theorem zpv_use {lo : List (Option Value)} {i k : Nat} {w : Value} (h : zpv lo i = true) (hk : k + 1 = i) (hw : lo[k]? = some (some w)) : ¬ w.category = 2 := by
  subst hk
  simp only [zpv, hw] at h
  have : w.category = 1 := by simpa using h
  omega
theorem zlo_store1 {ls : Array Slot} {nL i : Nat} {lo : List (Option Value)} {v : Value} (hp : zpv lo i = true) (h : lv_has ls nL ((i, v) :: (zll 0 lo).filter (fun q => !(q.1 == i) && !(q.1 + 1 == i && q.2.category == 2)))) : zlo ls nL (lo.set i (some v)) := by
  refine ⟨h.1, h.2.1, fun k w hk => ?_⟩
  by_cases e : k = i
  · subst e
    by_cases hl : k < lo.length
    · rw [List.getElem?_set_self hl] at hk
      have e2 : v = w := by simpa using hk
      subst e2
      exact h.2.2 _ List.mem_cons_self
    · rw [List.getElem?_eq_none (by simpa using hl)] at hk
      cases hk
  · rw [List.getElem?_set_ne (Ne.symm e)] at hk
    refine h.2.2 (k, w) (List.mem_cons_of_mem _ (List.mem_filter.mpr ⟨?_, ?_⟩))
    · have := zll_of lo 0 k w hk
      rwa [Nat.zero_add] at this
    · by_cases e2 : k + 1 = i
      · simp [e, e2, zpv_use hp e2 hk]
      · simp [e, e2]
theorem zlo_store2 {ls : Array Slot} {nL i : Nat} {lo : List (Option Value)} {v : Value} (hp : zpv lo i = true) (h : lv_has ls nL ((i, v) :: (zll 0 lo).filter (fun q => !(q.1 == i) && (!(q.1 == i + 1) && !(q.1 + 1 == i && q.2.category == 2))))) : zlo ls nL ((lo.set i (some v)).set (i + 1) none) := by
  refine ⟨h.1, h.2.1, fun k w hk => ?_⟩
  by_cases e1 : k = i + 1
  · subst e1
    by_cases hl : i + 1 < (lo.set i (some v)).length
    · rw [List.getElem?_set_self hl] at hk
      simp at hk
    · rw [List.getElem?_eq_none (by simpa using hl)] at hk
      cases hk
  · rw [List.getElem?_set_ne (Ne.symm e1)] at hk
    by_cases e : k = i
    · subst e
      by_cases hl : k < lo.length
      · rw [List.getElem?_set_self hl] at hk
        have e2 : v = w := by simpa using hk
        subst e2
        exact h.2.2 _ List.mem_cons_self
      · rw [List.getElem?_eq_none (by simpa using hl)] at hk
        cases hk
    · rw [List.getElem?_set_ne (Ne.symm e)] at hk
      refine h.2.2 (k, w) (List.mem_cons_of_mem _ (List.mem_filter.mpr ⟨?_, ?_⟩))
      · have := zll_of lo 0 k w hk
        rwa [Nat.zero_add] at this
      · by_cases e2 : k + 1 = i
        · simp [e, e1, e2, zpv_use hp e2 hk]
        · simp [e, e1, e2]
end
section
/-! ===== rules of the judgement: instructions that leave the heap alone ===== -/
def zb (c : Prop) [Decidable c] : Int32 := if c then 1 else 0
section ZR
variable {E : zE} {mi : zM} {d : Nat} {rv : Option Value} {M1 M : zMem} {pc n : Nat} {lo lo1 : List (Option Value)} {st : List Value}
theorem zi_iadd {x y : Int32} (hd : decode mi.2.1 pc = .ok (.iadd, 1)) (hn : pc + 1 = n) (k : zG E mi d rv M1 n lo (.int (x + y) :: st) M) : zG E mi d rv M1 pc lo (.int y :: .int x :: st) M := by
  subst hn; intro p e s m args below meth c H locs ls C hP hS hl
  exact lv_iadd C.1 C.2.1 hd  (k p e s m args below meth c H locs ls C hP hS hl)
theorem zi_isub {x y : Int32} (hd : decode mi.2.1 pc = .ok (.isub, 1)) (hn : pc + 1 = n) (k : zG E mi d rv M1 n lo (.int (x - y) :: st) M) : zG E mi d rv M1 pc lo (.int y :: .int x :: st) M := by
  subst hn; intro p e s m args below meth c H locs ls C hP hS hl
  exact lv_isub C.1 C.2.1 hd  (k p e s m args below meth c H locs ls C hP hS hl)
theorem zi_imul {x y : Int32} (hd : decode mi.2.1 pc = .ok (.imul, 1)) (hn : pc + 1 = n) (k : zG E mi d rv M1 n lo (.int (x * y) :: st) M) : zG E mi d rv M1 pc lo (.int y :: .int x :: st) M := by
  subst hn; intro p e s m args below meth c H locs ls C hP hS hl
  exact lv_imul C.1 C.2.1 hd  (k p e s m args below meth c H locs ls C hP hS hl)
theorem zi_iand {x y : Int32} (hd : decode mi.2.1 pc = .ok (.iand, 1)) (hn : pc + 1 = n) (k : zG E mi d rv M1 n lo (.int (x &&& y) :: st) M) : zG E mi d rv M1 pc lo (.int y :: .int x :: st) M := by
  subst hn; intro p e s m args below meth c H locs ls C hP hS hl
  exact lv_iand C.1 C.2.1 hd  (k p e s m args below meth c H locs ls C hP hS hl)
theorem zi_ior {x y : Int32} (hd : decode mi.2.1 pc = .ok (.ior, 1)) (hn : pc + 1 = n) (k : zG E mi d rv M1 n lo (.int (x ||| y) :: st) M) : zG E mi d rv M1 pc lo (.int y :: .int x :: st) M := by
  subst hn; intro p e s m args below meth c H locs ls C hP hS hl
  exact lv_ior C.1 C.2.1 hd  (k p e s m args below meth c H locs ls C hP hS hl)
theorem zi_ixor {x y : Int32} (hd : decode mi.2.1 pc = .ok (.ixor, 1)) (hn : pc + 1 = n) (k : zG E mi d rv M1 n lo (.int (x ^^^ y) :: st) M) : zG E mi d rv M1 pc lo (.int y :: .int x :: st) M := by
  subst hn; intro p e s m args below meth c H locs ls C hP hS hl
  exact lv_ixor C.1 C.2.1 hd  (k p e s m args below meth c H locs ls C hP hS hl)
theorem zi_ladd {x y : Int64} (hd : decode mi.2.1 pc = .ok (.ladd, 1)) (hn : pc + 1 = n) (k : zG E mi d rv M1 n lo (.long (x + y) :: st) M) : zG E mi d rv M1 pc lo (.long y :: .long x :: st) M := by
  subst hn; intro p e s m args below meth c H locs ls C hP hS hl
  exact lv_ladd C.1 C.2.1 hd  (k p e s m args below meth c H locs ls C hP hS hl)
theorem zi_lsub {x y : Int64} (hd : decode mi.2.1 pc = .ok (.lsub, 1)) (hn : pc + 1 = n) (k : zG E mi d rv M1 n lo (.long (x - y) :: st) M) : zG E mi d rv M1 pc lo (.long y :: .long x :: st) M := by
  subst hn; intro p e s m args below meth c H locs ls C hP hS hl
  exact lv_lsub C.1 C.2.1 hd  (k p e s m args below meth c H locs ls C hP hS hl)
theorem zi_lmul {x y : Int64} (hd : decode mi.2.1 pc = .ok (.lmul, 1)) (hn : pc + 1 = n) (k : zG E mi d rv M1 n lo (.long (x * y) :: st) M) : zG E mi d rv M1 pc lo (.long y :: .long x :: st) M := by
  subst hn; intro p e s m args below meth c H locs ls C hP hS hl
  exact lv_lmul C.1 C.2.1 hd  (k p e s m args below meth c H locs ls C hP hS hl)
theorem zi_idiv {x y : Int32} (hd : decode mi.2.1 pc = .ok (.idiv, 1)) (hn : pc + 1 = n) (h : ¬ y = 0) (k : zG E mi d rv M1 n lo (.int (x / y) :: st) M) : zG E mi d rv M1 pc lo (.int y :: .int x :: st) M := by
  subst hn; intro p e s m args below meth c H locs ls C hP hS hl
  exact lv_idiv C.1 C.2.1 hd h (k p e s m args below meth c H locs ls C hP hS hl)
theorem zi_irem {x y : Int32} (hd : decode mi.2.1 pc = .ok (.irem, 1)) (hn : pc + 1 = n) (h : ¬ y = 0) (k : zG E mi d rv M1 n lo (.int (x - x / y * y) :: st) M) : zG E mi d rv M1 pc lo (.int y :: .int x :: st) M := by
  subst hn; intro p e s m args below meth c H locs ls C hP hS hl
  exact lv_irem C.1 C.2.1 hd h (k p e s m args below meth c H locs ls C hP hS hl)
theorem zi_ldiv {x y : Int64} (hd : decode mi.2.1 pc = .ok (.ldiv, 1)) (hn : pc + 1 = n) (h : ¬ y = 0) (k : zG E mi d rv M1 n lo (.long (x / y) :: st) M) : zG E mi d rv M1 pc lo (.long y :: .long x :: st) M := by
  subst hn; intro p e s m args below meth c H locs ls C hP hS hl
  exact lv_ldiv C.1 C.2.1 hd h (k p e s m args below meth c H locs ls C hP hS hl)
theorem zi_lrem {x y : Int64} (hd : decode mi.2.1 pc = .ok (.lrem, 1)) (hn : pc + 1 = n) (h : ¬ y = 0) (k : zG E mi d rv M1 n lo (.long (x - x / y * y) :: st) M) : zG E mi d rv M1 pc lo (.long y :: .long x :: st) M := by
  subst hn; intro p e s m args below meth c H locs ls C hP hS hl
  exact lv_lrem C.1 C.2.1 hd h (k p e s m args below meth c H locs ls C hP hS hl)
theorem zi_ineg {x : Int32} (hd : decode mi.2.1 pc = .ok (.ineg, 1)) (hn : pc + 1 = n) (k : zG E mi d rv M1 n lo (.int (-x) :: st) M) : zG E mi d rv M1 pc lo (.int x :: st) M := by
  subst hn; intro p e s m args below meth c H locs ls C hP hS hl
  exact lv_ineg C.1 C.2.1 hd  (k p e s m args below meth c H locs ls C hP hS hl)
theorem zi_ishl {x y : Int32} (hd : decode mi.2.1 pc = .ok (.ishl, 1)) (hn : pc + 1 = n) (k : zG E mi d rv M1 n lo (.int (x <<< (y &&& 31)) :: st) M) : zG E mi d rv M1 pc lo (.int y :: .int x :: st) M := by
  subst hn; intro p e s m args below meth c H locs ls C hP hS hl
  exact lv_ishl C.1 C.2.1 hd  (k p e s m args below meth c H locs ls C hP hS hl)
theorem zi_ishr {x y : Int32} (hd : decode mi.2.1 pc = .ok (.ishr, 1)) (hn : pc + 1 = n) (k : zG E mi d rv M1 n lo (.int (x >>> (y &&& 31)) :: st) M) : zG E mi d rv M1 pc lo (.int y :: .int x :: st) M := by
  subst hn; intro p e s m args below meth c H locs ls C hP hS hl
  exact lv_ishr C.1 C.2.1 hd  (k p e s m args below meth c H locs ls C hP hS hl)
theorem zi_iushr {x y : Int32} (hd : decode mi.2.1 pc = .ok (.iushr, 1)) (hn : pc + 1 = n) (k : zG E mi d rv M1 n lo (.int ((x.toUInt32 >>> (y.toUInt32 &&& Int32.toUInt32 31)).toInt32) :: st) M) : zG E mi d rv M1 pc lo (.int y :: .int x :: st) M := by
  subst hn; intro p e s m args below meth c H locs ls C hP hS hl
  exact lv_iushr C.1 C.2.1 hd rfl (k p e s m args below meth c H locs ls C hP hS hl)
theorem zi_i2l {x : Int32} (hd : decode mi.2.1 pc = .ok (.i2l, 1)) (hn : pc + 1 = n) (k : zG E mi d rv M1 n lo (.long x.toInt64 :: st) M) : zG E mi d rv M1 pc lo (.int x :: st) M := by
  subst hn; intro p e s m args below meth c H locs ls C hP hS hl
  exact lv_i2l C.1 C.2.1 hd rfl (k p e s m args below meth c H locs ls C hP hS hl)
theorem zi_l2i {x : Int64} (hd : decode mi.2.1 pc = .ok (.l2i, 1)) (hn : pc + 1 = n) (k : zG E mi d rv M1 n lo (.int x.toInt32 :: st) M) : zG E mi d rv M1 pc lo (.long x :: st) M := by
  subst hn; intro p e s m args below meth c H locs ls C hP hS hl
  exact lv_l2i C.1 C.2.1 hd rfl (k p e s m args below meth c H locs ls C hP hS hl)
theorem zi_i2b {x : Int32} (hd : decode mi.2.1 pc = .ok (.i2b, 1)) (hn : pc + 1 = n) (k : zG E mi d rv M1 n lo (.int x.toInt8.toInt32 :: st) M) : zG E mi d rv M1 pc lo (.int x :: st) M := by
  subst hn; intro p e s m args below meth c H locs ls C hP hS hl
  exact lv_i2b C.1 C.2.1 hd rfl (k p e s m args below meth c H locs ls C hP hS hl)
theorem zi_i2s {x : Int32} (hd : decode mi.2.1 pc = .ok (.i2s, 1)) (hn : pc + 1 = n) (k : zG E mi d rv M1 n lo (.int x.toInt16.toInt32 :: st) M) : zG E mi d rv M1 pc lo (.int x :: st) M := by
  subst hn; intro p e s m args below meth c H locs ls C hP hS hl
  exact lv_i2s C.1 C.2.1 hd rfl (k p e s m args below meth c H locs ls C hP hS hl)
theorem zi_iconst {i : Int} (v : Int32) (hd : decode mi.2.1 pc = .ok (.iconst i, 1)) (hn : pc + 1 = n) (h : Int32.ofInt i = v) (k : zG E mi d rv M1 n lo (.int v :: st) M) : zG E mi d rv M1 pc lo st M := by
  subst hn; intro p e s m args below meth c H locs ls C hP hS hl
  exact lv_iconst C.1 C.2.1 hd h (k p e s m args below meth c H locs ls C hP hS hl)
theorem zi_bipush {i : Int} (v : Int32) (hd : decode mi.2.1 pc = .ok (.bipush i, 2)) (hn : pc + 2 = n) (h : (Int8.ofInt i).toInt32 = v) (k : zG E mi d rv M1 n lo (.int v :: st) M) : zG E mi d rv M1 pc lo st M := by
  subst hn; intro p e s m args below meth c H locs ls C hP hS hl
  exact lv_bipush C.1 C.2.1 hd h (k p e s m args below meth c H locs ls C hP hS hl)
theorem zi_sipush {i : Int} (v : Int32) (hd : decode mi.2.1 pc = .ok (.sipush i, 3)) (hn : pc + 3 = n) (h : (Int16.ofInt i).toInt32 = v) (k : zG E mi d rv M1 n lo (.int v :: st) M) : zG E mi d rv M1 pc lo st M := by
  subst hn; intro p e s m args below meth c H locs ls C hP hS hl
  exact lv_sipush C.1 C.2.1 hd h (k p e s m args below meth c H locs ls C hP hS hl)
theorem zi_lconst {i : Fin 2} (v : Int64) (hd : decode mi.2.1 pc = .ok (.lconst i, 1)) (hn : pc + 1 = n) (h : Int64.ofNat (i : Nat) = v) (k : zG E mi d rv M1 n lo (.long v :: st) M) : zG E mi d rv M1 pc lo st M := by
  subst hn; intro p e s m args below meth c H locs ls C hP hS hl
  exact lv_lconst C.1 C.2.1 hd h (k p e s m args below meth c H locs ls C hP hS hl)
theorem zi_dup {x : Value} (hd : decode mi.2.1 pc = .ok (.dup, 1)) (hn : pc + 1 = n) (h : x.category = 1) (k : zG E mi d rv M1 n lo (x :: x :: st) M) : zG E mi d rv M1 pc lo (x :: st) M := by
  subst hn; intro p e s m args below meth c H locs ls C hP hS hl
  exact lv_dup C.1 C.2.1 hd h (k p e s m args below meth c H locs ls C hP hS hl)
theorem zi_dup2 {x y : Value} (hd : decode mi.2.1 pc = .ok (.dup2, 1)) (hn : pc + 1 = n) (h : x.category = 1) (h2 : y.category = 1) (k : zG E mi d rv M1 n lo (x :: y :: x :: y :: st) M) : zG E mi d rv M1 pc lo (x :: y :: st) M := by
  subst hn; intro p e s m args below meth c H locs ls C hP hS hl
  exact lv_dup2_11 C.1 C.2.1 hd h h2 (k p e s m args below meth c H locs ls C hP hS hl)
theorem zi_lcmp {x y : Int64} (hd : decode mi.2.1 pc = .ok (.lcmp, 1)) (hn : pc + 1 = n) (k : zG E mi d rv M1 n lo (.int (lg_cmp x y) :: st) M) : zG E mi d rv M1 pc lo (.long y :: .long x :: st) M := by
  subst hn; intro p e s m args below meth c H locs ls C hP hS hl
  exact W.lcmp C.1 C.2.1 hd  (k p e s m args below meth c H locs ls C hP hS hl)
theorem zi_ldc {i : Nat} {v : Int32} (hd : decode mi.2.1 pc = .ok (.ldc i, 2)) (hn : pc + 2 = n) (h : Cond.constant mi.1.cls i v ∈ lw_good) (k : zG E mi d rv M1 n lo (.int v :: st) M) : zG E mi d rv M1 pc lo st M := by
  subst hn; intro p e s m args below meth c H locs ls C hP hS hl
  exact lv_ldc C.1 C.2.1 C.2.2.2.2.1 (C.2.2.2.2.2.1 _ h) hd (k p e s m args below meth c H locs ls C hP hS hl)
theorem zi_ldcw {i : Nat} {v : Int32} (hd : decode mi.2.1 pc = .ok (.ldc_w i, 3)) (hn : pc + 3 = n) (h : Cond.constant mi.1.cls i v ∈ lw_good) (k : zG E mi d rv M1 n lo (.int v :: st) M) : zG E mi d rv M1 pc lo st M := by
  subst hn; intro p e s m args below meth c H locs ls C hP hS hl
  exact lv_ldcw C.1 C.2.1 C.2.2.2.2.1 (C.2.2.2.2.2.1 _ h) hd (k p e s m args below meth c H locs ls C hP hS hl)
theorem zi_ldc2 {i : Nat} {v : Int64} (hd : decode mi.2.1 pc = .ok (.ldc2_w i, 3)) (hn : pc + 3 = n) (h : Cond.constantLong mi.1.cls i v ∈ lw_good) (k : zG E mi d rv M1 n lo (.long v :: st) M) : zG E mi d rv M1 pc lo st M := by
  subst hn; intro p e s m args below meth c H locs ls C hP hS hl
  exact lv_ldc2 C.1 C.2.1 C.2.2.2.2.1 (C.2.2.2.2.2.1 _ h) hd (k p e s m args below meth c H locs ls C hP hS hl)
theorem zi_ifeq {x : Int32} {off : Int} {tgt : Nat} (hd : decode mi.2.1 pc = .ok (.ifCond .eq off, 3)) (hn : pc + 3 = n) (ht : (pc : Int) + off = (tgt : Int)) (kt : x = 0 → zG E mi d rv M1 tgt lo st M) (kf : ¬ x = 0 → zG E mi d rv M1 n lo st M) : zG E mi d rv M1 pc lo (.int x :: st) M := by
  subst hn; intro p e s m args below meth c H locs ls C hP hS hl
  exact lv_if_eq C.1 C.2.1 hd ht (fun q => (kt q p e s m args below meth c H locs ls C hP hS hl)) (fun q => (kf q p e s m args below meth c H locs ls C hP hS hl))
theorem zi_ifne {x : Int32} {off : Int} {tgt : Nat} (hd : decode mi.2.1 pc = .ok (.ifCond .ne off, 3)) (hn : pc + 3 = n) (ht : (pc : Int) + off = (tgt : Int)) (kt : ¬ x = 0 → zG E mi d rv M1 tgt lo st M) (kf : x = 0 → zG E mi d rv M1 n lo st M) : zG E mi d rv M1 pc lo (.int x :: st) M := by
  subst hn; intro p e s m args below meth c H locs ls C hP hS hl
  exact lv_if_ne C.1 C.2.1 hd ht (fun q => (kt q p e s m args below meth c H locs ls C hP hS hl)) (fun q => (kf q p e s m args below meth c H locs ls C hP hS hl))
theorem zi_iflt {x : Int32} {off : Int} {tgt : Nat} (hd : decode mi.2.1 pc = .ok (.ifCond .lt off, 3)) (hn : pc + 3 = n) (ht : (pc : Int) + off = (tgt : Int)) (kt : x < 0 → zG E mi d rv M1 tgt lo st M) (kf : ¬ x < 0 → zG E mi d rv M1 n lo st M) : zG E mi d rv M1 pc lo (.int x :: st) M := by
  subst hn; intro p e s m args below meth c H locs ls C hP hS hl
  exact lv_if_lt C.1 C.2.1 hd ht (fun q => (kt q p e s m args below meth c H locs ls C hP hS hl)) (fun q => (kf q p e s m args below meth c H locs ls C hP hS hl))
theorem zi_ifge {x : Int32} {off : Int} {tgt : Nat} (hd : decode mi.2.1 pc = .ok (.ifCond .ge off, 3)) (hn : pc + 3 = n) (ht : (pc : Int) + off = (tgt : Int)) (kt : 0 ≤ x → zG E mi d rv M1 tgt lo st M) (kf : ¬ 0 ≤ x → zG E mi d rv M1 n lo st M) : zG E mi d rv M1 pc lo (.int x :: st) M := by
  subst hn; intro p e s m args below meth c H locs ls C hP hS hl
  exact lv_if_ge C.1 C.2.1 hd ht (fun q => (kt q p e s m args below meth c H locs ls C hP hS hl)) (fun q => (kf q p e s m args below meth c H locs ls C hP hS hl))
theorem zi_ifgt {x : Int32} {off : Int} {tgt : Nat} (hd : decode mi.2.1 pc = .ok (.ifCond .gt off, 3)) (hn : pc + 3 = n) (ht : (pc : Int) + off = (tgt : Int)) (kt : 0 < x → zG E mi d rv M1 tgt lo st M) (kf : ¬ 0 < x → zG E mi d rv M1 n lo st M) : zG E mi d rv M1 pc lo (.int x :: st) M := by
  subst hn; intro p e s m args below meth c H locs ls C hP hS hl
  exact lv_if_gt C.1 C.2.1 hd ht (fun q => (kt q p e s m args below meth c H locs ls C hP hS hl)) (fun q => (kf q p e s m args below meth c H locs ls C hP hS hl))
theorem zi_ifle {x : Int32} {off : Int} {tgt : Nat} (hd : decode mi.2.1 pc = .ok (.ifCond .le off, 3)) (hn : pc + 3 = n) (ht : (pc : Int) + off = (tgt : Int)) (kt : x ≤ 0 → zG E mi d rv M1 tgt lo st M) (kf : ¬ x ≤ 0 → zG E mi d rv M1 n lo st M) : zG E mi d rv M1 pc lo (.int x :: st) M := by
  subst hn; intro p e s m args below meth c H locs ls C hP hS hl
  exact lv_if_le C.1 C.2.1 hd ht (fun q => (kt q p e s m args below meth c H locs ls C hP hS hl)) (fun q => (kf q p e s m args below meth c H locs ls C hP hS hl))
theorem zi_iceq {x y : Int32} {off : Int} {tgt : Nat} (hd : decode mi.2.1 pc = .ok (.if_icmp .eq off, 3)) (hn : pc + 3 = n) (ht : (pc : Int) + off = (tgt : Int)) (kt : x = y → zG E mi d rv M1 tgt lo st M) (kf : ¬ x = y → zG E mi d rv M1 n lo st M) : zG E mi d rv M1 pc lo (.int y :: .int x :: st) M := by
  subst hn; intro p e s m args below meth c H locs ls C hP hS hl
  exact lv_icmp_eq C.1 C.2.1 hd ht (fun q => (kt q p e s m args below meth c H locs ls C hP hS hl)) (fun q => (kf q p e s m args below meth c H locs ls C hP hS hl))
theorem zi_icne {x y : Int32} {off : Int} {tgt : Nat} (hd : decode mi.2.1 pc = .ok (.if_icmp .ne off, 3)) (hn : pc + 3 = n) (ht : (pc : Int) + off = (tgt : Int)) (kt : ¬ x = y → zG E mi d rv M1 tgt lo st M) (kf : x = y → zG E mi d rv M1 n lo st M) : zG E mi d rv M1 pc lo (.int y :: .int x :: st) M := by
  subst hn; intro p e s m args below meth c H locs ls C hP hS hl
  exact lv_icmp_ne C.1 C.2.1 hd ht (fun q => (kt q p e s m args below meth c H locs ls C hP hS hl)) (fun q => (kf q p e s m args below meth c H locs ls C hP hS hl))
theorem zi_iclt {x y : Int32} {off : Int} {tgt : Nat} (hd : decode mi.2.1 pc = .ok (.if_icmp .lt off, 3)) (hn : pc + 3 = n) (ht : (pc : Int) + off = (tgt : Int)) (kt : x < y → zG E mi d rv M1 tgt lo st M) (kf : ¬ x < y → zG E mi d rv M1 n lo st M) : zG E mi d rv M1 pc lo (.int y :: .int x :: st) M := by
  subst hn; intro p e s m args below meth c H locs ls C hP hS hl
  exact lv_icmp_lt C.1 C.2.1 hd ht (fun q => (kt q p e s m args below meth c H locs ls C hP hS hl)) (fun q => (kf q p e s m args below meth c H locs ls C hP hS hl))
theorem zi_icge {x y : Int32} {off : Int} {tgt : Nat} (hd : decode mi.2.1 pc = .ok (.if_icmp .ge off, 3)) (hn : pc + 3 = n) (ht : (pc : Int) + off = (tgt : Int)) (kt : y ≤ x → zG E mi d rv M1 tgt lo st M) (kf : ¬ y ≤ x → zG E mi d rv M1 n lo st M) : zG E mi d rv M1 pc lo (.int y :: .int x :: st) M := by
  subst hn; intro p e s m args below meth c H locs ls C hP hS hl
  exact lv_icmp_ge C.1 C.2.1 hd ht (fun q => (kt q p e s m args below meth c H locs ls C hP hS hl)) (fun q => (kf q p e s m args below meth c H locs ls C hP hS hl))
theorem zi_icgt {x y : Int32} {off : Int} {tgt : Nat} (hd : decode mi.2.1 pc = .ok (.if_icmp .gt off, 3)) (hn : pc + 3 = n) (ht : (pc : Int) + off = (tgt : Int)) (kt : y < x → zG E mi d rv M1 tgt lo st M) (kf : ¬ y < x → zG E mi d rv M1 n lo st M) : zG E mi d rv M1 pc lo (.int y :: .int x :: st) M := by
  subst hn; intro p e s m args below meth c H locs ls C hP hS hl
  exact lv_icmp_gt C.1 C.2.1 hd ht (fun q => (kt q p e s m args below meth c H locs ls C hP hS hl)) (fun q => (kf q p e s m args below meth c H locs ls C hP hS hl))
theorem zi_icle {x y : Int32} {off : Int} {tgt : Nat} (hd : decode mi.2.1 pc = .ok (.if_icmp .le off, 3)) (hn : pc + 3 = n) (ht : (pc : Int) + off = (tgt : Int)) (kt : x ≤ y → zG E mi d rv M1 tgt lo st M) (kf : ¬ x ≤ y → zG E mi d rv M1 n lo st M) : zG E mi d rv M1 pc lo (.int y :: .int x :: st) M := by
  subst hn; intro p e s m args below meth c H locs ls C hP hS hl
  exact lv_icmp_le C.1 C.2.1 hd ht (fun q => (kt q p e s m args below meth c H locs ls C hP hS hl)) (fun q => (kf q p e s m args below meth c H locs ls C hP hS hl))
theorem zi_goto {off : Int} {tgt : Nat} (hd : decode mi.2.1 pc = .ok (.goto off, 3)) (ht : (pc : Int) + off = (tgt : Int)) (k : zG E mi d rv M1 tgt lo st M) : zG E mi d rv M1 pc lo st M := by
  intro p e s m args below meth c H locs ls C hP hS hl
  exact lv_goto C.1 C.2.1 hd ht (k p e s m args below meth c H locs ls C hP hS hl)
theorem zi_tableOut {dflt a b : Int} {offs : Array Int} {len : Nat} {x : Int32} {tgt : Nat} (hd : decode mi.2.1 pc = .ok (.tableswitch dflt a b offs, len)) (h : x.toInt < a ∨ b < x.toInt) (ht : (pc : Int) + dflt = (tgt : Int)) (k : zG E mi d rv M1 tgt lo st M) : zG E mi d rv M1 pc lo (.int x :: st) M := by
  intro p e s m args below meth c H locs ls C hP hS hl
  exact lv_tableOut C.1 C.2.1 hd h ht (k p e s m args below meth c H locs ls C hP hS hl)
theorem zi_tableIn {dflt a b : Int} {offs : Array Int} {len : Nat} {x : Int32} {off : Int} {tgt : Nat} (hd : decode mi.2.1 pc = .ok (.tableswitch dflt a b offs, len)) (h1 : ¬ x.toInt < a) (h2 : ¬ b < x.toInt) (ho : offs[(x.toInt - a).toNat]? = some off) (ht : (pc : Int) + off = (tgt : Int)) (k : zG E mi d rv M1 tgt lo st M) : zG E mi d rv M1 pc lo (.int x :: st) M := by
  intro p e s m args below meth c H locs ls C hP hS hl
  exact lv_tableIn C.1 C.2.1 hd h1 h2 ho ht (k p e s m args below meth c H locs ls C hP hS hl)
theorem zi_lookup {dflt : Int} {ps : Array (Int × Int)} {len : Nat} {x : Int32} {off : Int} {tgt : Nat} (hd : decode mi.2.1 pc = .ok (.lookupswitch dflt ps, len)) (hp : (ps.toList.zip (ps.toList.drop 1)).all (fun (a, next) => a.1 < next.1) = true) (ho : Op.lookupswitch.offset ps.toList dflt x.toInt = off) (ht : (pc : Int) + off = (tgt : Int)) (k : zG E mi d rv M1 tgt lo st M) : zG E mi d rv M1 pc lo (.int x :: st) M := by
  intro p e s m args below meth c H locs ls C hP hS hl
  exact lv_lookup C.1 C.2.1 hd hp ho ht (k p e s m args below meth c H locs ls C hP hS hl)
theorem zi_ifeq_b {b : Prop} [Decidable b] {off : Int} {tgt : Nat} (hd : decode mi.2.1 pc = .ok (.ifCond .eq off, 3)) (hn : pc + 3 = n) (ht : (pc : Int) + off = (tgt : Int)) (kt : ¬ b → zG E mi d rv M1 tgt lo st M) (kf : b → zG E mi d rv M1 n lo st M) : zG E mi d rv M1 pc lo (.int (zb b) :: st) M := by
  refine zi_ifeq hd hn ht (fun h => kt (fun hb => ?_)) (fun h => kf (Classical.byContradiction fun hb => h ?_))
  · rw [zb, if_pos hb] at h; exact absurd h (by decide)
  · rw [zb, if_neg hb]
theorem zi_ifne_b {b : Prop} [Decidable b] {off : Int} {tgt : Nat} (hd : decode mi.2.1 pc = .ok (.ifCond .ne off, 3)) (hn : pc + 3 = n) (ht : (pc : Int) + off = (tgt : Int)) (kt : b → zG E mi d rv M1 tgt lo st M) (kf : ¬ b → zG E mi d rv M1 n lo st M) : zG E mi d rv M1 pc lo (.int (zb b) :: st) M := by
  refine zi_ifne hd hn ht (fun h => kt (Classical.byContradiction fun hb => h ?_)) (fun h => kf (fun hb => ?_))
  · rw [zb, if_neg hb]
  · rw [zb, if_pos hb] at h; exact absurd h (by decide)
theorem zi_iload0 {tl : List (Option Value)} {x : Int32} (hd : decode mi.2.1 pc = .ok (.iload_n 0, 1)) (hn : pc + 1 = n) (k : zG E mi d rv M1 n (some (.int x) :: tl) (.int x :: st) M) : zG E mi d rv M1 pc (some (.int x) :: tl) st M := by
  subst hn; intro p e s m args below meth c H locs ls C hP hS hl
  exact lv_iload_n C.1 C.2.1 hd rfl (hl.2.2 0 _ rfl) (k p e s m args below meth c H locs ls C hP hS hl)
theorem zi_lload0 {tl : List (Option Value)} {x : Int64} (hd : decode mi.2.1 pc = .ok (.lload_n 0, 1)) (hn : pc + 1 = n) (k : zG E mi d rv M1 n (some (.long x) :: tl) (.long x :: st) M) : zG E mi d rv M1 pc (some (.long x) :: tl) st M := by
  subst hn; intro p e s m args below meth c H locs ls C hP hS hl
  exact lv_lload_n C.1 C.2.1 hd rfl (hl.2.2 0 _ rfl) (k p e s m args below meth c H locs ls C hP hS hl)
theorem zi_aload0 {tl : List (Option Value)} {x : Nat} (hd : decode mi.2.1 pc = .ok (.aload_n 0, 1)) (hn : pc + 1 = n) (k : zG E mi d rv M1 n (some (.ref x) :: tl) (.ref x :: st) M) : zG E mi d rv M1 pc (some (.ref x) :: tl) st M := by
  subst hn; intro p e s m args below meth c H locs ls C hP hS hl
  exact lv_aload_n C.1 C.2.1 hd rfl (hl.2.2 0 _ rfl) (k p e s m args below meth c H locs ls C hP hS hl)
theorem zi_istore0 {a0 : Option Value} {tl : List (Option Value)} {x : Int32} (hd : decode mi.2.1 pc = .ok (.istore_n 0, 1)) (hn : pc + 1 = n) (hi : 0 < mi.2.2.1) (hp : zpv (a0 :: tl) 0 = true) (k : zG E mi d rv M1 n (some (.int x) :: tl) st M) : zG E mi d rv M1 pc (a0 :: tl) (.int x :: st) M := by
  subst hn; intro p e s m args below meth c H locs ls C hP hS hl
  exact lv_istore_n C.1 C.2.1 hd rfl hl.has hi rfl (fun ls2 h2 => k p e s m args below meth c H locs ls2 C hP hS (zlo_store1 hp h2))
theorem zi_astore0 {a0 : Option Value} {tl : List (Option Value)} {x : Nat} (hd : decode mi.2.1 pc = .ok (.astore_n 0, 1)) (hn : pc + 1 = n) (hi : 0 < mi.2.2.1) (hp : zpv (a0 :: tl) 0 = true) (k : zG E mi d rv M1 n (some (.ref x) :: tl) st M) : zG E mi d rv M1 pc (a0 :: tl) (.ref x :: st) M := by
  subst hn; intro p e s m args below meth c H locs ls C hP hS hl
  exact lv_astore_n C.1 C.2.1 hd rfl hl.has hi rfl (fun ls2 h2 => k p e s m args below meth c H locs ls2 C hP hS (zlo_store1 hp h2))
theorem zi_iinc0 {tl : List (Option Value)} {x : Int32} {by_ : Int} (v : Int32) (hd : decode mi.2.1 pc = .ok (.iinc 0 by_, 3)) (hn : pc + 3 = n) (hi : 0 < mi.2.2.1) (hp : zpv (some (.int x) :: tl) 0 = true) (hv : x + Int32.ofInt by_ = v) (k : zG E mi d rv M1 n (some (.int v) :: tl) st M) : zG E mi d rv M1 pc (some (.int x) :: tl) st M := by
  subst hn; intro p e s m args below meth c H locs ls C hP hS hl
  obtain ⟨kk, hkk⟩ := List.getElem?_of_mem (zll_of (some (.int x) :: tl) 0 0 (.int x) rfl)
  exact lv_iinc C.1 C.2.1 hd hl.has (k := kk) (x := x) (by rw [hkk]) hv hi rfl (fun ls2 h2 => k p e s m args below meth c H locs ls2 C hP hS (zlo_store1 hp h2))
theorem zi_lstore0 {a0 a1 : Option Value} {tl : List (Option Value)} {x : Int64} (hd : decode mi.2.1 pc = .ok (.lstore_n 0, 1)) (hn : pc + 1 = n) (hi : 0 + 1 < mi.2.2.1) (hp : zpv (a0 :: a1 :: tl) 0 = true) (k : zG E mi d rv M1 n (some (.long x) :: none :: tl) st M) : zG E mi d rv M1 pc (a0 :: a1 :: tl) (.long x :: st) M := by
  subst hn; intro p e s m args below meth c H locs ls C hP hS hl
  exact lv_lstore_n C.1 C.2.1 hd rfl hl.has hi rfl (fun ls2 h2 => k p e s m args below meth c H locs ls2 C hP hS (zlo_store2 hp h2))
theorem zi_iload1 {a0 : Option Value} {tl : List (Option Value)} {x : Int32} (hd : decode mi.2.1 pc = .ok (.iload_n 1, 1)) (hn : pc + 1 = n) (k : zG E mi d rv M1 n (a0 :: some (.int x) :: tl) (.int x :: st) M) : zG E mi d rv M1 pc (a0 :: some (.int x) :: tl) st M := by
  subst hn; intro p e s m args below meth c H locs ls C hP hS hl
  exact lv_iload_n C.1 C.2.1 hd rfl (hl.2.2 1 _ rfl) (k p e s m args below meth c H locs ls C hP hS hl)
theorem zi_lload1 {a0 : Option Value} {tl : List (Option Value)} {x : Int64} (hd : decode mi.2.1 pc = .ok (.lload_n 1, 1)) (hn : pc + 1 = n) (k : zG E mi d rv M1 n (a0 :: some (.long x) :: tl) (.long x :: st) M) : zG E mi d rv M1 pc (a0 :: some (.long x) :: tl) st M := by
  subst hn; intro p e s m args below meth c H locs ls C hP hS hl
  exact lv_lload_n C.1 C.2.1 hd rfl (hl.2.2 1 _ rfl) (k p e s m args below meth c H locs ls C hP hS hl)
theorem zi_aload1 {a0 : Option Value} {tl : List (Option Value)} {x : Nat} (hd : decode mi.2.1 pc = .ok (.aload_n 1, 1)) (hn : pc + 1 = n) (k : zG E mi d rv M1 n (a0 :: some (.ref x) :: tl) (.ref x :: st) M) : zG E mi d rv M1 pc (a0 :: some (.ref x) :: tl) st M := by
  subst hn; intro p e s m args below meth c H locs ls C hP hS hl
  exact lv_aload_n C.1 C.2.1 hd rfl (hl.2.2 1 _ rfl) (k p e s m args below meth c H locs ls C hP hS hl)
theorem zi_istore1 {a0 a1 : Option Value} {tl : List (Option Value)} {x : Int32} (hd : decode mi.2.1 pc = .ok (.istore_n 1, 1)) (hn : pc + 1 = n) (hi : 1 < mi.2.2.1) (hp : zpv (a0 :: a1 :: tl) 1 = true) (k : zG E mi d rv M1 n (a0 :: some (.int x) :: tl) st M) : zG E mi d rv M1 pc (a0 :: a1 :: tl) (.int x :: st) M := by
  subst hn; intro p e s m args below meth c H locs ls C hP hS hl
  exact lv_istore_n C.1 C.2.1 hd rfl hl.has hi rfl (fun ls2 h2 => k p e s m args below meth c H locs ls2 C hP hS (zlo_store1 hp h2))
theorem zi_astore1 {a0 a1 : Option Value} {tl : List (Option Value)} {x : Nat} (hd : decode mi.2.1 pc = .ok (.astore_n 1, 1)) (hn : pc + 1 = n) (hi : 1 < mi.2.2.1) (hp : zpv (a0 :: a1 :: tl) 1 = true) (k : zG E mi d rv M1 n (a0 :: some (.ref x) :: tl) st M) : zG E mi d rv M1 pc (a0 :: a1 :: tl) (.ref x :: st) M := by
  subst hn; intro p e s m args below meth c H locs ls C hP hS hl
  exact lv_astore_n C.1 C.2.1 hd rfl hl.has hi rfl (fun ls2 h2 => k p e s m args below meth c H locs ls2 C hP hS (zlo_store1 hp h2))
theorem zi_iinc1 {a0 : Option Value} {tl : List (Option Value)} {x : Int32} {by_ : Int} (v : Int32) (hd : decode mi.2.1 pc = .ok (.iinc 1 by_, 3)) (hn : pc + 3 = n) (hi : 1 < mi.2.2.1) (hp : zpv (a0 :: some (.int x) :: tl) 1 = true) (hv : x + Int32.ofInt by_ = v) (k : zG E mi d rv M1 n (a0 :: some (.int v) :: tl) st M) : zG E mi d rv M1 pc (a0 :: some (.int x) :: tl) st M := by
  subst hn; intro p e s m args below meth c H locs ls C hP hS hl
  obtain ⟨kk, hkk⟩ := List.getElem?_of_mem (zll_of (a0 :: some (.int x) :: tl) 0 1 (.int x) rfl)
  exact lv_iinc C.1 C.2.1 hd hl.has (k := kk) (x := x) (by rw [hkk]) hv hi rfl (fun ls2 h2 => k p e s m args below meth c H locs ls2 C hP hS (zlo_store1 hp h2))
theorem zi_lstore1 {a0 a1 a2 : Option Value} {tl : List (Option Value)} {x : Int64} (hd : decode mi.2.1 pc = .ok (.lstore_n 1, 1)) (hn : pc + 1 = n) (hi : 1 + 1 < mi.2.2.1) (hp : zpv (a0 :: a1 :: a2 :: tl) 1 = true) (k : zG E mi d rv M1 n (a0 :: some (.long x) :: none :: tl) st M) : zG E mi d rv M1 pc (a0 :: a1 :: a2 :: tl) (.long x :: st) M := by
  subst hn; intro p e s m args below meth c H locs ls C hP hS hl
  exact lv_lstore_n C.1 C.2.1 hd rfl hl.has hi rfl (fun ls2 h2 => k p e s m args below meth c H locs ls2 C hP hS (zlo_store2 hp h2))
theorem zi_iload2 {a0 a1 : Option Value} {tl : List (Option Value)} {x : Int32} (hd : decode mi.2.1 pc = .ok (.iload_n 2, 1)) (hn : pc + 1 = n) (k : zG E mi d rv M1 n (a0 :: a1 :: some (.int x) :: tl) (.int x :: st) M) : zG E mi d rv M1 pc (a0 :: a1 :: some (.int x) :: tl) st M := by
  subst hn; intro p e s m args below meth c H locs ls C hP hS hl
  exact lv_iload_n C.1 C.2.1 hd rfl (hl.2.2 2 _ rfl) (k p e s m args below meth c H locs ls C hP hS hl)
theorem zi_lload2 {a0 a1 : Option Value} {tl : List (Option Value)} {x : Int64} (hd : decode mi.2.1 pc = .ok (.lload_n 2, 1)) (hn : pc + 1 = n) (k : zG E mi d rv M1 n (a0 :: a1 :: some (.long x) :: tl) (.long x :: st) M) : zG E mi d rv M1 pc (a0 :: a1 :: some (.long x) :: tl) st M := by
  subst hn; intro p e s m args below meth c H locs ls C hP hS hl
  exact lv_lload_n C.1 C.2.1 hd rfl (hl.2.2 2 _ rfl) (k p e s m args below meth c H locs ls C hP hS hl)
theorem zi_aload2 {a0 a1 : Option Value} {tl : List (Option Value)} {x : Nat} (hd : decode mi.2.1 pc = .ok (.aload_n 2, 1)) (hn : pc + 1 = n) (k : zG E mi d rv M1 n (a0 :: a1 :: some (.ref x) :: tl) (.ref x :: st) M) : zG E mi d rv M1 pc (a0 :: a1 :: some (.ref x) :: tl) st M := by
  subst hn; intro p e s m args below meth c H locs ls C hP hS hl
  exact lv_aload_n C.1 C.2.1 hd rfl (hl.2.2 2 _ rfl) (k p e s m args below meth c H locs ls C hP hS hl)
theorem zi_istore2 {a0 a1 a2 : Option Value} {tl : List (Option Value)} {x : Int32} (hd : decode mi.2.1 pc = .ok (.istore_n 2, 1)) (hn : pc + 1 = n) (hi : 2 < mi.2.2.1) (hp : zpv (a0 :: a1 :: a2 :: tl) 2 = true) (k : zG E mi d rv M1 n (a0 :: a1 :: some (.int x) :: tl) st M) : zG E mi d rv M1 pc (a0 :: a1 :: a2 :: tl) (.int x :: st) M := by
  subst hn; intro p e s m args below meth c H locs ls C hP hS hl
  exact lv_istore_n C.1 C.2.1 hd rfl hl.has hi rfl (fun ls2 h2 => k p e s m args below meth c H locs ls2 C hP hS (zlo_store1 hp h2))
theorem zi_astore2 {a0 a1 a2 : Option Value} {tl : List (Option Value)} {x : Nat} (hd : decode mi.2.1 pc = .ok (.astore_n 2, 1)) (hn : pc + 1 = n) (hi : 2 < mi.2.2.1) (hp : zpv (a0 :: a1 :: a2 :: tl) 2 = true) (k : zG E mi d rv M1 n (a0 :: a1 :: some (.ref x) :: tl) st M) : zG E mi d rv M1 pc (a0 :: a1 :: a2 :: tl) (.ref x :: st) M := by
  subst hn; intro p e s m args below meth c H locs ls C hP hS hl
  exact lv_astore_n C.1 C.2.1 hd rfl hl.has hi rfl (fun ls2 h2 => k p e s m args below meth c H locs ls2 C hP hS (zlo_store1 hp h2))
theorem zi_iinc2 {a0 a1 : Option Value} {tl : List (Option Value)} {x : Int32} {by_ : Int} (v : Int32) (hd : decode mi.2.1 pc = .ok (.iinc 2 by_, 3)) (hn : pc + 3 = n) (hi : 2 < mi.2.2.1) (hp : zpv (a0 :: a1 :: some (.int x) :: tl) 2 = true) (hv : x + Int32.ofInt by_ = v) (k : zG E mi d rv M1 n (a0 :: a1 :: some (.int v) :: tl) st M) : zG E mi d rv M1 pc (a0 :: a1 :: some (.int x) :: tl) st M := by
  subst hn; intro p e s m args below meth c H locs ls C hP hS hl
  obtain ⟨kk, hkk⟩ := List.getElem?_of_mem (zll_of (a0 :: a1 :: some (.int x) :: tl) 0 2 (.int x) rfl)
  exact lv_iinc C.1 C.2.1 hd hl.has (k := kk) (x := x) (by rw [hkk]) hv hi rfl (fun ls2 h2 => k p e s m args below meth c H locs ls2 C hP hS (zlo_store1 hp h2))
theorem zi_lstore2 {a0 a1 a2 a3 : Option Value} {tl : List (Option Value)} {x : Int64} (hd : decode mi.2.1 pc = .ok (.lstore_n 2, 1)) (hn : pc + 1 = n) (hi : 2 + 1 < mi.2.2.1) (hp : zpv (a0 :: a1 :: a2 :: a3 :: tl) 2 = true) (k : zG E mi d rv M1 n (a0 :: a1 :: some (.long x) :: none :: tl) st M) : zG E mi d rv M1 pc (a0 :: a1 :: a2 :: a3 :: tl) (.long x :: st) M := by
  subst hn; intro p e s m args below meth c H locs ls C hP hS hl
  exact lv_lstore_n C.1 C.2.1 hd rfl hl.has hi rfl (fun ls2 h2 => k p e s m args below meth c H locs ls2 C hP hS (zlo_store2 hp h2))
theorem zi_iload3 {a0 a1 a2 : Option Value} {tl : List (Option Value)} {x : Int32} (hd : decode mi.2.1 pc = .ok (.iload_n 3, 1)) (hn : pc + 1 = n) (k : zG E mi d rv M1 n (a0 :: a1 :: a2 :: some (.int x) :: tl) (.int x :: st) M) : zG E mi d rv M1 pc (a0 :: a1 :: a2 :: some (.int x) :: tl) st M := by
  subst hn; intro p e s m args below meth c H locs ls C hP hS hl
  exact lv_iload_n C.1 C.2.1 hd rfl (hl.2.2 3 _ rfl) (k p e s m args below meth c H locs ls C hP hS hl)
theorem zi_lload3 {a0 a1 a2 : Option Value} {tl : List (Option Value)} {x : Int64} (hd : decode mi.2.1 pc = .ok (.lload_n 3, 1)) (hn : pc + 1 = n) (k : zG E mi d rv M1 n (a0 :: a1 :: a2 :: some (.long x) :: tl) (.long x :: st) M) : zG E mi d rv M1 pc (a0 :: a1 :: a2 :: some (.long x) :: tl) st M := by
  subst hn; intro p e s m args below meth c H locs ls C hP hS hl
  exact lv_lload_n C.1 C.2.1 hd rfl (hl.2.2 3 _ rfl) (k p e s m args below meth c H locs ls C hP hS hl)
theorem zi_aload3 {a0 a1 a2 : Option Value} {tl : List (Option Value)} {x : Nat} (hd : decode mi.2.1 pc = .ok (.aload_n 3, 1)) (hn : pc + 1 = n) (k : zG E mi d rv M1 n (a0 :: a1 :: a2 :: some (.ref x) :: tl) (.ref x :: st) M) : zG E mi d rv M1 pc (a0 :: a1 :: a2 :: some (.ref x) :: tl) st M := by
  subst hn; intro p e s m args below meth c H locs ls C hP hS hl
  exact lv_aload_n C.1 C.2.1 hd rfl (hl.2.2 3 _ rfl) (k p e s m args below meth c H locs ls C hP hS hl)
theorem zi_istore3 {a0 a1 a2 a3 : Option Value} {tl : List (Option Value)} {x : Int32} (hd : decode mi.2.1 pc = .ok (.istore_n 3, 1)) (hn : pc + 1 = n) (hi : 3 < mi.2.2.1) (hp : zpv (a0 :: a1 :: a2 :: a3 :: tl) 3 = true) (k : zG E mi d rv M1 n (a0 :: a1 :: a2 :: some (.int x) :: tl) st M) : zG E mi d rv M1 pc (a0 :: a1 :: a2 :: a3 :: tl) (.int x :: st) M := by
  subst hn; intro p e s m args below meth c H locs ls C hP hS hl
  exact lv_istore_n C.1 C.2.1 hd rfl hl.has hi rfl (fun ls2 h2 => k p e s m args below meth c H locs ls2 C hP hS (zlo_store1 hp h2))
theorem zi_astore3 {a0 a1 a2 a3 : Option Value} {tl : List (Option Value)} {x : Nat} (hd : decode mi.2.1 pc = .ok (.astore_n 3, 1)) (hn : pc + 1 = n) (hi : 3 < mi.2.2.1) (hp : zpv (a0 :: a1 :: a2 :: a3 :: tl) 3 = true) (k : zG E mi d rv M1 n (a0 :: a1 :: a2 :: some (.ref x) :: tl) st M) : zG E mi d rv M1 pc (a0 :: a1 :: a2 :: a3 :: tl) (.ref x :: st) M := by
  subst hn; intro p e s m args below meth c H locs ls C hP hS hl
  exact lv_astore_n C.1 C.2.1 hd rfl hl.has hi rfl (fun ls2 h2 => k p e s m args below meth c H locs ls2 C hP hS (zlo_store1 hp h2))
theorem zi_iinc3 {a0 a1 a2 : Option Value} {tl : List (Option Value)} {x : Int32} {by_ : Int} (v : Int32) (hd : decode mi.2.1 pc = .ok (.iinc 3 by_, 3)) (hn : pc + 3 = n) (hi : 3 < mi.2.2.1) (hp : zpv (a0 :: a1 :: a2 :: some (.int x) :: tl) 3 = true) (hv : x + Int32.ofInt by_ = v) (k : zG E mi d rv M1 n (a0 :: a1 :: a2 :: some (.int v) :: tl) st M) : zG E mi d rv M1 pc (a0 :: a1 :: a2 :: some (.int x) :: tl) st M := by
  subst hn; intro p e s m args below meth c H locs ls C hP hS hl
  obtain ⟨kk, hkk⟩ := List.getElem?_of_mem (zll_of (a0 :: a1 :: a2 :: some (.int x) :: tl) 0 3 (.int x) rfl)
  exact lv_iinc C.1 C.2.1 hd hl.has (k := kk) (x := x) (by rw [hkk]) hv hi rfl (fun ls2 h2 => k p e s m args below meth c H locs ls2 C hP hS (zlo_store1 hp h2))
theorem zi_lstore3 {a0 a1 a2 a3 a4 : Option Value} {tl : List (Option Value)} {x : Int64} (hd : decode mi.2.1 pc = .ok (.lstore_n 3, 1)) (hn : pc + 1 = n) (hi : 3 + 1 < mi.2.2.1) (hp : zpv (a0 :: a1 :: a2 :: a3 :: a4 :: tl) 3 = true) (k : zG E mi d rv M1 n (a0 :: a1 :: a2 :: some (.long x) :: none :: tl) st M) : zG E mi d rv M1 pc (a0 :: a1 :: a2 :: a3 :: a4 :: tl) (.long x :: st) M := by
  subst hn; intro p e s m args below meth c H locs ls C hP hS hl
  exact lv_lstore_n C.1 C.2.1 hd rfl hl.has hi rfl (fun ls2 h2 => k p e s m args below meth c H locs ls2 C hP hS (zlo_store2 hp h2))
theorem zi_iload4 {a0 a1 a2 a3 : Option Value} {tl : List (Option Value)} {x : Int32} (hd : decode mi.2.1 pc = .ok (.iload 4, 2)) (hn : pc + 2 = n) (k : zG E mi d rv M1 n (a0 :: a1 :: a2 :: a3 :: some (.int x) :: tl) (.int x :: st) M) : zG E mi d rv M1 pc (a0 :: a1 :: a2 :: a3 :: some (.int x) :: tl) st M := by
  subst hn; intro p e s m args below meth c H locs ls C hP hS hl
  exact lv_iload C.1 C.2.1 hd (hl.2.2 4 _ rfl) (k p e s m args below meth c H locs ls C hP hS hl)
theorem zi_lload4 {a0 a1 a2 a3 : Option Value} {tl : List (Option Value)} {x : Int64} (hd : decode mi.2.1 pc = .ok (.lload 4, 2)) (hn : pc + 2 = n) (k : zG E mi d rv M1 n (a0 :: a1 :: a2 :: a3 :: some (.long x) :: tl) (.long x :: st) M) : zG E mi d rv M1 pc (a0 :: a1 :: a2 :: a3 :: some (.long x) :: tl) st M := by
  subst hn; intro p e s m args below meth c H locs ls C hP hS hl
  exact lv_lload C.1 C.2.1 hd (hl.2.2 4 _ rfl) (k p e s m args below meth c H locs ls C hP hS hl)
theorem zi_aload4 {a0 a1 a2 a3 : Option Value} {tl : List (Option Value)} {x : Nat} (hd : decode mi.2.1 pc = .ok (.aload 4, 2)) (hn : pc + 2 = n) (k : zG E mi d rv M1 n (a0 :: a1 :: a2 :: a3 :: some (.ref x) :: tl) (.ref x :: st) M) : zG E mi d rv M1 pc (a0 :: a1 :: a2 :: a3 :: some (.ref x) :: tl) st M := by
  subst hn; intro p e s m args below meth c H locs ls C hP hS hl
  exact lv_aload C.1 C.2.1 hd (hl.2.2 4 _ rfl) (k p e s m args below meth c H locs ls C hP hS hl)
theorem zi_istore4 {a0 a1 a2 a3 a4 : Option Value} {tl : List (Option Value)} {x : Int32} (hd : decode mi.2.1 pc = .ok (.istore 4, 2)) (hn : pc + 2 = n) (hi : 4 < mi.2.2.1) (hp : zpv (a0 :: a1 :: a2 :: a3 :: a4 :: tl) 4 = true) (k : zG E mi d rv M1 n (a0 :: a1 :: a2 :: a3 :: some (.int x) :: tl) st M) : zG E mi d rv M1 pc (a0 :: a1 :: a2 :: a3 :: a4 :: tl) (.int x :: st) M := by
  subst hn; intro p e s m args below meth c H locs ls C hP hS hl
  exact lv_istore C.1 C.2.1 hd hl.has hi rfl (fun ls2 h2 => k p e s m args below meth c H locs ls2 C hP hS (zlo_store1 hp h2))
theorem zi_astore4 {a0 a1 a2 a3 a4 : Option Value} {tl : List (Option Value)} {x : Nat} (hd : decode mi.2.1 pc = .ok (.astore 4, 2)) (hn : pc + 2 = n) (hi : 4 < mi.2.2.1) (hp : zpv (a0 :: a1 :: a2 :: a3 :: a4 :: tl) 4 = true) (k : zG E mi d rv M1 n (a0 :: a1 :: a2 :: a3 :: some (.ref x) :: tl) st M) : zG E mi d rv M1 pc (a0 :: a1 :: a2 :: a3 :: a4 :: tl) (.ref x :: st) M := by
  subst hn; intro p e s m args below meth c H locs ls C hP hS hl
  exact lv_astore C.1 C.2.1 hd hl.has hi rfl (fun ls2 h2 => k p e s m args below meth c H locs ls2 C hP hS (zlo_store1 hp h2))
theorem zi_iinc4 {a0 a1 a2 a3 : Option Value} {tl : List (Option Value)} {x : Int32} {by_ : Int} (v : Int32) (hd : decode mi.2.1 pc = .ok (.iinc 4 by_, 3)) (hn : pc + 3 = n) (hi : 4 < mi.2.2.1) (hp : zpv (a0 :: a1 :: a2 :: a3 :: some (.int x) :: tl) 4 = true) (hv : x + Int32.ofInt by_ = v) (k : zG E mi d rv M1 n (a0 :: a1 :: a2 :: a3 :: some (.int v) :: tl) st M) : zG E mi d rv M1 pc (a0 :: a1 :: a2 :: a3 :: some (.int x) :: tl) st M := by
  subst hn; intro p e s m args below meth c H locs ls C hP hS hl
  obtain ⟨kk, hkk⟩ := List.getElem?_of_mem (zll_of (a0 :: a1 :: a2 :: a3 :: some (.int x) :: tl) 0 4 (.int x) rfl)
  exact lv_iinc C.1 C.2.1 hd hl.has (k := kk) (x := x) (by rw [hkk]) hv hi rfl (fun ls2 h2 => k p e s m args below meth c H locs ls2 C hP hS (zlo_store1 hp h2))
theorem zi_lstore4 {a0 a1 a2 a3 a4 a5 : Option Value} {tl : List (Option Value)} {x : Int64} (hd : decode mi.2.1 pc = .ok (.lstore 4, 2)) (hn : pc + 2 = n) (hi : 4 + 1 < mi.2.2.1) (hp : zpv (a0 :: a1 :: a2 :: a3 :: a4 :: a5 :: tl) 4 = true) (k : zG E mi d rv M1 n (a0 :: a1 :: a2 :: a3 :: some (.long x) :: none :: tl) st M) : zG E mi d rv M1 pc (a0 :: a1 :: a2 :: a3 :: a4 :: a5 :: tl) (.long x :: st) M := by
  subst hn; intro p e s m args below meth c H locs ls C hP hS hl
  exact lv_lstore C.1 C.2.1 hd hl.has hi rfl (fun ls2 h2 => k p e s m args below meth c H locs ls2 C hP hS (zlo_store2 hp h2))
theorem zi_iload5 {a0 a1 a2 a3 a4 : Option Value} {tl : List (Option Value)} {x : Int32} (hd : decode mi.2.1 pc = .ok (.iload 5, 2)) (hn : pc + 2 = n) (k : zG E mi d rv M1 n (a0 :: a1 :: a2 :: a3 :: a4 :: some (.int x) :: tl) (.int x :: st) M) : zG E mi d rv M1 pc (a0 :: a1 :: a2 :: a3 :: a4 :: some (.int x) :: tl) st M := by
  subst hn; intro p e s m args below meth c H locs ls C hP hS hl
  exact lv_iload C.1 C.2.1 hd (hl.2.2 5 _ rfl) (k p e s m args below meth c H locs ls C hP hS hl)
theorem zi_lload5 {a0 a1 a2 a3 a4 : Option Value} {tl : List (Option Value)} {x : Int64} (hd : decode mi.2.1 pc = .ok (.lload 5, 2)) (hn : pc + 2 = n) (k : zG E mi d rv M1 n (a0 :: a1 :: a2 :: a3 :: a4 :: some (.long x) :: tl) (.long x :: st) M) : zG E mi d rv M1 pc (a0 :: a1 :: a2 :: a3 :: a4 :: some (.long x) :: tl) st M := by
  subst hn; intro p e s m args below meth c H locs ls C hP hS hl
  exact lv_lload C.1 C.2.1 hd (hl.2.2 5 _ rfl) (k p e s m args below meth c H locs ls C hP hS hl)
theorem zi_aload5 {a0 a1 a2 a3 a4 : Option Value} {tl : List (Option Value)} {x : Nat} (hd : decode mi.2.1 pc = .ok (.aload 5, 2)) (hn : pc + 2 = n) (k : zG E mi d rv M1 n (a0 :: a1 :: a2 :: a3 :: a4 :: some (.ref x) :: tl) (.ref x :: st) M) : zG E mi d rv M1 pc (a0 :: a1 :: a2 :: a3 :: a4 :: some (.ref x) :: tl) st M := by
  subst hn; intro p e s m args below meth c H locs ls C hP hS hl
  exact lv_aload C.1 C.2.1 hd (hl.2.2 5 _ rfl) (k p e s m args below meth c H locs ls C hP hS hl)
theorem zi_istore5 {a0 a1 a2 a3 a4 a5 : Option Value} {tl : List (Option Value)} {x : Int32} (hd : decode mi.2.1 pc = .ok (.istore 5, 2)) (hn : pc + 2 = n) (hi : 5 < mi.2.2.1) (hp : zpv (a0 :: a1 :: a2 :: a3 :: a4 :: a5 :: tl) 5 = true) (k : zG E mi d rv M1 n (a0 :: a1 :: a2 :: a3 :: a4 :: some (.int x) :: tl) st M) : zG E mi d rv M1 pc (a0 :: a1 :: a2 :: a3 :: a4 :: a5 :: tl) (.int x :: st) M := by
  subst hn; intro p e s m args below meth c H locs ls C hP hS hl
  exact lv_istore C.1 C.2.1 hd hl.has hi rfl (fun ls2 h2 => k p e s m args below meth c H locs ls2 C hP hS (zlo_store1 hp h2))
theorem zi_astore5 {a0 a1 a2 a3 a4 a5 : Option Value} {tl : List (Option Value)} {x : Nat} (hd : decode mi.2.1 pc = .ok (.astore 5, 2)) (hn : pc + 2 = n) (hi : 5 < mi.2.2.1) (hp : zpv (a0 :: a1 :: a2 :: a3 :: a4 :: a5 :: tl) 5 = true) (k : zG E mi d rv M1 n (a0 :: a1 :: a2 :: a3 :: a4 :: some (.ref x) :: tl) st M) : zG E mi d rv M1 pc (a0 :: a1 :: a2 :: a3 :: a4 :: a5 :: tl) (.ref x :: st) M := by
  subst hn; intro p e s m args below meth c H locs ls C hP hS hl
  exact lv_astore C.1 C.2.1 hd hl.has hi rfl (fun ls2 h2 => k p e s m args below meth c H locs ls2 C hP hS (zlo_store1 hp h2))
theorem zi_iinc5 {a0 a1 a2 a3 a4 : Option Value} {tl : List (Option Value)} {x : Int32} {by_ : Int} (v : Int32) (hd : decode mi.2.1 pc = .ok (.iinc 5 by_, 3)) (hn : pc + 3 = n) (hi : 5 < mi.2.2.1) (hp : zpv (a0 :: a1 :: a2 :: a3 :: a4 :: some (.int x) :: tl) 5 = true) (hv : x + Int32.ofInt by_ = v) (k : zG E mi d rv M1 n (a0 :: a1 :: a2 :: a3 :: a4 :: some (.int v) :: tl) st M) : zG E mi d rv M1 pc (a0 :: a1 :: a2 :: a3 :: a4 :: some (.int x) :: tl) st M := by
  subst hn; intro p e s m args below meth c H locs ls C hP hS hl
  obtain ⟨kk, hkk⟩ := List.getElem?_of_mem (zll_of (a0 :: a1 :: a2 :: a3 :: a4 :: some (.int x) :: tl) 0 5 (.int x) rfl)
  exact lv_iinc C.1 C.2.1 hd hl.has (k := kk) (x := x) (by rw [hkk]) hv hi rfl (fun ls2 h2 => k p e s m args below meth c H locs ls2 C hP hS (zlo_store1 hp h2))
theorem zi_lstore5 {a0 a1 a2 a3 a4 a5 a6 : Option Value} {tl : List (Option Value)} {x : Int64} (hd : decode mi.2.1 pc = .ok (.lstore 5, 2)) (hn : pc + 2 = n) (hi : 5 + 1 < mi.2.2.1) (hp : zpv (a0 :: a1 :: a2 :: a3 :: a4 :: a5 :: a6 :: tl) 5 = true) (k : zG E mi d rv M1 n (a0 :: a1 :: a2 :: a3 :: a4 :: some (.long x) :: none :: tl) st M) : zG E mi d rv M1 pc (a0 :: a1 :: a2 :: a3 :: a4 :: a5 :: a6 :: tl) (.long x :: st) M := by
  subst hn; intro p e s m args below meth c H locs ls C hP hS hl
  exact lv_lstore C.1 C.2.1 hd hl.has hi rfl (fun ls2 h2 => k p e s m args below meth c H locs ls2 C hP hS (zlo_store2 hp h2))
theorem zi_iload6 {a0 a1 a2 a3 a4 a5 : Option Value} {tl : List (Option Value)} {x : Int32} (hd : decode mi.2.1 pc = .ok (.iload 6, 2)) (hn : pc + 2 = n) (k : zG E mi d rv M1 n (a0 :: a1 :: a2 :: a3 :: a4 :: a5 :: some (.int x) :: tl) (.int x :: st) M) : zG E mi d rv M1 pc (a0 :: a1 :: a2 :: a3 :: a4 :: a5 :: some (.int x) :: tl) st M := by
  subst hn; intro p e s m args below meth c H locs ls C hP hS hl
  exact lv_iload C.1 C.2.1 hd (hl.2.2 6 _ rfl) (k p e s m args below meth c H locs ls C hP hS hl)
theorem zi_lload6 {a0 a1 a2 a3 a4 a5 : Option Value} {tl : List (Option Value)} {x : Int64} (hd : decode mi.2.1 pc = .ok (.lload 6, 2)) (hn : pc + 2 = n) (k : zG E mi d rv M1 n (a0 :: a1 :: a2 :: a3 :: a4 :: a5 :: some (.long x) :: tl) (.long x :: st) M) : zG E mi d rv M1 pc (a0 :: a1 :: a2 :: a3 :: a4 :: a5 :: some (.long x) :: tl) st M := by
  subst hn; intro p e s m args below meth c H locs ls C hP hS hl
  exact lv_lload C.1 C.2.1 hd (hl.2.2 6 _ rfl) (k p e s m args below meth c H locs ls C hP hS hl)
theorem zi_aload6 {a0 a1 a2 a3 a4 a5 : Option Value} {tl : List (Option Value)} {x : Nat} (hd : decode mi.2.1 pc = .ok (.aload 6, 2)) (hn : pc + 2 = n) (k : zG E mi d rv M1 n (a0 :: a1 :: a2 :: a3 :: a4 :: a5 :: some (.ref x) :: tl) (.ref x :: st) M) : zG E mi d rv M1 pc (a0 :: a1 :: a2 :: a3 :: a4 :: a5 :: some (.ref x) :: tl) st M := by
  subst hn; intro p e s m args below meth c H locs ls C hP hS hl
  exact lv_aload C.1 C.2.1 hd (hl.2.2 6 _ rfl) (k p e s m args below meth c H locs ls C hP hS hl)
theorem zi_istore6 {a0 a1 a2 a3 a4 a5 a6 : Option Value} {tl : List (Option Value)} {x : Int32} (hd : decode mi.2.1 pc = .ok (.istore 6, 2)) (hn : pc + 2 = n) (hi : 6 < mi.2.2.1) (hp : zpv (a0 :: a1 :: a2 :: a3 :: a4 :: a5 :: a6 :: tl) 6 = true) (k : zG E mi d rv M1 n (a0 :: a1 :: a2 :: a3 :: a4 :: a5 :: some (.int x) :: tl) st M) : zG E mi d rv M1 pc (a0 :: a1 :: a2 :: a3 :: a4 :: a5 :: a6 :: tl) (.int x :: st) M := by
  subst hn; intro p e s m args below meth c H locs ls C hP hS hl
  exact lv_istore C.1 C.2.1 hd hl.has hi rfl (fun ls2 h2 => k p e s m args below meth c H locs ls2 C hP hS (zlo_store1 hp h2))
theorem zi_astore6 {a0 a1 a2 a3 a4 a5 a6 : Option Value} {tl : List (Option Value)} {x : Nat} (hd : decode mi.2.1 pc = .ok (.astore 6, 2)) (hn : pc + 2 = n) (hi : 6 < mi.2.2.1) (hp : zpv (a0 :: a1 :: a2 :: a3 :: a4 :: a5 :: a6 :: tl) 6 = true) (k : zG E mi d rv M1 n (a0 :: a1 :: a2 :: a3 :: a4 :: a5 :: some (.ref x) :: tl) st M) : zG E mi d rv M1 pc (a0 :: a1 :: a2 :: a3 :: a4 :: a5 :: a6 :: tl) (.ref x :: st) M := by
  subst hn; intro p e s m args below meth c H locs ls C hP hS hl
  exact lv_astore C.1 C.2.1 hd hl.has hi rfl (fun ls2 h2 => k p e s m args below meth c H locs ls2 C hP hS (zlo_store1 hp h2))
theorem zi_iinc6 {a0 a1 a2 a3 a4 a5 : Option Value} {tl : List (Option Value)} {x : Int32} {by_ : Int} (v : Int32) (hd : decode mi.2.1 pc = .ok (.iinc 6 by_, 3)) (hn : pc + 3 = n) (hi : 6 < mi.2.2.1) (hp : zpv (a0 :: a1 :: a2 :: a3 :: a4 :: a5 :: some (.int x) :: tl) 6 = true) (hv : x + Int32.ofInt by_ = v) (k : zG E mi d rv M1 n (a0 :: a1 :: a2 :: a3 :: a4 :: a5 :: some (.int v) :: tl) st M) : zG E mi d rv M1 pc (a0 :: a1 :: a2 :: a3 :: a4 :: a5 :: some (.int x) :: tl) st M := by
  subst hn; intro p e s m args below meth c H locs ls C hP hS hl
  obtain ⟨kk, hkk⟩ := List.getElem?_of_mem (zll_of (a0 :: a1 :: a2 :: a3 :: a4 :: a5 :: some (.int x) :: tl) 0 6 (.int x) rfl)
  exact lv_iinc C.1 C.2.1 hd hl.has (k := kk) (x := x) (by rw [hkk]) hv hi rfl (fun ls2 h2 => k p e s m args below meth c H locs ls2 C hP hS (zlo_store1 hp h2))
theorem zi_lstore6 {a0 a1 a2 a3 a4 a5 a6 a7 : Option Value} {tl : List (Option Value)} {x : Int64} (hd : decode mi.2.1 pc = .ok (.lstore 6, 2)) (hn : pc + 2 = n) (hi : 6 + 1 < mi.2.2.1) (hp : zpv (a0 :: a1 :: a2 :: a3 :: a4 :: a5 :: a6 :: a7 :: tl) 6 = true) (k : zG E mi d rv M1 n (a0 :: a1 :: a2 :: a3 :: a4 :: a5 :: some (.long x) :: none :: tl) st M) : zG E mi d rv M1 pc (a0 :: a1 :: a2 :: a3 :: a4 :: a5 :: a6 :: a7 :: tl) (.long x :: st) M := by
  subst hn; intro p e s m args below meth c H locs ls C hP hS hl
  exact lv_lstore C.1 C.2.1 hd hl.has hi rfl (fun ls2 h2 => k p e s m args below meth c H locs ls2 C hP hS (zlo_store2 hp h2))
theorem zi_iload7 {a0 a1 a2 a3 a4 a5 a6 : Option Value} {tl : List (Option Value)} {x : Int32} (hd : decode mi.2.1 pc = .ok (.iload 7, 2)) (hn : pc + 2 = n) (k : zG E mi d rv M1 n (a0 :: a1 :: a2 :: a3 :: a4 :: a5 :: a6 :: some (.int x) :: tl) (.int x :: st) M) : zG E mi d rv M1 pc (a0 :: a1 :: a2 :: a3 :: a4 :: a5 :: a6 :: some (.int x) :: tl) st M := by
  subst hn; intro p e s m args below meth c H locs ls C hP hS hl
  exact lv_iload C.1 C.2.1 hd (hl.2.2 7 _ rfl) (k p e s m args below meth c H locs ls C hP hS hl)
theorem zi_lload7 {a0 a1 a2 a3 a4 a5 a6 : Option Value} {tl : List (Option Value)} {x : Int64} (hd : decode mi.2.1 pc = .ok (.lload 7, 2)) (hn : pc + 2 = n) (k : zG E mi d rv M1 n (a0 :: a1 :: a2 :: a3 :: a4 :: a5 :: a6 :: some (.long x) :: tl) (.long x :: st) M) : zG E mi d rv M1 pc (a0 :: a1 :: a2 :: a3 :: a4 :: a5 :: a6 :: some (.long x) :: tl) st M := by
  subst hn; intro p e s m args below meth c H locs ls C hP hS hl
  exact lv_lload C.1 C.2.1 hd (hl.2.2 7 _ rfl) (k p e s m args below meth c H locs ls C hP hS hl)
theorem zi_aload7 {a0 a1 a2 a3 a4 a5 a6 : Option Value} {tl : List (Option Value)} {x : Nat} (hd : decode mi.2.1 pc = .ok (.aload 7, 2)) (hn : pc + 2 = n) (k : zG E mi d rv M1 n (a0 :: a1 :: a2 :: a3 :: a4 :: a5 :: a6 :: some (.ref x) :: tl) (.ref x :: st) M) : zG E mi d rv M1 pc (a0 :: a1 :: a2 :: a3 :: a4 :: a5 :: a6 :: some (.ref x) :: tl) st M := by
  subst hn; intro p e s m args below meth c H locs ls C hP hS hl
  exact lv_aload C.1 C.2.1 hd (hl.2.2 7 _ rfl) (k p e s m args below meth c H locs ls C hP hS hl)
theorem zi_istore7 {a0 a1 a2 a3 a4 a5 a6 a7 : Option Value} {tl : List (Option Value)} {x : Int32} (hd : decode mi.2.1 pc = .ok (.istore 7, 2)) (hn : pc + 2 = n) (hi : 7 < mi.2.2.1) (hp : zpv (a0 :: a1 :: a2 :: a3 :: a4 :: a5 :: a6 :: a7 :: tl) 7 = true) (k : zG E mi d rv M1 n (a0 :: a1 :: a2 :: a3 :: a4 :: a5 :: a6 :: some (.int x) :: tl) st M) : zG E mi d rv M1 pc (a0 :: a1 :: a2 :: a3 :: a4 :: a5 :: a6 :: a7 :: tl) (.int x :: st) M := by
  subst hn; intro p e s m args below meth c H locs ls C hP hS hl
  exact lv_istore C.1 C.2.1 hd hl.has hi rfl (fun ls2 h2 => k p e s m args below meth c H locs ls2 C hP hS (zlo_store1 hp h2))
theorem zi_astore7 {a0 a1 a2 a3 a4 a5 a6 a7 : Option Value} {tl : List (Option Value)} {x : Nat} (hd : decode mi.2.1 pc = .ok (.astore 7, 2)) (hn : pc + 2 = n) (hi : 7 < mi.2.2.1) (hp : zpv (a0 :: a1 :: a2 :: a3 :: a4 :: a5 :: a6 :: a7 :: tl) 7 = true) (k : zG E mi d rv M1 n (a0 :: a1 :: a2 :: a3 :: a4 :: a5 :: a6 :: some (.ref x) :: tl) st M) : zG E mi d rv M1 pc (a0 :: a1 :: a2 :: a3 :: a4 :: a5 :: a6 :: a7 :: tl) (.ref x :: st) M := by
  subst hn; intro p e s m args below meth c H locs ls C hP hS hl
  exact lv_astore C.1 C.2.1 hd hl.has hi rfl (fun ls2 h2 => k p e s m args below meth c H locs ls2 C hP hS (zlo_store1 hp h2))
theorem zi_iinc7 {a0 a1 a2 a3 a4 a5 a6 : Option Value} {tl : List (Option Value)} {x : Int32} {by_ : Int} (v : Int32) (hd : decode mi.2.1 pc = .ok (.iinc 7 by_, 3)) (hn : pc + 3 = n) (hi : 7 < mi.2.2.1) (hp : zpv (a0 :: a1 :: a2 :: a3 :: a4 :: a5 :: a6 :: some (.int x) :: tl) 7 = true) (hv : x + Int32.ofInt by_ = v) (k : zG E mi d rv M1 n (a0 :: a1 :: a2 :: a3 :: a4 :: a5 :: a6 :: some (.int v) :: tl) st M) : zG E mi d rv M1 pc (a0 :: a1 :: a2 :: a3 :: a4 :: a5 :: a6 :: some (.int x) :: tl) st M := by
  subst hn; intro p e s m args below meth c H locs ls C hP hS hl
  obtain ⟨kk, hkk⟩ := List.getElem?_of_mem (zll_of (a0 :: a1 :: a2 :: a3 :: a4 :: a5 :: a6 :: some (.int x) :: tl) 0 7 (.int x) rfl)
  exact lv_iinc C.1 C.2.1 hd hl.has (k := kk) (x := x) (by rw [hkk]) hv hi rfl (fun ls2 h2 => k p e s m args below meth c H locs ls2 C hP hS (zlo_store1 hp h2))
theorem zi_lstore7 {a0 a1 a2 a3 a4 a5 a6 a7 a8 : Option Value} {tl : List (Option Value)} {x : Int64} (hd : decode mi.2.1 pc = .ok (.lstore 7, 2)) (hn : pc + 2 = n) (hi : 7 + 1 < mi.2.2.1) (hp : zpv (a0 :: a1 :: a2 :: a3 :: a4 :: a5 :: a6 :: a7 :: a8 :: tl) 7 = true) (k : zG E mi d rv M1 n (a0 :: a1 :: a2 :: a3 :: a4 :: a5 :: a6 :: some (.long x) :: none :: tl) st M) : zG E mi d rv M1 pc (a0 :: a1 :: a2 :: a3 :: a4 :: a5 :: a6 :: a7 :: a8 :: tl) (.long x :: st) M := by
  subst hn; intro p e s m args below meth c H locs ls C hP hS hl
  exact lv_lstore C.1 C.2.1 hd hl.has hi rfl (fun ls2 h2 => k p e s m args below meth c H locs ls2 C hP hS (zlo_store2 hp h2))
theorem zi_iload8 {a0 a1 a2 a3 a4 a5 a6 a7 : Option Value} {tl : List (Option Value)} {x : Int32} (hd : decode mi.2.1 pc = .ok (.iload 8, 2)) (hn : pc + 2 = n) (k : zG E mi d rv M1 n (a0 :: a1 :: a2 :: a3 :: a4 :: a5 :: a6 :: a7 :: some (.int x) :: tl) (.int x :: st) M) : zG E mi d rv M1 pc (a0 :: a1 :: a2 :: a3 :: a4 :: a5 :: a6 :: a7 :: some (.int x) :: tl) st M := by
  subst hn; intro p e s m args below meth c H locs ls C hP hS hl
  exact lv_iload C.1 C.2.1 hd (hl.2.2 8 _ rfl) (k p e s m args below meth c H locs ls C hP hS hl)
theorem zi_lload8 {a0 a1 a2 a3 a4 a5 a6 a7 : Option Value} {tl : List (Option Value)} {x : Int64} (hd : decode mi.2.1 pc = .ok (.lload 8, 2)) (hn : pc + 2 = n) (k : zG E mi d rv M1 n (a0 :: a1 :: a2 :: a3 :: a4 :: a5 :: a6 :: a7 :: some (.long x) :: tl) (.long x :: st) M) : zG E mi d rv M1 pc (a0 :: a1 :: a2 :: a3 :: a4 :: a5 :: a6 :: a7 :: some (.long x) :: tl) st M := by
  subst hn; intro p e s m args below meth c H locs ls C hP hS hl
  exact lv_lload C.1 C.2.1 hd (hl.2.2 8 _ rfl) (k p e s m args below meth c H locs ls C hP hS hl)
theorem zi_aload8 {a0 a1 a2 a3 a4 a5 a6 a7 : Option Value} {tl : List (Option Value)} {x : Nat} (hd : decode mi.2.1 pc = .ok (.aload 8, 2)) (hn : pc + 2 = n) (k : zG E mi d rv M1 n (a0 :: a1 :: a2 :: a3 :: a4 :: a5 :: a6 :: a7 :: some (.ref x) :: tl) (.ref x :: st) M) : zG E mi d rv M1 pc (a0 :: a1 :: a2 :: a3 :: a4 :: a5 :: a6 :: a7 :: some (.ref x) :: tl) st M := by
  subst hn; intro p e s m args below meth c H locs ls C hP hS hl
  exact lv_aload C.1 C.2.1 hd (hl.2.2 8 _ rfl) (k p e s m args below meth c H locs ls C hP hS hl)
theorem zi_istore8 {a0 a1 a2 a3 a4 a5 a6 a7 a8 : Option Value} {tl : List (Option Value)} {x : Int32} (hd : decode mi.2.1 pc = .ok (.istore 8, 2)) (hn : pc + 2 = n) (hi : 8 < mi.2.2.1) (hp : zpv (a0 :: a1 :: a2 :: a3 :: a4 :: a5 :: a6 :: a7 :: a8 :: tl) 8 = true) (k : zG E mi d rv M1 n (a0 :: a1 :: a2 :: a3 :: a4 :: a5 :: a6 :: a7 :: some (.int x) :: tl) st M) : zG E mi d rv M1 pc (a0 :: a1 :: a2 :: a3 :: a4 :: a5 :: a6 :: a7 :: a8 :: tl) (.int x :: st) M := by
  subst hn; intro p e s m args below meth c H locs ls C hP hS hl
  exact lv_istore C.1 C.2.1 hd hl.has hi rfl (fun ls2 h2 => k p e s m args below meth c H locs ls2 C hP hS (zlo_store1 hp h2))
theorem zi_astore8 {a0 a1 a2 a3 a4 a5 a6 a7 a8 : Option Value} {tl : List (Option Value)} {x : Nat} (hd : decode mi.2.1 pc = .ok (.astore 8, 2)) (hn : pc + 2 = n) (hi : 8 < mi.2.2.1) (hp : zpv (a0 :: a1 :: a2 :: a3 :: a4 :: a5 :: a6 :: a7 :: a8 :: tl) 8 = true) (k : zG E mi d rv M1 n (a0 :: a1 :: a2 :: a3 :: a4 :: a5 :: a6 :: a7 :: some (.ref x) :: tl) st M) : zG E mi d rv M1 pc (a0 :: a1 :: a2 :: a3 :: a4 :: a5 :: a6 :: a7 :: a8 :: tl) (.ref x :: st) M := by
  subst hn; intro p e s m args below meth c H locs ls C hP hS hl
  exact lv_astore C.1 C.2.1 hd hl.has hi rfl (fun ls2 h2 => k p e s m args below meth c H locs ls2 C hP hS (zlo_store1 hp h2))
theorem zi_iinc8 {a0 a1 a2 a3 a4 a5 a6 a7 : Option Value} {tl : List (Option Value)} {x : Int32} {by_ : Int} (v : Int32) (hd : decode mi.2.1 pc = .ok (.iinc 8 by_, 3)) (hn : pc + 3 = n) (hi : 8 < mi.2.2.1) (hp : zpv (a0 :: a1 :: a2 :: a3 :: a4 :: a5 :: a6 :: a7 :: some (.int x) :: tl) 8 = true) (hv : x + Int32.ofInt by_ = v) (k : zG E mi d rv M1 n (a0 :: a1 :: a2 :: a3 :: a4 :: a5 :: a6 :: a7 :: some (.int v) :: tl) st M) : zG E mi d rv M1 pc (a0 :: a1 :: a2 :: a3 :: a4 :: a5 :: a6 :: a7 :: some (.int x) :: tl) st M := by
  subst hn; intro p e s m args below meth c H locs ls C hP hS hl
  obtain ⟨kk, hkk⟩ := List.getElem?_of_mem (zll_of (a0 :: a1 :: a2 :: a3 :: a4 :: a5 :: a6 :: a7 :: some (.int x) :: tl) 0 8 (.int x) rfl)
  exact lv_iinc C.1 C.2.1 hd hl.has (k := kk) (x := x) (by rw [hkk]) hv hi rfl (fun ls2 h2 => k p e s m args below meth c H locs ls2 C hP hS (zlo_store1 hp h2))
theorem zi_lstore8 {a0 a1 a2 a3 a4 a5 a6 a7 a8 a9 : Option Value} {tl : List (Option Value)} {x : Int64} (hd : decode mi.2.1 pc = .ok (.lstore 8, 2)) (hn : pc + 2 = n) (hi : 8 + 1 < mi.2.2.1) (hp : zpv (a0 :: a1 :: a2 :: a3 :: a4 :: a5 :: a6 :: a7 :: a8 :: a9 :: tl) 8 = true) (k : zG E mi d rv M1 n (a0 :: a1 :: a2 :: a3 :: a4 :: a5 :: a6 :: a7 :: some (.long x) :: none :: tl) st M) : zG E mi d rv M1 pc (a0 :: a1 :: a2 :: a3 :: a4 :: a5 :: a6 :: a7 :: a8 :: a9 :: tl) (.long x :: st) M := by
  subst hn; intro p e s m args below meth c H locs ls C hP hS hl
  exact lv_lstore C.1 C.2.1 hd hl.has hi rfl (fun ls2 h2 => k p e s m args below meth c H locs ls2 C hP hS (zlo_store2 hp h2))
theorem zi_iload9 {a0 a1 a2 a3 a4 a5 a6 a7 a8 : Option Value} {tl : List (Option Value)} {x : Int32} (hd : decode mi.2.1 pc = .ok (.iload 9, 2)) (hn : pc + 2 = n) (k : zG E mi d rv M1 n (a0 :: a1 :: a2 :: a3 :: a4 :: a5 :: a6 :: a7 :: a8 :: some (.int x) :: tl) (.int x :: st) M) : zG E mi d rv M1 pc (a0 :: a1 :: a2 :: a3 :: a4 :: a5 :: a6 :: a7 :: a8 :: some (.int x) :: tl) st M := by
  subst hn; intro p e s m args below meth c H locs ls C hP hS hl
  exact lv_iload C.1 C.2.1 hd (hl.2.2 9 _ rfl) (k p e s m args below meth c H locs ls C hP hS hl)
theorem zi_lload9 {a0 a1 a2 a3 a4 a5 a6 a7 a8 : Option Value} {tl : List (Option Value)} {x : Int64} (hd : decode mi.2.1 pc = .ok (.lload 9, 2)) (hn : pc + 2 = n) (k : zG E mi d rv M1 n (a0 :: a1 :: a2 :: a3 :: a4 :: a5 :: a6 :: a7 :: a8 :: some (.long x) :: tl) (.long x :: st) M) : zG E mi d rv M1 pc (a0 :: a1 :: a2 :: a3 :: a4 :: a5 :: a6 :: a7 :: a8 :: some (.long x) :: tl) st M := by
  subst hn; intro p e s m args below meth c H locs ls C hP hS hl
  exact lv_lload C.1 C.2.1 hd (hl.2.2 9 _ rfl) (k p e s m args below meth c H locs ls C hP hS hl)
theorem zi_aload9 {a0 a1 a2 a3 a4 a5 a6 a7 a8 : Option Value} {tl : List (Option Value)} {x : Nat} (hd : decode mi.2.1 pc = .ok (.aload 9, 2)) (hn : pc + 2 = n) (k : zG E mi d rv M1 n (a0 :: a1 :: a2 :: a3 :: a4 :: a5 :: a6 :: a7 :: a8 :: some (.ref x) :: tl) (.ref x :: st) M) : zG E mi d rv M1 pc (a0 :: a1 :: a2 :: a3 :: a4 :: a5 :: a6 :: a7 :: a8 :: some (.ref x) :: tl) st M := by
  subst hn; intro p e s m args below meth c H locs ls C hP hS hl
  exact lv_aload C.1 C.2.1 hd (hl.2.2 9 _ rfl) (k p e s m args below meth c H locs ls C hP hS hl)
theorem zi_istore9 {a0 a1 a2 a3 a4 a5 a6 a7 a8 a9 : Option Value} {tl : List (Option Value)} {x : Int32} (hd : decode mi.2.1 pc = .ok (.istore 9, 2)) (hn : pc + 2 = n) (hi : 9 < mi.2.2.1) (hp : zpv (a0 :: a1 :: a2 :: a3 :: a4 :: a5 :: a6 :: a7 :: a8 :: a9 :: tl) 9 = true) (k : zG E mi d rv M1 n (a0 :: a1 :: a2 :: a3 :: a4 :: a5 :: a6 :: a7 :: a8 :: some (.int x) :: tl) st M) : zG E mi d rv M1 pc (a0 :: a1 :: a2 :: a3 :: a4 :: a5 :: a6 :: a7 :: a8 :: a9 :: tl) (.int x :: st) M := by
  subst hn; intro p e s m args below meth c H locs ls C hP hS hl
  exact lv_istore C.1 C.2.1 hd hl.has hi rfl (fun ls2 h2 => k p e s m args below meth c H locs ls2 C hP hS (zlo_store1 hp h2))
theorem zi_astore9 {a0 a1 a2 a3 a4 a5 a6 a7 a8 a9 : Option Value} {tl : List (Option Value)} {x : Nat} (hd : decode mi.2.1 pc = .ok (.astore 9, 2)) (hn : pc + 2 = n) (hi : 9 < mi.2.2.1) (hp : zpv (a0 :: a1 :: a2 :: a3 :: a4 :: a5 :: a6 :: a7 :: a8 :: a9 :: tl) 9 = true) (k : zG E mi d rv M1 n (a0 :: a1 :: a2 :: a3 :: a4 :: a5 :: a6 :: a7 :: a8 :: some (.ref x) :: tl) st M) : zG E mi d rv M1 pc (a0 :: a1 :: a2 :: a3 :: a4 :: a5 :: a6 :: a7 :: a8 :: a9 :: tl) (.ref x :: st) M := by
  subst hn; intro p e s m args below meth c H locs ls C hP hS hl
  exact lv_astore C.1 C.2.1 hd hl.has hi rfl (fun ls2 h2 => k p e s m args below meth c H locs ls2 C hP hS (zlo_store1 hp h2))
theorem zi_iinc9 {a0 a1 a2 a3 a4 a5 a6 a7 a8 : Option Value} {tl : List (Option Value)} {x : Int32} {by_ : Int} (v : Int32) (hd : decode mi.2.1 pc = .ok (.iinc 9 by_, 3)) (hn : pc + 3 = n) (hi : 9 < mi.2.2.1) (hp : zpv (a0 :: a1 :: a2 :: a3 :: a4 :: a5 :: a6 :: a7 :: a8 :: some (.int x) :: tl) 9 = true) (hv : x + Int32.ofInt by_ = v) (k : zG E mi d rv M1 n (a0 :: a1 :: a2 :: a3 :: a4 :: a5 :: a6 :: a7 :: a8 :: some (.int v) :: tl) st M) : zG E mi d rv M1 pc (a0 :: a1 :: a2 :: a3 :: a4 :: a5 :: a6 :: a7 :: a8 :: some (.int x) :: tl) st M := by
  subst hn; intro p e s m args below meth c H locs ls C hP hS hl
  obtain ⟨kk, hkk⟩ := List.getElem?_of_mem (zll_of (a0 :: a1 :: a2 :: a3 :: a4 :: a5 :: a6 :: a7 :: a8 :: some (.int x) :: tl) 0 9 (.int x) rfl)
  exact lv_iinc C.1 C.2.1 hd hl.has (k := kk) (x := x) (by rw [hkk]) hv hi rfl (fun ls2 h2 => k p e s m args below meth c H locs ls2 C hP hS (zlo_store1 hp h2))
theorem zi_lstore9 {a0 a1 a2 a3 a4 a5 a6 a7 a8 a9 a10 : Option Value} {tl : List (Option Value)} {x : Int64} (hd : decode mi.2.1 pc = .ok (.lstore 9, 2)) (hn : pc + 2 = n) (hi : 9 + 1 < mi.2.2.1) (hp : zpv (a0 :: a1 :: a2 :: a3 :: a4 :: a5 :: a6 :: a7 :: a8 :: a9 :: a10 :: tl) 9 = true) (k : zG E mi d rv M1 n (a0 :: a1 :: a2 :: a3 :: a4 :: a5 :: a6 :: a7 :: a8 :: some (.long x) :: none :: tl) st M) : zG E mi d rv M1 pc (a0 :: a1 :: a2 :: a3 :: a4 :: a5 :: a6 :: a7 :: a8 :: a9 :: a10 :: tl) (.long x :: st) M := by
  subst hn; intro p e s m args below meth c H locs ls C hP hS hl
  exact lv_lstore C.1 C.2.1 hd hl.has hi rfl (fun ls2 h2 => k p e s m args below meth c H locs ls2 C hP hS (zlo_store2 hp h2))
theorem zi_iload10 {a0 a1 a2 a3 a4 a5 a6 a7 a8 a9 : Option Value} {tl : List (Option Value)} {x : Int32} (hd : decode mi.2.1 pc = .ok (.iload 10, 2)) (hn : pc + 2 = n) (k : zG E mi d rv M1 n (a0 :: a1 :: a2 :: a3 :: a4 :: a5 :: a6 :: a7 :: a8 :: a9 :: some (.int x) :: tl) (.int x :: st) M) : zG E mi d rv M1 pc (a0 :: a1 :: a2 :: a3 :: a4 :: a5 :: a6 :: a7 :: a8 :: a9 :: some (.int x) :: tl) st M := by
  subst hn; intro p e s m args below meth c H locs ls C hP hS hl
  exact lv_iload C.1 C.2.1 hd (hl.2.2 10 _ rfl) (k p e s m args below meth c H locs ls C hP hS hl)
theorem zi_lload10 {a0 a1 a2 a3 a4 a5 a6 a7 a8 a9 : Option Value} {tl : List (Option Value)} {x : Int64} (hd : decode mi.2.1 pc = .ok (.lload 10, 2)) (hn : pc + 2 = n) (k : zG E mi d rv M1 n (a0 :: a1 :: a2 :: a3 :: a4 :: a5 :: a6 :: a7 :: a8 :: a9 :: some (.long x) :: tl) (.long x :: st) M) : zG E mi d rv M1 pc (a0 :: a1 :: a2 :: a3 :: a4 :: a5 :: a6 :: a7 :: a8 :: a9 :: some (.long x) :: tl) st M := by
  subst hn; intro p e s m args below meth c H locs ls C hP hS hl
  exact lv_lload C.1 C.2.1 hd (hl.2.2 10 _ rfl) (k p e s m args below meth c H locs ls C hP hS hl)
theorem zi_aload10 {a0 a1 a2 a3 a4 a5 a6 a7 a8 a9 : Option Value} {tl : List (Option Value)} {x : Nat} (hd : decode mi.2.1 pc = .ok (.aload 10, 2)) (hn : pc + 2 = n) (k : zG E mi d rv M1 n (a0 :: a1 :: a2 :: a3 :: a4 :: a5 :: a6 :: a7 :: a8 :: a9 :: some (.ref x) :: tl) (.ref x :: st) M) : zG E mi d rv M1 pc (a0 :: a1 :: a2 :: a3 :: a4 :: a5 :: a6 :: a7 :: a8 :: a9 :: some (.ref x) :: tl) st M := by
  subst hn; intro p e s m args below meth c H locs ls C hP hS hl
  exact lv_aload C.1 C.2.1 hd (hl.2.2 10 _ rfl) (k p e s m args below meth c H locs ls C hP hS hl)
theorem zi_istore10 {a0 a1 a2 a3 a4 a5 a6 a7 a8 a9 a10 : Option Value} {tl : List (Option Value)} {x : Int32} (hd : decode mi.2.1 pc = .ok (.istore 10, 2)) (hn : pc + 2 = n) (hi : 10 < mi.2.2.1) (hp : zpv (a0 :: a1 :: a2 :: a3 :: a4 :: a5 :: a6 :: a7 :: a8 :: a9 :: a10 :: tl) 10 = true) (k : zG E mi d rv M1 n (a0 :: a1 :: a2 :: a3 :: a4 :: a5 :: a6 :: a7 :: a8 :: a9 :: some (.int x) :: tl) st M) : zG E mi d rv M1 pc (a0 :: a1 :: a2 :: a3 :: a4 :: a5 :: a6 :: a7 :: a8 :: a9 :: a10 :: tl) (.int x :: st) M := by
  subst hn; intro p e s m args below meth c H locs ls C hP hS hl
  exact lv_istore C.1 C.2.1 hd hl.has hi rfl (fun ls2 h2 => k p e s m args below meth c H locs ls2 C hP hS (zlo_store1 hp h2))
theorem zi_astore10 {a0 a1 a2 a3 a4 a5 a6 a7 a8 a9 a10 : Option Value} {tl : List (Option Value)} {x : Nat} (hd : decode mi.2.1 pc = .ok (.astore 10, 2)) (hn : pc + 2 = n) (hi : 10 < mi.2.2.1) (hp : zpv (a0 :: a1 :: a2 :: a3 :: a4 :: a5 :: a6 :: a7 :: a8 :: a9 :: a10 :: tl) 10 = true) (k : zG E mi d rv M1 n (a0 :: a1 :: a2 :: a3 :: a4 :: a5 :: a6 :: a7 :: a8 :: a9 :: some (.ref x) :: tl) st M) : zG E mi d rv M1 pc (a0 :: a1 :: a2 :: a3 :: a4 :: a5 :: a6 :: a7 :: a8 :: a9 :: a10 :: tl) (.ref x :: st) M := by
  subst hn; intro p e s m args below meth c H locs ls C hP hS hl
  exact lv_astore C.1 C.2.1 hd hl.has hi rfl (fun ls2 h2 => k p e s m args below meth c H locs ls2 C hP hS (zlo_store1 hp h2))
theorem zi_iinc10 {a0 a1 a2 a3 a4 a5 a6 a7 a8 a9 : Option Value} {tl : List (Option Value)} {x : Int32} {by_ : Int} (v : Int32) (hd : decode mi.2.1 pc = .ok (.iinc 10 by_, 3)) (hn : pc + 3 = n) (hi : 10 < mi.2.2.1) (hp : zpv (a0 :: a1 :: a2 :: a3 :: a4 :: a5 :: a6 :: a7 :: a8 :: a9 :: some (.int x) :: tl) 10 = true) (hv : x + Int32.ofInt by_ = v) (k : zG E mi d rv M1 n (a0 :: a1 :: a2 :: a3 :: a4 :: a5 :: a6 :: a7 :: a8 :: a9 :: some (.int v) :: tl) st M) : zG E mi d rv M1 pc (a0 :: a1 :: a2 :: a3 :: a4 :: a5 :: a6 :: a7 :: a8 :: a9 :: some (.int x) :: tl) st M := by
  subst hn; intro p e s m args below meth c H locs ls C hP hS hl
  obtain ⟨kk, hkk⟩ := List.getElem?_of_mem (zll_of (a0 :: a1 :: a2 :: a3 :: a4 :: a5 :: a6 :: a7 :: a8 :: a9 :: some (.int x) :: tl) 0 10 (.int x) rfl)
  exact lv_iinc C.1 C.2.1 hd hl.has (k := kk) (x := x) (by rw [hkk]) hv hi rfl (fun ls2 h2 => k p e s m args below meth c H locs ls2 C hP hS (zlo_store1 hp h2))
theorem zi_lstore10 {a0 a1 a2 a3 a4 a5 a6 a7 a8 a9 a10 a11 : Option Value} {tl : List (Option Value)} {x : Int64} (hd : decode mi.2.1 pc = .ok (.lstore 10, 2)) (hn : pc + 2 = n) (hi : 10 + 1 < mi.2.2.1) (hp : zpv (a0 :: a1 :: a2 :: a3 :: a4 :: a5 :: a6 :: a7 :: a8 :: a9 :: a10 :: a11 :: tl) 10 = true) (k : zG E mi d rv M1 n (a0 :: a1 :: a2 :: a3 :: a4 :: a5 :: a6 :: a7 :: a8 :: a9 :: some (.long x) :: none :: tl) st M) : zG E mi d rv M1 pc (a0 :: a1 :: a2 :: a3 :: a4 :: a5 :: a6 :: a7 :: a8 :: a9 :: a10 :: a11 :: tl) (.long x :: st) M := by
  subst hn; intro p e s m args below meth c H locs ls C hP hS hl
  exact lv_lstore C.1 C.2.1 hd hl.has hi rfl (fun ls2 h2 => k p e s m args below meth c H locs ls2 C hP hS (zlo_store2 hp h2))
theorem zi_iload11 {a0 a1 a2 a3 a4 a5 a6 a7 a8 a9 a10 : Option Value} {tl : List (Option Value)} {x : Int32} (hd : decode mi.2.1 pc = .ok (.iload 11, 2)) (hn : pc + 2 = n) (k : zG E mi d rv M1 n (a0 :: a1 :: a2 :: a3 :: a4 :: a5 :: a6 :: a7 :: a8 :: a9 :: a10 :: some (.int x) :: tl) (.int x :: st) M) : zG E mi d rv M1 pc (a0 :: a1 :: a2 :: a3 :: a4 :: a5 :: a6 :: a7 :: a8 :: a9 :: a10 :: some (.int x) :: tl) st M := by
  subst hn; intro p e s m args below meth c H locs ls C hP hS hl
  exact lv_iload C.1 C.2.1 hd (hl.2.2 11 _ rfl) (k p e s m args below meth c H locs ls C hP hS hl)
theorem zi_lload11 {a0 a1 a2 a3 a4 a5 a6 a7 a8 a9 a10 : Option Value} {tl : List (Option Value)} {x : Int64} (hd : decode mi.2.1 pc = .ok (.lload 11, 2)) (hn : pc + 2 = n) (k : zG E mi d rv M1 n (a0 :: a1 :: a2 :: a3 :: a4 :: a5 :: a6 :: a7 :: a8 :: a9 :: a10 :: some (.long x) :: tl) (.long x :: st) M) : zG E mi d rv M1 pc (a0 :: a1 :: a2 :: a3 :: a4 :: a5 :: a6 :: a7 :: a8 :: a9 :: a10 :: some (.long x) :: tl) st M := by
  subst hn; intro p e s m args below meth c H locs ls C hP hS hl
  exact lv_lload C.1 C.2.1 hd (hl.2.2 11 _ rfl) (k p e s m args below meth c H locs ls C hP hS hl)
theorem zi_aload11 {a0 a1 a2 a3 a4 a5 a6 a7 a8 a9 a10 : Option Value} {tl : List (Option Value)} {x : Nat} (hd : decode mi.2.1 pc = .ok (.aload 11, 2)) (hn : pc + 2 = n) (k : zG E mi d rv M1 n (a0 :: a1 :: a2 :: a3 :: a4 :: a5 :: a6 :: a7 :: a8 :: a9 :: a10 :: some (.ref x) :: tl) (.ref x :: st) M) : zG E mi d rv M1 pc (a0 :: a1 :: a2 :: a3 :: a4 :: a5 :: a6 :: a7 :: a8 :: a9 :: a10 :: some (.ref x) :: tl) st M := by
  subst hn; intro p e s m args below meth c H locs ls C hP hS hl
  exact lv_aload C.1 C.2.1 hd (hl.2.2 11 _ rfl) (k p e s m args below meth c H locs ls C hP hS hl)
theorem zi_istore11 {a0 a1 a2 a3 a4 a5 a6 a7 a8 a9 a10 a11 : Option Value} {tl : List (Option Value)} {x : Int32} (hd : decode mi.2.1 pc = .ok (.istore 11, 2)) (hn : pc + 2 = n) (hi : 11 < mi.2.2.1) (hp : zpv (a0 :: a1 :: a2 :: a3 :: a4 :: a5 :: a6 :: a7 :: a8 :: a9 :: a10 :: a11 :: tl) 11 = true) (k : zG E mi d rv M1 n (a0 :: a1 :: a2 :: a3 :: a4 :: a5 :: a6 :: a7 :: a8 :: a9 :: a10 :: some (.int x) :: tl) st M) : zG E mi d rv M1 pc (a0 :: a1 :: a2 :: a3 :: a4 :: a5 :: a6 :: a7 :: a8 :: a9 :: a10 :: a11 :: tl) (.int x :: st) M := by
  subst hn; intro p e s m args below meth c H locs ls C hP hS hl
  exact lv_istore C.1 C.2.1 hd hl.has hi rfl (fun ls2 h2 => k p e s m args below meth c H locs ls2 C hP hS (zlo_store1 hp h2))
theorem zi_astore11 {a0 a1 a2 a3 a4 a5 a6 a7 a8 a9 a10 a11 : Option Value} {tl : List (Option Value)} {x : Nat} (hd : decode mi.2.1 pc = .ok (.astore 11, 2)) (hn : pc + 2 = n) (hi : 11 < mi.2.2.1) (hp : zpv (a0 :: a1 :: a2 :: a3 :: a4 :: a5 :: a6 :: a7 :: a8 :: a9 :: a10 :: a11 :: tl) 11 = true) (k : zG E mi d rv M1 n (a0 :: a1 :: a2 :: a3 :: a4 :: a5 :: a6 :: a7 :: a8 :: a9 :: a10 :: some (.ref x) :: tl) st M) : zG E mi d rv M1 pc (a0 :: a1 :: a2 :: a3 :: a4 :: a5 :: a6 :: a7 :: a8 :: a9 :: a10 :: a11 :: tl) (.ref x :: st) M := by
  subst hn; intro p e s m args below meth c H locs ls C hP hS hl
  exact lv_astore C.1 C.2.1 hd hl.has hi rfl (fun ls2 h2 => k p e s m args below meth c H locs ls2 C hP hS (zlo_store1 hp h2))
theorem zi_iinc11 {a0 a1 a2 a3 a4 a5 a6 a7 a8 a9 a10 : Option Value} {tl : List (Option Value)} {x : Int32} {by_ : Int} (v : Int32) (hd : decode mi.2.1 pc = .ok (.iinc 11 by_, 3)) (hn : pc + 3 = n) (hi : 11 < mi.2.2.1) (hp : zpv (a0 :: a1 :: a2 :: a3 :: a4 :: a5 :: a6 :: a7 :: a8 :: a9 :: a10 :: some (.int x) :: tl) 11 = true) (hv : x + Int32.ofInt by_ = v) (k : zG E mi d rv M1 n (a0 :: a1 :: a2 :: a3 :: a4 :: a5 :: a6 :: a7 :: a8 :: a9 :: a10 :: some (.int v) :: tl) st M) : zG E mi d rv M1 pc (a0 :: a1 :: a2 :: a3 :: a4 :: a5 :: a6 :: a7 :: a8 :: a9 :: a10 :: some (.int x) :: tl) st M := by
  subst hn; intro p e s m args below meth c H locs ls C hP hS hl
  obtain ⟨kk, hkk⟩ := List.getElem?_of_mem (zll_of (a0 :: a1 :: a2 :: a3 :: a4 :: a5 :: a6 :: a7 :: a8 :: a9 :: a10 :: some (.int x) :: tl) 0 11 (.int x) rfl)
  exact lv_iinc C.1 C.2.1 hd hl.has (k := kk) (x := x) (by rw [hkk]) hv hi rfl (fun ls2 h2 => k p e s m args below meth c H locs ls2 C hP hS (zlo_store1 hp h2))
theorem zi_lstore11 {a0 a1 a2 a3 a4 a5 a6 a7 a8 a9 a10 a11 a12 : Option Value} {tl : List (Option Value)} {x : Int64} (hd : decode mi.2.1 pc = .ok (.lstore 11, 2)) (hn : pc + 2 = n) (hi : 11 + 1 < mi.2.2.1) (hp : zpv (a0 :: a1 :: a2 :: a3 :: a4 :: a5 :: a6 :: a7 :: a8 :: a9 :: a10 :: a11 :: a12 :: tl) 11 = true) (k : zG E mi d rv M1 n (a0 :: a1 :: a2 :: a3 :: a4 :: a5 :: a6 :: a7 :: a8 :: a9 :: a10 :: some (.long x) :: none :: tl) st M) : zG E mi d rv M1 pc (a0 :: a1 :: a2 :: a3 :: a4 :: a5 :: a6 :: a7 :: a8 :: a9 :: a10 :: a11 :: a12 :: tl) (.long x :: st) M := by
  subst hn; intro p e s m args below meth c H locs ls C hP hS hl
  exact lv_lstore C.1 C.2.1 hd hl.has hi rfl (fun ls2 h2 => k p e s m args below meth c H locs ls2 C hP hS (zlo_store2 hp h2))
theorem zi_iload12 {a0 a1 a2 a3 a4 a5 a6 a7 a8 a9 a10 a11 : Option Value} {tl : List (Option Value)} {x : Int32} (hd : decode mi.2.1 pc = .ok (.iload 12, 2)) (hn : pc + 2 = n) (k : zG E mi d rv M1 n (a0 :: a1 :: a2 :: a3 :: a4 :: a5 :: a6 :: a7 :: a8 :: a9 :: a10 :: a11 :: some (.int x) :: tl) (.int x :: st) M) : zG E mi d rv M1 pc (a0 :: a1 :: a2 :: a3 :: a4 :: a5 :: a6 :: a7 :: a8 :: a9 :: a10 :: a11 :: some (.int x) :: tl) st M := by
  subst hn; intro p e s m args below meth c H locs ls C hP hS hl
  exact lv_iload C.1 C.2.1 hd (hl.2.2 12 _ rfl) (k p e s m args below meth c H locs ls C hP hS hl)
theorem zi_lload12 {a0 a1 a2 a3 a4 a5 a6 a7 a8 a9 a10 a11 : Option Value} {tl : List (Option Value)} {x : Int64} (hd : decode mi.2.1 pc = .ok (.lload 12, 2)) (hn : pc + 2 = n) (k : zG E mi d rv M1 n (a0 :: a1 :: a2 :: a3 :: a4 :: a5 :: a6 :: a7 :: a8 :: a9 :: a10 :: a11 :: some (.long x) :: tl) (.long x :: st) M) : zG E mi d rv M1 pc (a0 :: a1 :: a2 :: a3 :: a4 :: a5 :: a6 :: a7 :: a8 :: a9 :: a10 :: a11 :: some (.long x) :: tl) st M := by
  subst hn; intro p e s m args below meth c H locs ls C hP hS hl
  exact lv_lload C.1 C.2.1 hd (hl.2.2 12 _ rfl) (k p e s m args below meth c H locs ls C hP hS hl)
theorem zi_aload12 {a0 a1 a2 a3 a4 a5 a6 a7 a8 a9 a10 a11 : Option Value} {tl : List (Option Value)} {x : Nat} (hd : decode mi.2.1 pc = .ok (.aload 12, 2)) (hn : pc + 2 = n) (k : zG E mi d rv M1 n (a0 :: a1 :: a2 :: a3 :: a4 :: a5 :: a6 :: a7 :: a8 :: a9 :: a10 :: a11 :: some (.ref x) :: tl) (.ref x :: st) M) : zG E mi d rv M1 pc (a0 :: a1 :: a2 :: a3 :: a4 :: a5 :: a6 :: a7 :: a8 :: a9 :: a10 :: a11 :: some (.ref x) :: tl) st M := by
  subst hn; intro p e s m args below meth c H locs ls C hP hS hl
  exact lv_aload C.1 C.2.1 hd (hl.2.2 12 _ rfl) (k p e s m args below meth c H locs ls C hP hS hl)
theorem zi_istore12 {a0 a1 a2 a3 a4 a5 a6 a7 a8 a9 a10 a11 a12 : Option Value} {tl : List (Option Value)} {x : Int32} (hd : decode mi.2.1 pc = .ok (.istore 12, 2)) (hn : pc + 2 = n) (hi : 12 < mi.2.2.1) (hp : zpv (a0 :: a1 :: a2 :: a3 :: a4 :: a5 :: a6 :: a7 :: a8 :: a9 :: a10 :: a11 :: a12 :: tl) 12 = true) (k : zG E mi d rv M1 n (a0 :: a1 :: a2 :: a3 :: a4 :: a5 :: a6 :: a7 :: a8 :: a9 :: a10 :: a11 :: some (.int x) :: tl) st M) : zG E mi d rv M1 pc (a0 :: a1 :: a2 :: a3 :: a4 :: a5 :: a6 :: a7 :: a8 :: a9 :: a10 :: a11 :: a12 :: tl) (.int x :: st) M := by
  subst hn; intro p e s m args below meth c H locs ls C hP hS hl
  exact lv_istore C.1 C.2.1 hd hl.has hi rfl (fun ls2 h2 => k p e s m args below meth c H locs ls2 C hP hS (zlo_store1 hp h2))
theorem zi_astore12 {a0 a1 a2 a3 a4 a5 a6 a7 a8 a9 a10 a11 a12 : Option Value} {tl : List (Option Value)} {x : Nat} (hd : decode mi.2.1 pc = .ok (.astore 12, 2)) (hn : pc + 2 = n) (hi : 12 < mi.2.2.1) (hp : zpv (a0 :: a1 :: a2 :: a3 :: a4 :: a5 :: a6 :: a7 :: a8 :: a9 :: a10 :: a11 :: a12 :: tl) 12 = true) (k : zG E mi d rv M1 n (a0 :: a1 :: a2 :: a3 :: a4 :: a5 :: a6 :: a7 :: a8 :: a9 :: a10 :: a11 :: some (.ref x) :: tl) st M) : zG E mi d rv M1 pc (a0 :: a1 :: a2 :: a3 :: a4 :: a5 :: a6 :: a7 :: a8 :: a9 :: a10 :: a11 :: a12 :: tl) (.ref x :: st) M := by
  subst hn; intro p e s m args below meth c H locs ls C hP hS hl
  exact lv_astore C.1 C.2.1 hd hl.has hi rfl (fun ls2 h2 => k p e s m args below meth c H locs ls2 C hP hS (zlo_store1 hp h2))
theorem zi_iinc12 {a0 a1 a2 a3 a4 a5 a6 a7 a8 a9 a10 a11 : Option Value} {tl : List (Option Value)} {x : Int32} {by_ : Int} (v : Int32) (hd : decode mi.2.1 pc = .ok (.iinc 12 by_, 3)) (hn : pc + 3 = n) (hi : 12 < mi.2.2.1) (hp : zpv (a0 :: a1 :: a2 :: a3 :: a4 :: a5 :: a6 :: a7 :: a8 :: a9 :: a10 :: a11 :: some (.int x) :: tl) 12 = true) (hv : x + Int32.ofInt by_ = v) (k : zG E mi d rv M1 n (a0 :: a1 :: a2 :: a3 :: a4 :: a5 :: a6 :: a7 :: a8 :: a9 :: a10 :: a11 :: some (.int v) :: tl) st M) : zG E mi d rv M1 pc (a0 :: a1 :: a2 :: a3 :: a4 :: a5 :: a6 :: a7 :: a8 :: a9 :: a10 :: a11 :: some (.int x) :: tl) st M := by
  subst hn; intro p e s m args below meth c H locs ls C hP hS hl
  obtain ⟨kk, hkk⟩ := List.getElem?_of_mem (zll_of (a0 :: a1 :: a2 :: a3 :: a4 :: a5 :: a6 :: a7 :: a8 :: a9 :: a10 :: a11 :: some (.int x) :: tl) 0 12 (.int x) rfl)
  exact lv_iinc C.1 C.2.1 hd hl.has (k := kk) (x := x) (by rw [hkk]) hv hi rfl (fun ls2 h2 => k p e s m args below meth c H locs ls2 C hP hS (zlo_store1 hp h2))
theorem zi_lstore12 {a0 a1 a2 a3 a4 a5 a6 a7 a8 a9 a10 a11 a12 a13 : Option Value} {tl : List (Option Value)} {x : Int64} (hd : decode mi.2.1 pc = .ok (.lstore 12, 2)) (hn : pc + 2 = n) (hi : 12 + 1 < mi.2.2.1) (hp : zpv (a0 :: a1 :: a2 :: a3 :: a4 :: a5 :: a6 :: a7 :: a8 :: a9 :: a10 :: a11 :: a12 :: a13 :: tl) 12 = true) (k : zG E mi d rv M1 n (a0 :: a1 :: a2 :: a3 :: a4 :: a5 :: a6 :: a7 :: a8 :: a9 :: a10 :: a11 :: some (.long x) :: none :: tl) st M) : zG E mi d rv M1 pc (a0 :: a1 :: a2 :: a3 :: a4 :: a5 :: a6 :: a7 :: a8 :: a9 :: a10 :: a11 :: a12 :: a13 :: tl) (.long x :: st) M := by
  subst hn; intro p e s m args below meth c H locs ls C hP hS hl
  exact lv_lstore C.1 C.2.1 hd hl.has hi rfl (fun ls2 h2 => k p e s m args below meth c H locs ls2 C hP hS (zlo_store2 hp h2))
theorem zi_iload13 {a0 a1 a2 a3 a4 a5 a6 a7 a8 a9 a10 a11 a12 : Option Value} {tl : List (Option Value)} {x : Int32} (hd : decode mi.2.1 pc = .ok (.iload 13, 2)) (hn : pc + 2 = n) (k : zG E mi d rv M1 n (a0 :: a1 :: a2 :: a3 :: a4 :: a5 :: a6 :: a7 :: a8 :: a9 :: a10 :: a11 :: a12 :: some (.int x) :: tl) (.int x :: st) M) : zG E mi d rv M1 pc (a0 :: a1 :: a2 :: a3 :: a4 :: a5 :: a6 :: a7 :: a8 :: a9 :: a10 :: a11 :: a12 :: some (.int x) :: tl) st M := by
  subst hn; intro p e s m args below meth c H locs ls C hP hS hl
  exact lv_iload C.1 C.2.1 hd (hl.2.2 13 _ rfl) (k p e s m args below meth c H locs ls C hP hS hl)
theorem zi_lload13 {a0 a1 a2 a3 a4 a5 a6 a7 a8 a9 a10 a11 a12 : Option Value} {tl : List (Option Value)} {x : Int64} (hd : decode mi.2.1 pc = .ok (.lload 13, 2)) (hn : pc + 2 = n) (k : zG E mi d rv M1 n (a0 :: a1 :: a2 :: a3 :: a4 :: a5 :: a6 :: a7 :: a8 :: a9 :: a10 :: a11 :: a12 :: some (.long x) :: tl) (.long x :: st) M) : zG E mi d rv M1 pc (a0 :: a1 :: a2 :: a3 :: a4 :: a5 :: a6 :: a7 :: a8 :: a9 :: a10 :: a11 :: a12 :: some (.long x) :: tl) st M := by
  subst hn; intro p e s m args below meth c H locs ls C hP hS hl
  exact lv_lload C.1 C.2.1 hd (hl.2.2 13 _ rfl) (k p e s m args below meth c H locs ls C hP hS hl)
theorem zi_aload13 {a0 a1 a2 a3 a4 a5 a6 a7 a8 a9 a10 a11 a12 : Option Value} {tl : List (Option Value)} {x : Nat} (hd : decode mi.2.1 pc = .ok (.aload 13, 2)) (hn : pc + 2 = n) (k : zG E mi d rv M1 n (a0 :: a1 :: a2 :: a3 :: a4 :: a5 :: a6 :: a7 :: a8 :: a9 :: a10 :: a11 :: a12 :: some (.ref x) :: tl) (.ref x :: st) M) : zG E mi d rv M1 pc (a0 :: a1 :: a2 :: a3 :: a4 :: a5 :: a6 :: a7 :: a8 :: a9 :: a10 :: a11 :: a12 :: some (.ref x) :: tl) st M := by
  subst hn; intro p e s m args below meth c H locs ls C hP hS hl
  exact lv_aload C.1 C.2.1 hd (hl.2.2 13 _ rfl) (k p e s m args below meth c H locs ls C hP hS hl)
theorem zi_istore13 {a0 a1 a2 a3 a4 a5 a6 a7 a8 a9 a10 a11 a12 a13 : Option Value} {tl : List (Option Value)} {x : Int32} (hd : decode mi.2.1 pc = .ok (.istore 13, 2)) (hn : pc + 2 = n) (hi : 13 < mi.2.2.1) (hp : zpv (a0 :: a1 :: a2 :: a3 :: a4 :: a5 :: a6 :: a7 :: a8 :: a9 :: a10 :: a11 :: a12 :: a13 :: tl) 13 = true) (k : zG E mi d rv M1 n (a0 :: a1 :: a2 :: a3 :: a4 :: a5 :: a6 :: a7 :: a8 :: a9 :: a10 :: a11 :: a12 :: some (.int x) :: tl) st M) : zG E mi d rv M1 pc (a0 :: a1 :: a2 :: a3 :: a4 :: a5 :: a6 :: a7 :: a8 :: a9 :: a10 :: a11 :: a12 :: a13 :: tl) (.int x :: st) M := by
  subst hn; intro p e s m args below meth c H locs ls C hP hS hl
  exact lv_istore C.1 C.2.1 hd hl.has hi rfl (fun ls2 h2 => k p e s m args below meth c H locs ls2 C hP hS (zlo_store1 hp h2))
theorem zi_astore13 {a0 a1 a2 a3 a4 a5 a6 a7 a8 a9 a10 a11 a12 a13 : Option Value} {tl : List (Option Value)} {x : Nat} (hd : decode mi.2.1 pc = .ok (.astore 13, 2)) (hn : pc + 2 = n) (hi : 13 < mi.2.2.1) (hp : zpv (a0 :: a1 :: a2 :: a3 :: a4 :: a5 :: a6 :: a7 :: a8 :: a9 :: a10 :: a11 :: a12 :: a13 :: tl) 13 = true) (k : zG E mi d rv M1 n (a0 :: a1 :: a2 :: a3 :: a4 :: a5 :: a6 :: a7 :: a8 :: a9 :: a10 :: a11 :: a12 :: some (.ref x) :: tl) st M) : zG E mi d rv M1 pc (a0 :: a1 :: a2 :: a3 :: a4 :: a5 :: a6 :: a7 :: a8 :: a9 :: a10 :: a11 :: a12 :: a13 :: tl) (.ref x :: st) M := by
  subst hn; intro p e s m args below meth c H locs ls C hP hS hl
  exact lv_astore C.1 C.2.1 hd hl.has hi rfl (fun ls2 h2 => k p e s m args below meth c H locs ls2 C hP hS (zlo_store1 hp h2))
theorem zi_iinc13 {a0 a1 a2 a3 a4 a5 a6 a7 a8 a9 a10 a11 a12 : Option Value} {tl : List (Option Value)} {x : Int32} {by_ : Int} (v : Int32) (hd : decode mi.2.1 pc = .ok (.iinc 13 by_, 3)) (hn : pc + 3 = n) (hi : 13 < mi.2.2.1) (hp : zpv (a0 :: a1 :: a2 :: a3 :: a4 :: a5 :: a6 :: a7 :: a8 :: a9 :: a10 :: a11 :: a12 :: some (.int x) :: tl) 13 = true) (hv : x + Int32.ofInt by_ = v) (k : zG E mi d rv M1 n (a0 :: a1 :: a2 :: a3 :: a4 :: a5 :: a6 :: a7 :: a8 :: a9 :: a10 :: a11 :: a12 :: some (.int v) :: tl) st M) : zG E mi d rv M1 pc (a0 :: a1 :: a2 :: a3 :: a4 :: a5 :: a6 :: a7 :: a8 :: a9 :: a10 :: a11 :: a12 :: some (.int x) :: tl) st M := by
  subst hn; intro p e s m args below meth c H locs ls C hP hS hl
  obtain ⟨kk, hkk⟩ := List.getElem?_of_mem (zll_of (a0 :: a1 :: a2 :: a3 :: a4 :: a5 :: a6 :: a7 :: a8 :: a9 :: a10 :: a11 :: a12 :: some (.int x) :: tl) 0 13 (.int x) rfl)
  exact lv_iinc C.1 C.2.1 hd hl.has (k := kk) (x := x) (by rw [hkk]) hv hi rfl (fun ls2 h2 => k p e s m args below meth c H locs ls2 C hP hS (zlo_store1 hp h2))
theorem zi_lstore13 {a0 a1 a2 a3 a4 a5 a6 a7 a8 a9 a10 a11 a12 a13 a14 : Option Value} {tl : List (Option Value)} {x : Int64} (hd : decode mi.2.1 pc = .ok (.lstore 13, 2)) (hn : pc + 2 = n) (hi : 13 + 1 < mi.2.2.1) (hp : zpv (a0 :: a1 :: a2 :: a3 :: a4 :: a5 :: a6 :: a7 :: a8 :: a9 :: a10 :: a11 :: a12 :: a13 :: a14 :: tl) 13 = true) (k : zG E mi d rv M1 n (a0 :: a1 :: a2 :: a3 :: a4 :: a5 :: a6 :: a7 :: a8 :: a9 :: a10 :: a11 :: a12 :: some (.long x) :: none :: tl) st M) : zG E mi d rv M1 pc (a0 :: a1 :: a2 :: a3 :: a4 :: a5 :: a6 :: a7 :: a8 :: a9 :: a10 :: a11 :: a12 :: a13 :: a14 :: tl) (.long x :: st) M := by
  subst hn; intro p e s m args below meth c H locs ls C hP hS hl
  exact lv_lstore C.1 C.2.1 hd hl.has hi rfl (fun ls2 h2 => k p e s m args below meth c H locs ls2 C hP hS (zlo_store2 hp h2))
theorem zi_iload14 {a0 a1 a2 a3 a4 a5 a6 a7 a8 a9 a10 a11 a12 a13 : Option Value} {tl : List (Option Value)} {x : Int32} (hd : decode mi.2.1 pc = .ok (.iload 14, 2)) (hn : pc + 2 = n) (k : zG E mi d rv M1 n (a0 :: a1 :: a2 :: a3 :: a4 :: a5 :: a6 :: a7 :: a8 :: a9 :: a10 :: a11 :: a12 :: a13 :: some (.int x) :: tl) (.int x :: st) M) : zG E mi d rv M1 pc (a0 :: a1 :: a2 :: a3 :: a4 :: a5 :: a6 :: a7 :: a8 :: a9 :: a10 :: a11 :: a12 :: a13 :: some (.int x) :: tl) st M := by
  subst hn; intro p e s m args below meth c H locs ls C hP hS hl
  exact lv_iload C.1 C.2.1 hd (hl.2.2 14 _ rfl) (k p e s m args below meth c H locs ls C hP hS hl)
theorem zi_lload14 {a0 a1 a2 a3 a4 a5 a6 a7 a8 a9 a10 a11 a12 a13 : Option Value} {tl : List (Option Value)} {x : Int64} (hd : decode mi.2.1 pc = .ok (.lload 14, 2)) (hn : pc + 2 = n) (k : zG E mi d rv M1 n (a0 :: a1 :: a2 :: a3 :: a4 :: a5 :: a6 :: a7 :: a8 :: a9 :: a10 :: a11 :: a12 :: a13 :: some (.long x) :: tl) (.long x :: st) M) : zG E mi d rv M1 pc (a0 :: a1 :: a2 :: a3 :: a4 :: a5 :: a6 :: a7 :: a8 :: a9 :: a10 :: a11 :: a12 :: a13 :: some (.long x) :: tl) st M := by
  subst hn; intro p e s m args below meth c H locs ls C hP hS hl
  exact lv_lload C.1 C.2.1 hd (hl.2.2 14 _ rfl) (k p e s m args below meth c H locs ls C hP hS hl)
theorem zi_aload14 {a0 a1 a2 a3 a4 a5 a6 a7 a8 a9 a10 a11 a12 a13 : Option Value} {tl : List (Option Value)} {x : Nat} (hd : decode mi.2.1 pc = .ok (.aload 14, 2)) (hn : pc + 2 = n) (k : zG E mi d rv M1 n (a0 :: a1 :: a2 :: a3 :: a4 :: a5 :: a6 :: a7 :: a8 :: a9 :: a10 :: a11 :: a12 :: a13 :: some (.ref x) :: tl) (.ref x :: st) M) : zG E mi d rv M1 pc (a0 :: a1 :: a2 :: a3 :: a4 :: a5 :: a6 :: a7 :: a8 :: a9 :: a10 :: a11 :: a12 :: a13 :: some (.ref x) :: tl) st M := by
  subst hn; intro p e s m args below meth c H locs ls C hP hS hl
  exact lv_aload C.1 C.2.1 hd (hl.2.2 14 _ rfl) (k p e s m args below meth c H locs ls C hP hS hl)
theorem zi_istore14 {a0 a1 a2 a3 a4 a5 a6 a7 a8 a9 a10 a11 a12 a13 a14 : Option Value} {tl : List (Option Value)} {x : Int32} (hd : decode mi.2.1 pc = .ok (.istore 14, 2)) (hn : pc + 2 = n) (hi : 14 < mi.2.2.1) (hp : zpv (a0 :: a1 :: a2 :: a3 :: a4 :: a5 :: a6 :: a7 :: a8 :: a9 :: a10 :: a11 :: a12 :: a13 :: a14 :: tl) 14 = true) (k : zG E mi d rv M1 n (a0 :: a1 :: a2 :: a3 :: a4 :: a5 :: a6 :: a7 :: a8 :: a9 :: a10 :: a11 :: a12 :: a13 :: some (.int x) :: tl) st M) : zG E mi d rv M1 pc (a0 :: a1 :: a2 :: a3 :: a4 :: a5 :: a6 :: a7 :: a8 :: a9 :: a10 :: a11 :: a12 :: a13 :: a14 :: tl) (.int x :: st) M := by
  subst hn; intro p e s m args below meth c H locs ls C hP hS hl
  exact lv_istore C.1 C.2.1 hd hl.has hi rfl (fun ls2 h2 => k p e s m args below meth c H locs ls2 C hP hS (zlo_store1 hp h2))
theorem zi_astore14 {a0 a1 a2 a3 a4 a5 a6 a7 a8 a9 a10 a11 a12 a13 a14 : Option Value} {tl : List (Option Value)} {x : Nat} (hd : decode mi.2.1 pc = .ok (.astore 14, 2)) (hn : pc + 2 = n) (hi : 14 < mi.2.2.1) (hp : zpv (a0 :: a1 :: a2 :: a3 :: a4 :: a5 :: a6 :: a7 :: a8 :: a9 :: a10 :: a11 :: a12 :: a13 :: a14 :: tl) 14 = true) (k : zG E mi d rv M1 n (a0 :: a1 :: a2 :: a3 :: a4 :: a5 :: a6 :: a7 :: a8 :: a9 :: a10 :: a11 :: a12 :: a13 :: some (.ref x) :: tl) st M) : zG E mi d rv M1 pc (a0 :: a1 :: a2 :: a3 :: a4 :: a5 :: a6 :: a7 :: a8 :: a9 :: a10 :: a11 :: a12 :: a13 :: a14 :: tl) (.ref x :: st) M := by
  subst hn; intro p e s m args below meth c H locs ls C hP hS hl
  exact lv_astore C.1 C.2.1 hd hl.has hi rfl (fun ls2 h2 => k p e s m args below meth c H locs ls2 C hP hS (zlo_store1 hp h2))
theorem zi_iinc14 {a0 a1 a2 a3 a4 a5 a6 a7 a8 a9 a10 a11 a12 a13 : Option Value} {tl : List (Option Value)} {x : Int32} {by_ : Int} (v : Int32) (hd : decode mi.2.1 pc = .ok (.iinc 14 by_, 3)) (hn : pc + 3 = n) (hi : 14 < mi.2.2.1) (hp : zpv (a0 :: a1 :: a2 :: a3 :: a4 :: a5 :: a6 :: a7 :: a8 :: a9 :: a10 :: a11 :: a12 :: a13 :: some (.int x) :: tl) 14 = true) (hv : x + Int32.ofInt by_ = v) (k : zG E mi d rv M1 n (a0 :: a1 :: a2 :: a3 :: a4 :: a5 :: a6 :: a7 :: a8 :: a9 :: a10 :: a11 :: a12 :: a13 :: some (.int v) :: tl) st M) : zG E mi d rv M1 pc (a0 :: a1 :: a2 :: a3 :: a4 :: a5 :: a6 :: a7 :: a8 :: a9 :: a10 :: a11 :: a12 :: a13 :: some (.int x) :: tl) st M := by
  subst hn; intro p e s m args below meth c H locs ls C hP hS hl
  obtain ⟨kk, hkk⟩ := List.getElem?_of_mem (zll_of (a0 :: a1 :: a2 :: a3 :: a4 :: a5 :: a6 :: a7 :: a8 :: a9 :: a10 :: a11 :: a12 :: a13 :: some (.int x) :: tl) 0 14 (.int x) rfl)
  exact lv_iinc C.1 C.2.1 hd hl.has (k := kk) (x := x) (by rw [hkk]) hv hi rfl (fun ls2 h2 => k p e s m args below meth c H locs ls2 C hP hS (zlo_store1 hp h2))
theorem zi_lstore14 {a0 a1 a2 a3 a4 a5 a6 a7 a8 a9 a10 a11 a12 a13 a14 a15 : Option Value} {tl : List (Option Value)} {x : Int64} (hd : decode mi.2.1 pc = .ok (.lstore 14, 2)) (hn : pc + 2 = n) (hi : 14 + 1 < mi.2.2.1) (hp : zpv (a0 :: a1 :: a2 :: a3 :: a4 :: a5 :: a6 :: a7 :: a8 :: a9 :: a10 :: a11 :: a12 :: a13 :: a14 :: a15 :: tl) 14 = true) (k : zG E mi d rv M1 n (a0 :: a1 :: a2 :: a3 :: a4 :: a5 :: a6 :: a7 :: a8 :: a9 :: a10 :: a11 :: a12 :: a13 :: some (.long x) :: none :: tl) st M) : zG E mi d rv M1 pc (a0 :: a1 :: a2 :: a3 :: a4 :: a5 :: a6 :: a7 :: a8 :: a9 :: a10 :: a11 :: a12 :: a13 :: a14 :: a15 :: tl) (.long x :: st) M := by
  subst hn; intro p e s m args below meth c H locs ls C hP hS hl
  exact lv_lstore C.1 C.2.1 hd hl.has hi rfl (fun ls2 h2 => k p e s m args below meth c H locs ls2 C hP hS (zlo_store2 hp h2))
theorem zi_iload15 {a0 a1 a2 a3 a4 a5 a6 a7 a8 a9 a10 a11 a12 a13 a14 : Option Value} {tl : List (Option Value)} {x : Int32} (hd : decode mi.2.1 pc = .ok (.iload 15, 2)) (hn : pc + 2 = n) (k : zG E mi d rv M1 n (a0 :: a1 :: a2 :: a3 :: a4 :: a5 :: a6 :: a7 :: a8 :: a9 :: a10 :: a11 :: a12 :: a13 :: a14 :: some (.int x) :: tl) (.int x :: st) M) : zG E mi d rv M1 pc (a0 :: a1 :: a2 :: a3 :: a4 :: a5 :: a6 :: a7 :: a8 :: a9 :: a10 :: a11 :: a12 :: a13 :: a14 :: some (.int x) :: tl) st M := by
  subst hn; intro p e s m args below meth c H locs ls C hP hS hl
  exact lv_iload C.1 C.2.1 hd (hl.2.2 15 _ rfl) (k p e s m args below meth c H locs ls C hP hS hl)
theorem zi_lload15 {a0 a1 a2 a3 a4 a5 a6 a7 a8 a9 a10 a11 a12 a13 a14 : Option Value} {tl : List (Option Value)} {x : Int64} (hd : decode mi.2.1 pc = .ok (.lload 15, 2)) (hn : pc + 2 = n) (k : zG E mi d rv M1 n (a0 :: a1 :: a2 :: a3 :: a4 :: a5 :: a6 :: a7 :: a8 :: a9 :: a10 :: a11 :: a12 :: a13 :: a14 :: some (.long x) :: tl) (.long x :: st) M) : zG E mi d rv M1 pc (a0 :: a1 :: a2 :: a3 :: a4 :: a5 :: a6 :: a7 :: a8 :: a9 :: a10 :: a11 :: a12 :: a13 :: a14 :: some (.long x) :: tl) st M := by
  subst hn; intro p e s m args below meth c H locs ls C hP hS hl
  exact lv_lload C.1 C.2.1 hd (hl.2.2 15 _ rfl) (k p e s m args below meth c H locs ls C hP hS hl)
theorem zi_aload15 {a0 a1 a2 a3 a4 a5 a6 a7 a8 a9 a10 a11 a12 a13 a14 : Option Value} {tl : List (Option Value)} {x : Nat} (hd : decode mi.2.1 pc = .ok (.aload 15, 2)) (hn : pc + 2 = n) (k : zG E mi d rv M1 n (a0 :: a1 :: a2 :: a3 :: a4 :: a5 :: a6 :: a7 :: a8 :: a9 :: a10 :: a11 :: a12 :: a13 :: a14 :: some (.ref x) :: tl) (.ref x :: st) M) : zG E mi d rv M1 pc (a0 :: a1 :: a2 :: a3 :: a4 :: a5 :: a6 :: a7 :: a8 :: a9 :: a10 :: a11 :: a12 :: a13 :: a14 :: some (.ref x) :: tl) st M := by
  subst hn; intro p e s m args below meth c H locs ls C hP hS hl
  exact lv_aload C.1 C.2.1 hd (hl.2.2 15 _ rfl) (k p e s m args below meth c H locs ls C hP hS hl)
theorem zi_istore15 {a0 a1 a2 a3 a4 a5 a6 a7 a8 a9 a10 a11 a12 a13 a14 a15 : Option Value} {tl : List (Option Value)} {x : Int32} (hd : decode mi.2.1 pc = .ok (.istore 15, 2)) (hn : pc + 2 = n) (hi : 15 < mi.2.2.1) (hp : zpv (a0 :: a1 :: a2 :: a3 :: a4 :: a5 :: a6 :: a7 :: a8 :: a9 :: a10 :: a11 :: a12 :: a13 :: a14 :: a15 :: tl) 15 = true) (k : zG E mi d rv M1 n (a0 :: a1 :: a2 :: a3 :: a4 :: a5 :: a6 :: a7 :: a8 :: a9 :: a10 :: a11 :: a12 :: a13 :: a14 :: some (.int x) :: tl) st M) : zG E mi d rv M1 pc (a0 :: a1 :: a2 :: a3 :: a4 :: a5 :: a6 :: a7 :: a8 :: a9 :: a10 :: a11 :: a12 :: a13 :: a14 :: a15 :: tl) (.int x :: st) M := by
  subst hn; intro p e s m args below meth c H locs ls C hP hS hl
  exact lv_istore C.1 C.2.1 hd hl.has hi rfl (fun ls2 h2 => k p e s m args below meth c H locs ls2 C hP hS (zlo_store1 hp h2))
theorem zi_astore15 {a0 a1 a2 a3 a4 a5 a6 a7 a8 a9 a10 a11 a12 a13 a14 a15 : Option Value} {tl : List (Option Value)} {x : Nat} (hd : decode mi.2.1 pc = .ok (.astore 15, 2)) (hn : pc + 2 = n) (hi : 15 < mi.2.2.1) (hp : zpv (a0 :: a1 :: a2 :: a3 :: a4 :: a5 :: a6 :: a7 :: a8 :: a9 :: a10 :: a11 :: a12 :: a13 :: a14 :: a15 :: tl) 15 = true) (k : zG E mi d rv M1 n (a0 :: a1 :: a2 :: a3 :: a4 :: a5 :: a6 :: a7 :: a8 :: a9 :: a10 :: a11 :: a12 :: a13 :: a14 :: some (.ref x) :: tl) st M) : zG E mi d rv M1 pc (a0 :: a1 :: a2 :: a3 :: a4 :: a5 :: a6 :: a7 :: a8 :: a9 :: a10 :: a11 :: a12 :: a13 :: a14 :: a15 :: tl) (.ref x :: st) M := by
  subst hn; intro p e s m args below meth c H locs ls C hP hS hl
  exact lv_astore C.1 C.2.1 hd hl.has hi rfl (fun ls2 h2 => k p e s m args below meth c H locs ls2 C hP hS (zlo_store1 hp h2))
theorem zi_iinc15 {a0 a1 a2 a3 a4 a5 a6 a7 a8 a9 a10 a11 a12 a13 a14 : Option Value} {tl : List (Option Value)} {x : Int32} {by_ : Int} (v : Int32) (hd : decode mi.2.1 pc = .ok (.iinc 15 by_, 3)) (hn : pc + 3 = n) (hi : 15 < mi.2.2.1) (hp : zpv (a0 :: a1 :: a2 :: a3 :: a4 :: a5 :: a6 :: a7 :: a8 :: a9 :: a10 :: a11 :: a12 :: a13 :: a14 :: some (.int x) :: tl) 15 = true) (hv : x + Int32.ofInt by_ = v) (k : zG E mi d rv M1 n (a0 :: a1 :: a2 :: a3 :: a4 :: a5 :: a6 :: a7 :: a8 :: a9 :: a10 :: a11 :: a12 :: a13 :: a14 :: some (.int v) :: tl) st M) : zG E mi d rv M1 pc (a0 :: a1 :: a2 :: a3 :: a4 :: a5 :: a6 :: a7 :: a8 :: a9 :: a10 :: a11 :: a12 :: a13 :: a14 :: some (.int x) :: tl) st M := by
  subst hn; intro p e s m args below meth c H locs ls C hP hS hl
  obtain ⟨kk, hkk⟩ := List.getElem?_of_mem (zll_of (a0 :: a1 :: a2 :: a3 :: a4 :: a5 :: a6 :: a7 :: a8 :: a9 :: a10 :: a11 :: a12 :: a13 :: a14 :: some (.int x) :: tl) 0 15 (.int x) rfl)
  exact lv_iinc C.1 C.2.1 hd hl.has (k := kk) (x := x) (by rw [hkk]) hv hi rfl (fun ls2 h2 => k p e s m args below meth c H locs ls2 C hP hS (zlo_store1 hp h2))
theorem zi_lstore15 {a0 a1 a2 a3 a4 a5 a6 a7 a8 a9 a10 a11 a12 a13 a14 a15 a16 : Option Value} {tl : List (Option Value)} {x : Int64} (hd : decode mi.2.1 pc = .ok (.lstore 15, 2)) (hn : pc + 2 = n) (hi : 15 + 1 < mi.2.2.1) (hp : zpv (a0 :: a1 :: a2 :: a3 :: a4 :: a5 :: a6 :: a7 :: a8 :: a9 :: a10 :: a11 :: a12 :: a13 :: a14 :: a15 :: a16 :: tl) 15 = true) (k : zG E mi d rv M1 n (a0 :: a1 :: a2 :: a3 :: a4 :: a5 :: a6 :: a7 :: a8 :: a9 :: a10 :: a11 :: a12 :: a13 :: a14 :: some (.long x) :: none :: tl) st M) : zG E mi d rv M1 pc (a0 :: a1 :: a2 :: a3 :: a4 :: a5 :: a6 :: a7 :: a8 :: a9 :: a10 :: a11 :: a12 :: a13 :: a14 :: a15 :: a16 :: tl) (.long x :: st) M := by
  subst hn; intro p e s m args below meth c H locs ls C hP hS hl
  exact lv_lstore C.1 C.2.1 hd hl.has hi rfl (fun ls2 h2 => k p e s m args below meth c H locs ls2 C hP hS (zlo_store2 hp h2))
theorem zi_drop {lo2 : List (Option Value)} (h : ∀ (i : Nat) (v : Value), lo2[i]? = some (some v) → lo[i]? = some (some v)) (k : zG E mi d rv M1 pc lo2 st M) : zG E mi d rv M1 pc lo st M := by
  intro p e s m args below meth c H locs ls C hP hS hl
  exact k p e s m args below meth c H locs ls C hP hS ⟨hl.1, hl.2.1, fun i v hv => hl.2.2 i v (h i v hv)⟩
theorem zi_iret {v : Int32} (hd : decode mi.2.1 pc = .ok (.ireturn, 1)) (hr : mi.2.2.2 = some .int) (hv : rv = some (.int v)) (hM : M1 = M) : zG E mi d rv M1 pc lo [.int v] M := by
  subst hv; subst hM
  intro p e s m args below meth c H locs ls C hP hS hl
  have hlocks := C.2.2.2.2.2.2.1
  exact W.iret C.1 C.2.1 (C.2.2.1.trans hr) (fun t ht hW => ⟨rfl, by rw [ht]; exact hP, hS.F ht⟩) hS.2.2 hd
theorem zi_zret {b : Prop} [Decidable b] (hd : decode mi.2.1 pc = .ok (.ireturn, 1)) (hr : mi.2.2.2 = some .boolean) {v : Int32} (hb : v = zb b) (hv : rv = some (.int (zb b))) (hM : M1 = M) : zG E mi d rv M1 pc lo [.int v] M := by
  subst hv; subst hM; subst hb
  intro p e s m args below meth c H locs ls C hP hS hl
  have hlocks := C.2.2.2.2.2.2.1
  refine W.zret C.1 C.2.1 (C.2.2.1.trans hr) ?_ (fun t ht hW => ⟨rfl, by rw [ht]; exact hP, hS.F ht⟩) hS.2.2 hd
  unfold zb
  split <;> decide
theorem zi_lret {v : Int64} (hd : decode mi.2.1 pc = .ok (.lreturn, 1)) (hr : mi.2.2.2 = some .long) (hv : rv = some (.long v)) (hM : M1 = M) : zG E mi d rv M1 pc lo [.long v] M := by
  subst hv; subst hM
  intro p e s m args below meth c H locs ls C hP hS hl
  have hlocks := C.2.2.2.2.2.2.1
  exact W.lret C.1 C.2.1 (C.2.2.1.trans hr) (fun t ht hW => ⟨rfl, by rw [ht]; exact hP, hS.F ht⟩) hS.2.2 hd
theorem zi_vret (hd : decode mi.2.1 pc = .ok (.return_, 1)) (hr : mi.2.2.2 = none) (hv : rv = none) (hM : M1 = M) : zG E mi d rv M1 pc lo [] M := by
  subst hv; subst hM
  intro p e s m args below meth c H locs ls C hP hS hl
  have hlocks := C.2.2.2.2.2.2.1
  exact W.vret C.1 C.2.1 (C.2.2.1.trans hr) (fun t ht hW => ⟨rfl, by rw [ht]; exact hP, hS.F ht⟩) hS.2.2 hd
theorem zi_aret {a : Nat} {cn : String} (hd : decode mi.2.1 pc = .ok (.areturn, 1)) (hr : mi.2.2.2 = some (.object cn)) (hv : rv = some (.ref a)) (hM : M1 = M) : zG E mi d rv M1 pc lo [.ref a] M := by
  subst hv; subst hM
  intro p e s m args below meth c H locs ls C hP hS hl
  have hlocks := C.2.2.2.2.2.2.1
  exact W.aret C.1 C.2.1 (C.2.2.1.trans hr) (Or.inl ⟨_, rfl⟩) (Or.inr ⟨_, rfl⟩) (fun t ht hW => ⟨rfl, by rw [ht]; exact hP, hS.F ht⟩) hS.2.2 hd
/-- a contract, from its walk -/
def zargs : List Value → List (Option Value)
  | [] => []
  | v :: vs => if v.category = 2 then some v :: none :: zargs vs else some v :: zargs vs
theorem zargs_at : ∀ (vs : List Value) (i : Nat) (v : Value), (zargs vs)[i]? = some (some v) → ∀ b, (b + i, v) ∈ lv_args b vs
  | [], i, v, h, b => by simp [zargs] at h
  | w :: vs, i, v, h, b => by
    unfold zargs at h
    by_cases hc : w.category = 2
    · rw [if_pos hc] at h
      match i, h with
      | 0, h =>
        have e : w = v := by simpa using h
        subst e
        exact List.mem_cons_self
      | 1, h => simp at h
      | i + 2, h =>
        have := zargs_at vs i v (by simpa using h) (b + 2)
        unfold lv_args
        rw [if_pos hc, show b + (i + 2) = b + 2 + i by omega]
        exact List.mem_cons_of_mem _ this
    · rw [if_neg hc] at h
      match i, h with
      | 0, h =>
        have e : w = v := by simpa using h
        subst e
        exact List.mem_cons_self
      | i + 1, h =>
        have := zargs_at vs i v (by simpa using h) (b + 1)
        unfold lv_args
        rw [if_neg hc, show b + (i + 1) = b + 1 + i by omega]
        exact List.mem_cons_of_mem _ this
theorem zCT.of {av : List Value} (hy : plainName mi.1.cls = true) (hlen : (lg_sl av).length ≤ mi.2.2.1) (h : zG E mi d rv M1 0 (zargs av ++ List.replicate (mi.2.2.1 - (lg_sl av).length) none) [] M) : zCT E d mi av M rv M1 := by
  refine Met.ofW (cc := mi.2.1) (maxL := mi.2.2.1) (ret := mi.2.2.2) hy rfl ?_
  intro p e s m args below meth c s₁ B hml hv
  obtain ⟨rfl, hP, hW⟩ := hv
  have hts := atoms_spec (ws := zws mi) B.pre
  have hown : s.vm.findClass mi.1.cls = some m.cls := findClass_of_methodNamed B.named
  have hl := lv_entry av (n := mi.2.2.1) hlen
  rw [lg_entry_eq]
  refine h p e s m _ below meth c s.heap [] _ ⟨B.exec, B.bytes, B.returns, hml, hown, fun w hw => hts w (List.mem_cons_of_mem _ hw), B.notSynchronized, hW⟩ hP va_S.rf ⟨hl.1, hl.2.1, fun i v hi => ?_⟩
  by_cases hlt : i < (zargs av).length
  · rw [List.getElem?_append_left hlt] at hi
    have := zargs_at av i v hi 0
    rw [Nat.zero_add] at this
    exact hl.2.2 _ this
  · rw [List.getElem?_append_right (by omega)] at hi
    have := List.mem_of_getElem? hi
    rw [List.mem_replicate] at this
    exact absurd this.2 (by simp)
end ZR
end
section
/-! ===== rules of the judgement: fields, arrays, calls ===== -/
/-- a row of rows, one place changed -/
def zsu (f : Nat → Nat → Int32) (a i : Nat) (x : Int32) : Nat → Nat → Int32 := va_up f a (upd (f a) i x)
theorem zsu_at (f : Nat → Nat → Int32) (a i : Nat) (x : Int32) (b k : Nat) : zsu f a i x b k = if b = a ∧ k = i then x else f b k := by
  unfold zsu va_up upd
  by_cases h : b = a
  · subst h
    by_cases h2 : k = i
    · simp [h2]
    · simp [h2]
  · simp [h]
theorem zsu_ne (f : Nat → Nat → Int32) {a i : Nat} (x : Int32) {b : Nat} (h : b ≠ a) : zsu f a i x b = f b := by
  unfold zsu
  rw [va_up_ne _ _ h]
theorem zsu_row (f : Nat → Nat → Int32) (a i : Nat) (x : Int32) : zsu f a i x a = upd (f a) i x := by
  unfold zsu
  rw [va_up_self]
theorem zsu_focus (f : Nat → Nat → Int32) (a i : Nat) (g : Nat → Int32) (x : Int32) : zsu (va_up f a g) a i x = va_up f a (upd g i x) := by
  unfold zsu
  rw [va_up_self, bx_uu]
theorem zup_focus {α : Type} (f : Nat → α) (a : Nat) (v w : α) : va_up (va_up f a v) a w = va_up f a w := bx_uu f a v w
theorem zup_same {α : Type} (f : Nat → α) (a : Nat) : va_up f a (f a) = f := by
  funext k
  by_cases h : k = a
  · subst h; rw [va_up_self]
  · rw [va_up_ne _ _ h]
theorem zup_swap {α : Type} (f : Nat → α) {a b : Nat} (h : a ≠ b) (v w : α) : va_up (va_up f a v) b w = va_up (va_up f b w) a v := by
  funext k
  by_cases h1 : k = a
  · subst h1; rw [va_up_ne _ _ h, va_up_self, va_up_self]
  · by_cases h2 : k = b
    · subst h2; rw [va_up_self, va_up_ne _ _ h1, va_up_self]
    · rw [va_up_ne _ _ h2, va_up_ne _ _ h1, va_up_ne _ _ h1, va_up_ne _ _ h2]
section ZH
variable {E : zE} {mi : zM} {d : Nat} {rv : Option Value} {M1 M M2 : zMem} {pc n : Nat} {lo lo1 : List (Option Value)} {st : List Value}
theorem zi_getf {a ci k N idx : Nat} {C : String} {T : u_T} {fs : List Value} {v : Value} (hd : decode mi.2.1 pc = .ok (.getfield idx, 3)) (hn : pc + 3 = n) (ha : a < 177) (he : zce E M a = .inr (ci, fs)) (hc : vwCl[ci]? = some (C, T, N)) (hin : ∀ w ∈ u_ws C T N, w ∈ lw_good) (hk : k < N) (hT : (T k).1 = C) (hlink : Cond.fieldLink mi.1.cls idx C (T k).2.1 (T k).2.2.1 ∈ lw_good) (hv : fs[k]? = some v) (kk : zG E mi d rv M1 n lo (v :: st) M) : zG E mi d rv M1 pc lo (.ref (zad E a) :: st) M := by
  subst hn
  intro p e s m args below meth c H locs ls X hP hS hl
  obtain ⟨x1, x2, x3, x4, x5, x6, x7, x8⟩ := id X
  exact va_get x1 x2 x6 hin x5 x8.1 hP a (by rw [zwl_at E M ha, he]) hc k hk (x6 _ hlink) (fun x h => by rw [hT] at h; exact h) hv hd (kk p e s m args below meth c H locs ls X hP hS hl)
theorem zi_getfN {a ci k N idx : Nat} {C host : String} {T : u_T} {fs : List Value} {v : Value} (hd : decode mi.2.1 pc = .ok (.getfield idx, 3)) (hn : pc + 3 = n) (ha : a < 177) (he : zce E M a = .inr (ci, fs)) (hc : vwCl[ci]? = some (C, T, N)) (hin : ∀ w ∈ u_ws C T N, w ∈ lw_good) (hk : k < N) (hT : (T k).1 = C) (hlink : Cond.fieldLinkNest mi.1.cls idx C (T k).2.1 (T k).2.2.1 host ∈ lw_tbl) (hv : fs[k]? = some v) (kk : zG E mi d rv M1 n lo (v :: st) M) : zG E mi d rv M1 pc lo (.ref (zad E a) :: st) M := by
  subst hn
  intro p e s m args below meth c H locs ls X hP hS hl
  obtain ⟨x1, x2, x3, x4, x5, x6, x7, x8⟩ := id X
  exact va_getN x1 x2 x6 hin x5 x8.1 hP a (by rw [zwl_at E M ha, he]) hc k hk (va_Nw.use rfl (x8.2.2.1 _ hlink rfl)) (fun x h => by rw [hT] at h; exact h) hv hd (kk p e s m args below meth c H locs ls X hP hS hl)
theorem zi_putf {a ci k N idx : Nat} {C : String} {T : u_T} {fs : List Value} {x : Int32} (ty0 : Nat → FieldType) (hd : decode mi.2.1 pc = .ok (.putfield idx, 3)) (hn : pc + 3 = n) (ha : a < 177) (he : zce E M a = .inr (ci, fs)) (hc : vwCl[ci]? = some (C, T, N)) (hin : ∀ w ∈ u_ws C T N, w ∈ lw_good) (hty : ∀ k, k < N → parseFieldDescriptor (T k).2.2.1 = some (ty0 k)) (hnm : ∀ a, a < N → ∀ b, b < N → a ≠ b → (T a).2.1 ≠ (T b).2.1) (hk : k < N) (hT : (T k).1 = C) (hlink : Cond.fieldLink mi.1.cls idx C (T k).2.1 (T k).2.2.1 ∈ lw_good) (hfin : (T k).2.2.2 = false) (hI : parseFieldDescriptor (T k).2.2.1 = some .int) (hl0 : k < fs.length) (h2 : zce E M2 a = .inr (ci, fs.set k (.int x))) (ho : ∀ b, b ≠ a → zce E M2 b = zce E M b) (kk : zG E mi d rv M1 n lo st M2) : zG E mi d rv M1 pc lo (.int x :: .ref (zad E a) :: st) M := by
  subst hn
  intro p e s m args below meth c H locs ls X hP hS hl
  obtain ⟨x1, x2, x3, x4, x5, x6, x7, x8⟩ := id X
  exact va_put x1 x2 x6 hin ty0 hty hnm x5 x8.1 hP (zD_of x8.2.1 M) hS a (by rw [zwl_at E M ha, he]) hc k hk (x6 _ hlink) (fun x h => by rw [hT] at h; exact h) hfin hI rfl rfl hl0 hd
    (fun H1 locs1 p1 p2 p3 => kk p e s m args below meth c H1 locs1 ls X (by rw [← zwl_set ha h2 ho]; exact p1) p3 hl)
theorem zi_putfN {a ci k N idx : Nat} {C host : String} {T : u_T} {fs : List Value} {x : Int32} (ty0 : Nat → FieldType) (hd : decode mi.2.1 pc = .ok (.putfield idx, 3)) (hn : pc + 3 = n) (ha : a < 177) (he : zce E M a = .inr (ci, fs)) (hc : vwCl[ci]? = some (C, T, N)) (hin : ∀ w ∈ u_ws C T N, w ∈ lw_good) (hty : ∀ k, k < N → parseFieldDescriptor (T k).2.2.1 = some (ty0 k)) (hnm : ∀ a, a < N → ∀ b, b < N → a ≠ b → (T a).2.1 ≠ (T b).2.1) (hk : k < N) (hT : (T k).1 = C) (hlink : Cond.fieldLinkNest mi.1.cls idx C (T k).2.1 (T k).2.2.1 host ∈ lw_tbl) (hfin : (T k).2.2.2 = false) (hI : parseFieldDescriptor (T k).2.2.1 = some .int) (hl0 : k < fs.length) (h2 : zce E M2 a = .inr (ci, fs.set k (.int x))) (ho : ∀ b, b ≠ a → zce E M2 b = zce E M b) (kk : zG E mi d rv M1 n lo st M2) : zG E mi d rv M1 pc lo (.int x :: .ref (zad E a) :: st) M := by
  subst hn
  intro p e s m args below meth c H locs ls X hP hS hl
  obtain ⟨x1, x2, x3, x4, x5, x6, x7, x8⟩ := id X
  exact va_putN x1 x2 x6 hin ty0 hty hnm x5 x8.1 hP (zD_of x8.2.1 M) hS a (by rw [zwl_at E M ha, he]) hc k hk (va_Nw.use rfl (x8.2.2.1 _ hlink rfl)) (fun x h => by rw [hT] at h; exact h) hfin hI rfl rfl hl0 hd
    (fun H1 locs1 p1 p2 p3 => kk p e s m args below meth c H1 locs1 ls X (by rw [← zwl_set ha h2 ho]; exact p1) p3 hl)
/-- an int array's place -/
theorem zi_iald {a N i : Nat} {x : Int32} {f : Nat → Int32} (hd : decode mi.2.1 pc = .ok (.iaload, 1)) (hn : pc + 1 = n) (ha : a < 177) (he : zce E M a = .inl (E.2.2.2.1 0, N, .inl f)) (hN : N < 2 ^ 31) (hx : x = nI i) (hi : i < N) (kk : zG E mi d rv M1 n lo (.int (f i) :: st) M) : zG E mi d rv M1 pc lo (.int x :: .ref (zad E a) :: st) M := by
  subst hn; subst hx
  intro p e s m args below meth c H locs ls X hP hS hl
  obtain ⟨x1, x2, x3, x4, x5, x6, x7, x8⟩ := id X
  refine va_iald x1 x2 x8.1 hP a 0 (by rw [zwl_at E M ha, he]) rfl (vp_in_nI hi hN) hd ?_
  rw [nI_clamp (by omega)]
  exact kk p e s m args below meth c H locs ls X hP hS hl
theorem zi_iast {a N i : Nat} {x y : Int32} {f : Nat → Int32} (hd : decode mi.2.1 pc = .ok (.iastore, 1)) (hn : pc + 1 = n) (ha : a < 177) (he : zce E M a = .inl (E.2.2.2.1 0, N, .inl f)) (hN : N < 2 ^ 31) (hx : x = nI i) (hi : i < N) (h2 : zce E M2 a = .inl (E.2.2.2.1 0, N, .inl (upd f i y))) (ho : ∀ b, b ≠ a → zce E M2 b = zce E M b) (kk : zG E mi d rv M1 n lo st M2) : zG E mi d rv M1 pc lo (.int y :: .int x :: .ref (zad E a) :: st) M := by
  subst hn; subst hx
  intro p e s m args below meth c H locs ls X hP hS hl
  obtain ⟨x1, x2, x3, x4, x5, x6, x7, x8⟩ := id X
  refine va_iast x1 x2 x8.1 hP (zD_of x8.2.1 M) hS a 0 (by rw [zwl_at E M ha, he]) rfl (vp_in_nI hi hN) hd (fun H1 locs1 p1 p2 p3 => ?_)
  rw [nI_clamp (by omega)] at p1
  exact kk p e s m args below meth c H1 locs1 ls X (by rw [← zwl_set ha h2 ho]; exact p1) p3 hl
theorem zi_alen {a N : Nat} {f : Nat → Int32} (hd : decode mi.2.1 pc = .ok (.arraylength, 1)) (hn : pc + 1 = n) (ha : a < 177) (he : zce E M a = .inl (E.2.2.2.1 0, N, .inl f)) (kk : zG E mi d rv M1 n lo (.int (nI N) :: st) M) : zG E mi d rv M1 pc lo (.ref (zad E a) :: st) M := by
  subst hn
  intro p e s m args below meth c H locs ls X hP hS hl
  obtain ⟨x1, x2, x3, x4, x5, x6, x7, x8⟩ := id X
  exact va_alen (v := nI N) x1 x2 x8.1 hP a 0 (by rw [zwl_at E M ha, he]) rfl rfl hd (kk p e s m args below meth c H locs ls X hP hS hl)
/-- booleans in an array -/
theorem zi_zald {i : Nat} {x : Int32} (hd : decode mi.2.1 pc = .ok (.baload, 1)) (hn : pc + 1 = n) (hx : x = nI i) (hi : i < 2) (kk : zG E mi d rv M1 n lo (.int (M.2 174 i) :: st) M) : zG E mi d rv M1 pc lo (.int x :: .ref (zad E 174) :: st) M := by
  subst hn; subst hx
  intro p e s m args below meth c H locs ls X hP hS hl
  obtain ⟨x1, x2, x3, x4, x5, x6, x7, x8⟩ := id X
  refine va_zald (n := 2) (f := M.2 174) x1 x2 x8.1 hP 174 3 (by rw [zwl_at E M (by decide)]; rfl) rfl (vp_in_nI hi (by decide)) hd ?_
  rw [nI_clamp (by omega)]
  exact kk p e s m args below meth c H locs ls X hP hS hl
theorem zi_zast1 {i : Nat} {x : Int32} (hd : decode mi.2.1 pc = .ok (.bastore, 1)) (hn : pc + 1 = n) (hx : x = nI i) (hi : i < 2) (kk : zG E mi d rv M1 n lo st (M.1, zsu M.2 174 i 1)) : zG E mi d rv M1 pc lo (.int 1 :: .int x :: .ref (zad E 174) :: st) M := by
  subst hn; subst hx
  intro p e s m args below meth c H locs ls X hP hS hl
  obtain ⟨x1, x2, x3, x4, x5, x6, x7, x8⟩ := id X
  refine va_zast (n := 2) (f := M.2 174) x1 x2 x8.1 hP (zD_of x8.2.1 M) hS 174 3 (by rw [zwl_at E M (by decide)]; rfl) rfl (vp_in_nI hi (by decide)) hd (fun H1 locs1 p1 p2 p3 => ?_)
  rw [nI_clamp (by omega), show vp_nar .boolean 1 = 1 by decide] at p1
  refine kk p e s m args below meth c H1 locs1 ls X ?_ p3 hl
  have h2 : zce E (M.1, zsu M.2 174 i 1) 174 = .inl (E.2.2.2.1 3, 2, .inl (upd (M.2 174) i 1)) := by
    rw [zce_o _ _ (by decide), ← zsu_row M.2 174 i 1]
    rfl
  rw [← zwl_set (M := M) (M1 := (M.1, zsu M.2 174 i 1)) (a := 174) (by decide) h2 (fun b hb => zce_oOther (by decide) (fun k hk => zsu_ne _ _ hk) rfl hb)]
  exact p1
/-- arrays of references: the squares kept, the rows' rows -/
theorem zi_aldq {i : Nat} {x : Int32} (hd : decode mi.2.1 pc = .ok (.aaload, 1)) (hn : pc + 1 = n) (hx : x = nI i) (hi : i < 24) (kk : zG E mi d rv M1 n lo (.ref (zad E (zsq (5 + i))) :: st) M) : zG E mi d rv M1 pc lo (.int x :: .ref (zad E 161) :: st) M := by
  subst hn; subst hx
  intro p e s m args below meth c H locs ls X hP hS hl
  obtain ⟨x1, x2, x3, x4, x5, x6, x7, x8⟩ := id X
  refine va_aldq (n := 24) (f := fun i => some (zad E (zsq (5 + i)))) x1 x2 x8.1 hP 161 1 (by rw [zwl_at E M (by decide)]; rfl) rfl (vp_in_nI hi (by decide)) hd ?_
  rw [nI_clamp (by omega)]
  exact kk p e s m args below meth c H locs ls X hP hS hl
theorem zi_aldr {i : Nat} {x : Int32} (hd : decode mi.2.1 pc = .ok (.aaload, 1)) (hn : pc + 1 = n) (hx : x = nI i) (hi : i < 8) (kk : zG E mi d rv M1 n lo (.ref (zad E (148 + i)) :: st) M) : zG E mi d rv M1 pc lo (.int x :: .ref (zad E 147) :: st) M := by
  subst hn; subst hx
  intro p e s m args below meth c H locs ls X hP hS hl
  obtain ⟨x1, x2, x3, x4, x5, x6, x7, x8⟩ := id X
  have hin : vp_in (nI i) 8 := vp_in_nI hi (by decide)
  have hq := hP 147 _ (zwl_at E M (by decide))
  refine W.aald (v := .ref (zad E (148 + i))) (ty := .array .int) x1 x2 hq ((x8.1.2 2 _ rfl).1 8 (fun j => va_rf (some (zad E (148 + j))))) rfl (fun q => by cases q) (by show ¬ (nI i < 0 ∨ (arrV _ _ _).slots.size ≤ _); rw [arrV_size]; exact hin) (by show (arrV _ _ _).slots[_]? = _; rw [nI_clamp (by omega), arrV_read _ _ hi]; rfl) rfl rfl hd ?_
  exact kk p e s m args below meth c H locs ls X hP hS hl
/-- System.arraycopy between int arrays -/
theorem zi_acopy {idx a b N0 N1 sp dp k : Nat} {xs xd xk : Int32} {f g : Nat → Int32} (hd : decode mi.2.1 pc = .ok (.invokestatic idx, 3)) (hn : pc + 3 = n) (hlink : Cond.methodLink mi.1.cls idx arraycopyName ∈ lw_good) (ha : a < 177) (hb : b < 177) (he : zce E M a = .inl (E.2.2.2.1 0, N0, .inl f)) (hg : zce E M b = .inl (E.2.2.2.1 0, N1, .inl g)) (e1 : xs = nI sp) (e2 : xd = nI dp) (e3 : xk = nI k) (h0 : sp + k ≤ N0) (h1 : dp + k ≤ N1) (hN0 : N0 < 2 ^ 31) (hN1 : N1 < 2 ^ 31) (hdd : 2 ≤ d) (h2 : zce E M2 b = .inl (E.2.2.2.1 0, N1, .inl (va_cpy f g sp dp k))) (ho : ∀ c, c ≠ b → zce E M2 c = zce E M c) (hw : (st.map fun v => v.category).sum ≤ 8) (kk : zG E mi d rv M1 n lo st M2) : zG E mi d rv M1 pc lo (.int xk :: .int xd :: .ref (zad E b) :: .int xs :: .ref (zad E a) :: st) M := by
  subst hn; subst e1; subst e2; subst e3
  intro p e s m args below meth c H locs ls X hP hS hl
  obtain ⟨x1, x2, x3, x4, x5, x6, x7, x8⟩ := id X
  have w1 : Cond.native arraycopyName ∈ lw_good := by decide +kernel
  have w2 : Cond.static arraycopyName ∈ lw_good := by decide +kernel
  have w3 : Cond.initialized "java/lang/System" ∈ lw_good := by decide +kernel
  have c1 : (nI sp).toNatClampNeg = sp := nI_clamp (by omega)
  have c2 : (nI dp).toNatClampNeg = dp := nI_clamp (by omega)
  have c3 : (nI k).toNatClampNeg = k := nI_clamp (by omega)
  have w4 : nativeFrameWords "java/lang/System" "arraycopy" 5 ≤ 40 := by decide +kernel
  have w5 : (st.map fun v => v.category).sum + (nativeFrameWords "java/lang/System" "arraycopy" 5 + 11) ≤ (zrm d).locals := by
    show _ ≤ 64 * d
    omega
  refine va_copyi (sp := nI sp) (dp := nI dp) (n := nI k) x1 x2 (x4.trans hl.1.symm) x5 (x6 _ hlink) (x6 _ w1) (x6 _ w2) (x6 _ w3) x8.1 hP (zD_of x8.2.1 M) hS a b 0 0 (by rw [zwl_at E M ha, he]) (by rw [zwl_at E M hb, hg]) rfl rfl rfl (nI_pos (by omega)) (nI_pos (by omega)) (nI_pos (by omega)) (by rw [c1, c3]; exact h0) (by rw [c2, c3]; exact h1) (fun i _ => rfl) (by show 1 ≤ d; omega) w5 hd (fun H1 locs1 p1 p2 p3 => ?_)
  rw [c1, c2, c3] at p1
  exact kk p e s m args below meth c H1 locs1 ls X (by rw [← zwl_set hb h2 ho]; exact p1) p3 hl
/-- the static table of kinds -/
theorem zi_kget {idx : Nat} (hd : decode mi.2.1 pc = .ok (.getstatic idx, 3)) (hn : pc + 3 = n) (hlink : Cond.fieldLink mi.1.cls idx "NameNoon" "KIND_ABOVE" "[I" ∈ lw_good) (kk : zG E mi d rv M1 n lo (.ref E.2.2.2.2 :: st) M) : zG E mi d rv M1 pc lo st M := by
  subst hn
  intro p e s m args below meth c H locs ls X hP hS hl
  obtain ⟨x1, x2, x3, x4, x5, x6, x7, x8⟩ := id X
  exact va_gets x1 x2 x8.2.2.2.1 hS x5 (x6 _ hlink) (fun x h => h) hd (kk p e s m args below meth c H locs ls X hP hS hl)
theorem zi_kald {i : Nat} {x : Int32} (hd : decode mi.2.1 pc = .ok (.iaload, 1)) (hn : pc + 1 = n) (hx : x = nI i) (hi : i < 6) (kk : zG E mi d rv M1 n lo (.int (zkn i) :: st) M) : zG E mi d rv M1 pc lo (.int x :: .ref E.2.2.2.2 :: st) M := by
  subst hn; subst hx
  intro p e s m args below meth c H locs ls X hP hS hl
  obtain ⟨x1, x2, x3, x4, x5, x6, x7, x8⟩ := id X
  obtain ⟨cell, h1, h2, h3, h4, h5, h6, h7⟩ := x8.2.2.2.2.kept hS.2.1
  exact W.iald (v := .int (zkn i)) x1 x2 h1 h2 h3 (fun q => vp_in_nI (n := i) (N := 6) hi (by decide) (q.elim Or.inl fun z => Or.inr (Nat.le_trans h4 z))) (by rw [nI_clamp (by omega)]; exact h6 i hi) rfl rfl hd (kk p e s m args below meth c H locs ls X hP hS hl)
/-- what is asked of a method that is called: its words -/
def zYs (mj : zM) (k : Nat) : Prop := (mj.1.cls ≠ "java/lang/invoke/MethodHandle" ∧ mj.1.cls ≠ "java/lang/invoke/VarHandle" ∧ (parseMethodDescriptor mj.1.desc).map (fun d => d.parameters.length) = some k) ∧ Cond.code mj.1 mj.2.1 mj.2.2.1 mj.2.2.2 ∈ lw_good ∧ Cond.initialized mj.1.cls ∈ lw_good ∧ mj.2.2.1 ≤ 40 ∧ Cond.static mj.1 ∈ lw_good
def zYv (mj : zM) (k : Nat) : Prop := (mj.1.cls ≠ "java/lang/invoke/MethodHandle" ∧ mj.1.cls ≠ "java/lang/invoke/VarHandle" ∧ (parseMethodDescriptor mj.1.desc).map (fun d => d.parameters.length) = some k) ∧ Cond.code mj.1 mj.2.1 mj.2.2.1 mj.2.2.2 ∈ lw_good ∧ Cond.initialized mj.1.cls ∈ lw_good ∧ mj.2.2.1 ≤ 40 ∧ Cond.instanceMethod mj.1 ∈ lw_good ∧ Cond.selects mj.1.cls mj.1 mj.1 ∈ lw_good
/-- an object of the class C stands at a -/
def zrc (E : zE) (M : zMem) (a : Nat) (C : String) : Prop := a < 177 ∧ ∃ (ci : Nat) (fs : List Value) (T : u_T) (N : Nat), zce E M a = .inr (ci, fs) ∧ vwCl[ci]? = some (C, T, N)
theorem zgoodIn {mj : zM} (h : Cond.code mj.1 mj.2.1 mj.2.2.1 mj.2.2.2 ∈ lw_good) : GoodIn lw_good (zws mj) := fun w hw => by
  rcases List.mem_cons.mp hw with rfl | hw
  · exact ⟨h, lw_goodGood _ h⟩
  · exact ⟨hw, lw_goodGood w hw⟩
theorem zblind {E : zE} {av : List Value} {M : zMem} : FrameBlind (va_Pc av (fun U => va_P E.2.1 vwCl (zwl E M) U.heap ∧ zW E U)) := fun a U g mk q => by
  obtain ⟨q0, q1, q2⟩ := q
  exact ⟨q0, q1, q2.blind⟩
/-- behind a call -/
theorem zi_run {a : Array Value} {r : Option Value} {p : Program} {e : Env} {s : State} {m : MethodId} {args : Array Value} {below : List Frame} {meth : Method} {c : Code} {H : Heap} {locs : List Loc} {ls : Array Slot} {st0 : List Value} (X : zCx E mi p s m args meth c) (hS : va_S (zA E) s.heap H locs) (hl : zlo ls mi.2.2.1 lo)
    (hr : va_Run p E.1 e (zrm d) s m args below meth c H locs 0 0 0 0 (F0 m pc ls st0) st (zQ E r M2 a) (zA E)) (kk : zG E mi d rv M1 (pc + 3) lo (r.toList ++ st) M2) : W p E.1 e (zrm d) s m args below meth c H locs 0 0 (MQ below (zQ E rv M1) args s 0 0 (zA E)) (F0 m pc ls st0) := by
  intro T hT Y
  obtain ⟨v, st₀, t, T', L, h0, Y', hL, e1, e2, ⟨hv, hp, hz, hk⟩, go⟩ := hr T hT Y
  cases hv
  rw [h0] at hz hk
  obtain ⟨t2, a1, b1⟩ := kk p e s m args below meth c T'.heap (locs ++ L) ls X (by rw [e1]; exact hp) ⟨Nat.le_trans hS.1 (by rw [e1]; exact hz), fun q h1 h2 => by rw [e1, hk q (Nat.lt_of_lt_of_le h1 hS.1) h2]; exact hS.2.1 q h1 h2, fun q hq => by
      rcases List.mem_append.mp hq with h | h
      · exact hS.2.2 q h
      · exact hL q h⟩ hl T' rfl Y'
  exact ⟨t2, go t2 a1, b1⟩
theorem zroom {d1 d w : Nat} (h : d1 + 1 ≤ d) (hw : w ≤ 40) : (zrm d1).frames + 1 ≤ (zrm d).frames ∧ 8 + (w + 11) + (zrm d1).locals ≤ (zrm d).locals := by
  refine ⟨h, ?_⟩
  show 8 + (w + 11) + 64 * d1 ≤ 64 * d
  omega
theorem zi_callS {mj : zM} {d1 idx : Nat} {av : List Value} {r : Option Value} (hd : decode mi.2.1 pc = .ok (.invokestatic idx, 3)) (hn : pc + 3 = n) (hlink : Cond.methodLink mi.1.cls idx mj.1 ∈ lw_good) (hy : zYs mj av.length) (hdd : d1 + 1 ≤ d) (hw : (st.map fun v => v.category).sum ≤ 8) (hc : zCT E d1 mj av M r M2) (kk : zG E mi d rv M1 n lo (r.toList ++ st) M2) : zG E mi d rv M1 pc lo (av.reverse ++ st) M := by
  subst hn
  intro p e s m args below meth c H locs ls X hP hS hl
  obtain ⟨x1, x2, x3, x4, x5, x6, x7, x8⟩ := id X
  refine zi_run X hS hl (va_runS (As := av) (rest := st) (own := mi.1.cls) ⟨x1, x2, x4, x5, x6⟩ hc ⟨callB_of av.length x6 (zgoodIn hy.2.1) rfl rfl rfl (x6 _ hy.2.2.1) (x6 _ hlink) hy.1 (zroom hdd hy.2.2.2.1), x6 _ hy.2.2.2.2⟩ ⟨zblind, fun U hU hW => ⟨rfl, by rw [hU]; exact hP, x8.to hS hU hW⟩⟩ rfl rfl hl.1 rfl (lv_room hw) hd ⟨Nat.le_refl _, Nat.le_refl _⟩) kk
theorem zi_callSN {mj : zM} {d1 idx : Nat} {host : String} {av : List Value} {r : Option Value} (hd : decode mi.2.1 pc = .ok (.invokestatic idx, 3)) (hn : pc + 3 = n) (hlink : Cond.methodLinkNest mi.1.cls idx mj.1 host ∈ lw_tbl) (hy : zYs mj av.length) (hdd : d1 + 1 ≤ d) (hw : (st.map fun v => v.category).sum ≤ 8) (hc : zCT E d1 mj av M r M2) (kk : zG E mi d rv M1 n lo (r.toList ++ st) M2) : zG E mi d rv M1 pc lo (av.reverse ++ st) M := by
  subst hn
  intro p e s m args below meth c H locs ls X hP hS hl
  obtain ⟨x1, x2, x3, x4, x5, x6, x7, x8⟩ := id X
  refine zi_run X hS hl (va_runSN (As := av) (rest := st) (own := mi.1.cls) ⟨x1, x2, x4, x5, x6⟩ hc ⟨va_cnB av.length x6 (zgoodIn hy.2.1) rfl rfl rfl (x8.2.2.1 _ hlink rfl) (x6 _ hy.2.2.1) hy.1 (zroom hdd hy.2.2.2.1), x6 _ hy.2.2.2.2, trivial⟩ ⟨zblind, fun U hU hW => ⟨rfl, by rw [hU]; exact hP, x8.to hS hU hW⟩⟩ rfl rfl hl.1 rfl (lv_room hw) hd ⟨Nat.le_refl _, Nat.le_refl _⟩) kk
theorem zrecv {a : Nat} {C : String} {s : State} {H : Heap} (hK : va_K E.2.1 vwCl (ztys E) s) (hP : va_P E.2.1 vwCl (zwl E M) H) (h : zrc E M a C) : ∃ cell : Cell, H[zad E a]? = some cell ∧ cell.vm.isStatics = false ∧ s.vm.findClass C = some cell.cls := by
  obtain ⟨ha, ci, fs, T, N, he, hc⟩ := h
  exact va_recv hK hP hc (by rw [zwl_at E M ha, he])
theorem zi_callV {mj : zM} {d1 idx a : Nat} {av : List Value} {r : Option Value} (hd : decode mi.2.1 pc = .ok (.invokevirtual idx, 3)) (hn : pc + 3 = n) (hlink : Cond.methodLink mi.1.cls idx mj.1 ∈ lw_good) (hy : zYv mj av.length) (hr : zrc E M a mj.1.cls) (hdd : d1 + 1 ≤ d) (hw : (st.map fun v => v.category).sum ≤ 8) (hc : zCT E d1 mj (.ref (zad E a) :: av) M r M2) (kk : zG E mi d rv M1 n lo (r.toList ++ st) M2) : zG E mi d rv M1 pc lo (av.reverse ++ .ref (zad E a) :: st) M := by
  subst hn
  intro p e s m args below meth c H locs ls X hP hS hl
  obtain ⟨x1, x2, x3, x4, x5, x6, x7, x8⟩ := id X
  refine zi_run X hS hl (va_runV (As := av) (rest := st) (own := mi.1.cls) (C := mj.1.cls) ⟨x1, x2, x4, x5, x6⟩ hc ⟨callB_of av.length x6 (zgoodIn hy.2.1) rfl rfl rfl (x6 _ hy.2.2.1) (x6 _ hlink) hy.1 (zroom hdd hy.2.2.2.1), x6 _ hy.2.2.2.2.1, x6 _ hy.2.2.2.2.2⟩ ⟨zblind, zrecv x8.1 hP hr, fun U hU hW => ⟨rfl, by rw [hU]; exact hP, x8.to hS hU hW⟩⟩ rfl rfl hl.1 rfl (lv_room hw) hd ⟨Nat.le_refl _, Nat.le_refl _⟩) kk
theorem zi_callVN {mj : zM} {d1 idx a : Nat} {host : String} {av : List Value} {r : Option Value} (hd : decode mi.2.1 pc = .ok (.invokevirtual idx, 3)) (hn : pc + 3 = n) (hlink : Cond.methodLinkNest mi.1.cls idx mj.1 host ∈ lw_tbl) (hy : zYv mj av.length) (hr : zrc E M a mj.1.cls) (hdd : d1 + 1 ≤ d) (hw : (st.map fun v => v.category).sum ≤ 8) (hc : zCT E d1 mj (.ref (zad E a) :: av) M r M2) (kk : zG E mi d rv M1 n lo (r.toList ++ st) M2) : zG E mi d rv M1 pc lo (av.reverse ++ .ref (zad E a) :: st) M := by
  subst hn
  intro p e s m args below meth c H locs ls X hP hS hl
  obtain ⟨x1, x2, x3, x4, x5, x6, x7, x8⟩ := id X
  refine zi_run X hS hl (va_runVN (As := av) (rest := st) (own := mi.1.cls) (C := mj.1.cls) ⟨x1, x2, x4, x5, x6⟩ hc ⟨va_cnB av.length x6 (zgoodIn hy.2.1) rfl rfl rfl (x8.2.2.1 _ hlink rfl) (x6 _ hy.2.2.1) hy.1 (zroom hdd hy.2.2.2.1), x6 _ hy.2.2.2.2.1, x6 _ hy.2.2.2.2.2⟩ ⟨zblind, zrecv x8.1 hP hr, fun U hU hW => ⟨rfl, by rw [hU]; exact hP, x8.to hS hU hW⟩⟩ rfl rfl hl.1 rfl (lv_room hw) hd ⟨Nat.le_refl _, Nat.le_refl _⟩) kk
end ZH
end
