section
-- ===== PART A: goes FIRST, ahead of the names: the tables' words, and 'selects' of the private methods out of them =====
/-- a private method of a class that the tables say can be made, by its rows of tables_1 -/
def lw_okq (q : MethodName × Nat) : Prop := (q.1.cls ≠ "java/lang/invoke/MethodHandle" ∧ q.1.cls ≠ "java/lang/invoke/VarHandle") ∧ Cond.instantiable q.1.cls q.2 ∈ tables_1 ∧ Cond.privateMethod q.1 ∈ tables_1 ∧ Cond.instanceMethod q.1 ∈ tables_1
theorem lw_p0 : lw_okq (⟨"ShaftPlumb$Mine", "legsOfAll", "()I"⟩, 7) := ⟨⟨by decide +kernel, by decide +kernel⟩, List.mem_of_getElem? (i := 27) (by decide +kernel), List.mem_of_getElem? (i := 297) (by decide +kernel), List.mem_of_getElem? (i := 298) (by decide +kernel)⟩
theorem lw_p1 : lw_okq (⟨"ShaftPlumb$Mine", "turnsOfAll", "()I"⟩, 7) := ⟨⟨by decide +kernel, by decide +kernel⟩, List.mem_of_getElem? (i := 27) (by decide +kernel), List.mem_of_getElem? (i := 301) (by decide +kernel), List.mem_of_getElem? (i := 302) (by decide +kernel)⟩
theorem lw_p2 : lw_okq (⟨"ShaftPlumb", "checkWires", "(J)J"⟩, 3) := ⟨⟨by decide +kernel, by decide +kernel⟩, List.mem_of_getElem? (i := 19) (by decide +kernel), List.mem_of_getElem? (i := 309) (by decide +kernel), List.mem_of_getElem? (i := 310) (by decide +kernel)⟩
theorem lw_p3 : lw_okq (⟨"ShaftPlumb", "checkJoins", "(J)J"⟩, 3) := ⟨⟨by decide +kernel, by decide +kernel⟩, List.mem_of_getElem? (i := 19) (by decide +kernel), List.mem_of_getElem? (i := 321) (by decide +kernel), List.mem_of_getElem? (i := 322) (by decide +kernel)⟩
theorem lw_p4 : lw_okq (⟨"ShaftPlumb", "checkTraverse", "(JLShaftPlumb$Traverse;)J"⟩, 3) := ⟨⟨by decide +kernel, by decide +kernel⟩, List.mem_of_getElem? (i := 19) (by decide +kernel), List.mem_of_getElem? (i := 337) (by decide +kernel), List.mem_of_getElem? (i := 338) (by decide +kernel)⟩
theorem lw_p5 : lw_okq (⟨"ShaftPlumb$Traverse", "sumOfLengths", "()I"⟩, 15) := ⟨⟨by decide +kernel, by decide +kernel⟩, List.mem_of_getElem? (i := 123) (by decide +kernel), List.mem_of_getElem? (i := 345) (by decide +kernel), List.mem_of_getElem? (i := 346) (by decide +kernel)⟩
theorem lw_p6 : lw_okq (⟨"ShaftPlumb$Traverse", "numberOfClosing", "(I)I"⟩, 15) := ⟨⟨by decide +kernel, by decide +kernel⟩, List.mem_of_getElem? (i := 123) (by decide +kernel), List.mem_of_getElem? (i := 362) (by decide +kernel), List.mem_of_getElem? (i := 363) (by decide +kernel)⟩
theorem lw_p7 : lw_okq (⟨"java/lang/Throwable", "fillInStackTrace", "(I)Ljava/lang/Throwable;"⟩, 6) := ⟨⟨by decide +kernel, by decide +kernel⟩, List.mem_of_getElem? (i := 464) (by decide +kernel), List.mem_of_getElem? (i := 462) (by decide +kernel), List.mem_of_getElem? (i := 463) (by decide +kernel)⟩
theorem lw_p8 : lw_okq (⟨"ShaftPlumb$Wire", "meanOfTurns", "()I"⟩, 7) := ⟨⟨by decide +kernel, by decide +kernel⟩, List.mem_of_getElem? (i := 38) (by decide +kernel), List.mem_of_getElem? (i := 535) (by decide +kernel), List.mem_of_getElem? (i := 536) (by decide +kernel)⟩
theorem lw_p9 : lw_okq (⟨"ShaftPlumb$Wire", "greatestDifference", "()I"⟩, 7) := ⟨⟨by decide +kernel, by decide +kernel⟩, List.mem_of_getElem? (i := 38) (by decide +kernel), List.mem_of_getElem? (i := 541) (by decide +kernel), List.mem_of_getElem? (i := 542) (by decide +kernel)⟩
theorem lw_p10 : lw_okq (⟨"ShaftPlumb$Traverse", "layOut", "(LShaftPlumb$Join;)I"⟩, 15) := ⟨⟨by decide +kernel, by decide +kernel⟩, List.mem_of_getElem? (i := 123) (by decide +kernel), List.mem_of_getElem? (i := 568) (by decide +kernel), List.mem_of_getElem? (i := 569) (by decide +kernel)⟩
theorem lw_p11 : lw_okq (⟨"ShaftPlumb", "order", "(CIII)I"⟩, 3) := ⟨⟨by decide +kernel, by decide +kernel⟩, List.mem_of_getElem? (i := 19) (by decide +kernel), List.mem_of_getElem? (i := 636) (by decide +kernel), List.mem_of_getElem? (i := 637) (by decide +kernel)⟩
theorem lw_p12 : lw_okq (⟨"ShaftPlumb", "refusalOf", "(CIII)I"⟩, 3) := ⟨⟨by decide +kernel, by decide +kernel⟩, List.mem_of_getElem? (i := 19) (by decide +kernel), List.mem_of_getElem? (i := 640) (by decide +kernel), List.mem_of_getElem? (i := 641) (by decide +kernel)⟩
theorem lw_p13 : lw_okq (⟨"ShaftPlumb", "carryOut", "(CIII)I"⟩, 3) := ⟨⟨by decide +kernel, by decide +kernel⟩, List.mem_of_getElem? (i := 19) (by decide +kernel), List.mem_of_getElem? (i := 674) (by decide +kernel), List.mem_of_getElem? (i := 675) (by decide +kernel)⟩
theorem lw_p14 : lw_okq (⟨"ShaftPlumb$Traverse", "legsBefore", "(I)I"⟩, 15) := ⟨⟨by decide +kernel, by decide +kernel⟩, List.mem_of_getElem? (i := 123) (by decide +kernel), List.mem_of_getElem? (i := 699) (by decide +kernel), List.mem_of_getElem? (i := 700) (by decide +kernel)⟩
theorem lw_p15 : lw_okq (⟨"ShaftPlumb$Script", "startCommand", "(C)V"⟩, 5) := ⟨⟨by decide +kernel, by decide +kernel⟩, List.mem_of_getElem? (i := 228) (by decide +kernel), List.mem_of_getElem? (i := 921) (by decide +kernel), List.mem_of_getElem? (i := 922) (by decide +kernel)⟩
def lw_privs_1 : List (MethodName × Nat) := [(⟨"ShaftPlumb$Mine", "legsOfAll", "()I"⟩, 7), (⟨"ShaftPlumb$Mine", "turnsOfAll", "()I"⟩, 7), (⟨"ShaftPlumb", "checkWires", "(J)J"⟩, 3), (⟨"ShaftPlumb", "checkJoins", "(J)J"⟩, 3), (⟨"ShaftPlumb", "checkTraverse", "(JLShaftPlumb$Traverse;)J"⟩, 3), (⟨"ShaftPlumb$Traverse", "sumOfLengths", "()I"⟩, 15), (⟨"ShaftPlumb$Traverse", "numberOfClosing", "(I)I"⟩, 15), (⟨"java/lang/Throwable", "fillInStackTrace", "(I)Ljava/lang/Throwable;"⟩, 6), (⟨"ShaftPlumb$Wire", "meanOfTurns", "()I"⟩, 7), (⟨"ShaftPlumb$Wire", "greatestDifference", "()I"⟩, 7), (⟨"ShaftPlumb$Traverse", "layOut", "(LShaftPlumb$Join;)I"⟩, 15), (⟨"ShaftPlumb", "order", "(CIII)I"⟩, 3), (⟨"ShaftPlumb", "refusalOf", "(CIII)I"⟩, 3), (⟨"ShaftPlumb", "carryOut", "(CIII)I"⟩, 3), (⟨"ShaftPlumb$Traverse", "legsBefore", "(I)I"⟩, 15), (⟨"ShaftPlumb$Script", "startCommand", "(C)V"⟩, 5)]
theorem lw_r1 : ∀ q ∈ lw_privs_1, lw_okq q := List.forall_mem_cons.mpr ⟨lw_p0, List.forall_mem_cons.mpr ⟨lw_p1, List.forall_mem_cons.mpr ⟨lw_p2, List.forall_mem_cons.mpr ⟨lw_p3, List.forall_mem_cons.mpr ⟨lw_p4, List.forall_mem_cons.mpr ⟨lw_p5, List.forall_mem_cons.mpr ⟨lw_p6, List.forall_mem_cons.mpr ⟨lw_p7, List.forall_mem_cons.mpr ⟨lw_p8, List.forall_mem_cons.mpr ⟨lw_p9, List.forall_mem_cons.mpr ⟨lw_p10, List.forall_mem_cons.mpr ⟨lw_p11, List.forall_mem_cons.mpr ⟨lw_p12, List.forall_mem_cons.mpr ⟨lw_p13, List.forall_mem_cons.mpr ⟨lw_p14, List.forall_mem_cons.mpr ⟨lw_p15, fun _ h => absurd h List.not_mem_nil⟩⟩⟩⟩⟩⟩⟩⟩⟩⟩⟩⟩⟩⟩⟩⟩
theorem lw_p16 : lw_okq (⟨"ShaftPlumb", "obey", "(C[I)Z"⟩, 3) := ⟨⟨by decide +kernel, by decide +kernel⟩, List.mem_of_getElem? (i := 19) (by decide +kernel), List.mem_of_getElem? (i := 925) (by decide +kernel), List.mem_of_getElem? (i := 926) (by decide +kernel)⟩
theorem lw_p17 : lw_okq (⟨"ShaftPlumbModel", "throwsAt", "(I)Z"⟩, 10) := ⟨⟨by decide +kernel, by decide +kernel⟩, List.mem_of_getElem? (i := 941) (by decide +kernel), List.mem_of_getElem? (i := 992) (by decide +kernel), List.mem_of_getElem? (i := 993) (by decide +kernel)⟩
theorem lw_p18 : lw_okq (⟨"ShaftPlumbModel", "saves", "()V"⟩, 10) := ⟨⟨by decide +kernel, by decide +kernel⟩, List.mem_of_getElem? (i := 941) (by decide +kernel), List.mem_of_getElem? (i := 996) (by decide +kernel), List.mem_of_getElem? (i := 997) (by decide +kernel)⟩
theorem lw_p19 : lw_okq (⟨"ShaftPlumbModel", "infoOf", "(I)I"⟩, 10) := ⟨⟨by decide +kernel, by decide +kernel⟩, List.mem_of_getElem? (i := 941) (by decide +kernel), List.mem_of_getElem? (i := 1005) (by decide +kernel), List.mem_of_getElem? (i := 1006) (by decide +kernel)⟩
theorem lw_p20 : lw_okq (⟨"ShaftPlumbModel", "legs", "(I)I"⟩, 10) := ⟨⟨by decide +kernel, by decide +kernel⟩, List.mem_of_getElem? (i := 941) (by decide +kernel), List.mem_of_getElem? (i := 1009) (by decide +kernel), List.mem_of_getElem? (i := 1010) (by decide +kernel)⟩
theorem lw_p21 : lw_okq (⟨"ShaftPlumbModel", "of", "(II)I"⟩, 10) := ⟨⟨by decide +kernel, by decide +kernel⟩, List.mem_of_getElem? (i := 941) (by decide +kernel), List.mem_of_getElem? (i := 1013) (by decide +kernel), List.mem_of_getElem? (i := 1014) (by decide +kernel)⟩
theorem lw_p22 : lw_okq (⟨"ShaftPlumbModel", "ofWire", "(II)I"⟩, 10) := ⟨⟨by decide +kernel, by decide +kernel⟩, List.mem_of_getElem? (i := 941) (by decide +kernel), List.mem_of_getElem? (i := 1017) (by decide +kernel), List.mem_of_getElem? (i := 1018) (by decide +kernel)⟩
theorem lw_p23 : lw_okq (⟨"ShaftPlumbModel", "isWire", "(I)Z"⟩, 10) := ⟨⟨by decide +kernel, by decide +kernel⟩, List.mem_of_getElem? (i := 941) (by decide +kernel), List.mem_of_getElem? (i := 1034) (by decide +kernel), List.mem_of_getElem? (i := 1035) (by decide +kernel)⟩
theorem lw_p24 : lw_okq (⟨"ShaftPlumbModel", "wireOf", "(II)I"⟩, 10) := ⟨⟨by decide +kernel, by decide +kernel⟩, List.mem_of_getElem? (i := 941) (by decide +kernel), List.mem_of_getElem? (i := 1047) (by decide +kernel), List.mem_of_getElem? (i := 1048) (by decide +kernel)⟩
theorem lw_p25 : lw_okq (⟨"ShaftPlumbModel", "restOf", "(I)I"⟩, 10) := ⟨⟨by decide +kernel, by decide +kernel⟩, List.mem_of_getElem? (i := 941) (by decide +kernel), List.mem_of_getElem? (i := 1051) (by decide +kernel), List.mem_of_getElem? (i := 1052) (by decide +kernel)⟩
theorem lw_p26 : lw_okq (⟨"ShaftPlumbModel", "troubleOfWire", "(I)I"⟩, 10) := ⟨⟨by decide +kernel, by decide +kernel⟩, List.mem_of_getElem? (i := 941) (by decide +kernel), List.mem_of_getElem? (i := 1056) (by decide +kernel), List.mem_of_getElem? (i := 1057) (by decide +kernel)⟩
theorem lw_p27 : lw_okq (⟨"ShaftPlumbModel", "driftOf", "(I)I"⟩, 10) := ⟨⟨by decide +kernel, by decide +kernel⟩, List.mem_of_getElem? (i := 941) (by decide +kernel), List.mem_of_getElem? (i := 1060) (by decide +kernel), List.mem_of_getElem? (i := 1061) (by decide +kernel)⟩
theorem lw_p28 : lw_okq (⟨"ShaftPlumbModel", "isJoin", "(I)Z"⟩, 10) := ⟨⟨by decide +kernel, by decide +kernel⟩, List.mem_of_getElem? (i := 941) (by decide +kernel), List.mem_of_getElem? (i := 1087) (by decide +kernel), List.mem_of_getElem? (i := 1088) (by decide +kernel)⟩
theorem lw_p29 : lw_okq (⟨"ShaftPlumbModel", "ofJoin", "(II)I"⟩, 10) := ⟨⟨by decide +kernel, by decide +kernel⟩, List.mem_of_getElem? (i := 941) (by decide +kernel), List.mem_of_getElem? (i := 1091) (by decide +kernel), List.mem_of_getElem? (i := 1092) (by decide +kernel)⟩
theorem lw_p30 : lw_okq (⟨"ShaftPlumbModel", "joinTold", "(II)I"⟩, 10) := ⟨⟨by decide +kernel, by decide +kernel⟩, List.mem_of_getElem? (i := 941) (by decide +kernel), List.mem_of_getElem? (i := 1099) (by decide +kernel), List.mem_of_getElem? (i := 1100) (by decide +kernel)⟩
theorem lw_p31 : lw_okq (⟨"ShaftPlumbModel", "troubleOfJoin", "(I)I"⟩, 10) := ⟨⟨by decide +kernel, by decide +kernel⟩, List.mem_of_getElem? (i := 941) (by decide +kernel), List.mem_of_getElem? (i := 1103) (by decide +kernel), List.mem_of_getElem? (i := 1104) (by decide +kernel)⟩
def lw_privs_2 : List (MethodName × Nat) := [(⟨"ShaftPlumb", "obey", "(C[I)Z"⟩, 3), (⟨"ShaftPlumbModel", "throwsAt", "(I)Z"⟩, 10), (⟨"ShaftPlumbModel", "saves", "()V"⟩, 10), (⟨"ShaftPlumbModel", "infoOf", "(I)I"⟩, 10), (⟨"ShaftPlumbModel", "legs", "(I)I"⟩, 10), (⟨"ShaftPlumbModel", "of", "(II)I"⟩, 10), (⟨"ShaftPlumbModel", "ofWire", "(II)I"⟩, 10), (⟨"ShaftPlumbModel", "isWire", "(I)Z"⟩, 10), (⟨"ShaftPlumbModel", "wireOf", "(II)I"⟩, 10), (⟨"ShaftPlumbModel", "restOf", "(I)I"⟩, 10), (⟨"ShaftPlumbModel", "troubleOfWire", "(I)I"⟩, 10), (⟨"ShaftPlumbModel", "driftOf", "(I)I"⟩, 10), (⟨"ShaftPlumbModel", "isJoin", "(I)Z"⟩, 10), (⟨"ShaftPlumbModel", "ofJoin", "(II)I"⟩, 10), (⟨"ShaftPlumbModel", "joinTold", "(II)I"⟩, 10), (⟨"ShaftPlumbModel", "troubleOfJoin", "(I)I"⟩, 10)]
theorem lw_r2 : ∀ q ∈ lw_privs_2, lw_okq q := List.forall_mem_cons.mpr ⟨lw_p16, List.forall_mem_cons.mpr ⟨lw_p17, List.forall_mem_cons.mpr ⟨lw_p18, List.forall_mem_cons.mpr ⟨lw_p19, List.forall_mem_cons.mpr ⟨lw_p20, List.forall_mem_cons.mpr ⟨lw_p21, List.forall_mem_cons.mpr ⟨lw_p22, List.forall_mem_cons.mpr ⟨lw_p23, List.forall_mem_cons.mpr ⟨lw_p24, List.forall_mem_cons.mpr ⟨lw_p25, List.forall_mem_cons.mpr ⟨lw_p26, List.forall_mem_cons.mpr ⟨lw_p27, List.forall_mem_cons.mpr ⟨lw_p28, List.forall_mem_cons.mpr ⟨lw_p29, List.forall_mem_cons.mpr ⟨lw_p30, List.forall_mem_cons.mpr ⟨lw_p31, fun _ h => absurd h List.not_mem_nil⟩⟩⟩⟩⟩⟩⟩⟩⟩⟩⟩⟩⟩⟩⟩⟩
theorem lw_p32 : lw_okq (⟨"ShaftPlumbModel", "wiresOf", "(I)I"⟩, 10) := ⟨⟨by decide +kernel, by decide +kernel⟩, List.mem_of_getElem? (i := 941) (by decide +kernel), List.mem_of_getElem? (i := 1107) (by decide +kernel), List.mem_of_getElem? (i := 1108) (by decide +kernel)⟩
theorem lw_p33 : lw_okq (⟨"ShaftPlumbModel", "startOf", "(I)I"⟩, 10) := ⟨⟨by decide +kernel, by decide +kernel⟩, List.mem_of_getElem? (i := 941) (by decide +kernel), List.mem_of_getElem? (i := 1111) (by decide +kernel), List.mem_of_getElem? (i := 1112) (by decide +kernel)⟩
theorem lw_p34 : lw_okq (⟨"ShaftPlumbModel", "isTraverse", "(I)Z"⟩, 10) := ⟨⟨by decide +kernel, by decide +kernel⟩, List.mem_of_getElem? (i := 941) (by decide +kernel), List.mem_of_getElem? (i := 1128) (by decide +kernel), List.mem_of_getElem? (i := 1129) (by decide +kernel)⟩
theorem lw_p35 : lw_okq (⟨"ShaftPlumbModel", "isClosed", "(I)Z"⟩, 10) := ⟨⟨by decide +kernel, by decide +kernel⟩, List.mem_of_getElem? (i := 941) (by decide +kernel), List.mem_of_getElem? (i := 1132) (by decide +kernel), List.mem_of_getElem? (i := 1133) (by decide +kernel)⟩
theorem lw_p36 : lw_okq (⟨"ShaftPlumbModel", "troubleOf", "(I)I"⟩, 10) := ⟨⟨by decide +kernel, by decide +kernel⟩, List.mem_of_getElem? (i := 941) (by decide +kernel), List.mem_of_getElem? (i := 1144) (by decide +kernel), List.mem_of_getElem? (i := 1145) (by decide +kernel)⟩
theorem lw_p37 : lw_okq (⟨"ShaftPlumbModel", "gap", "(I)I"⟩, 10) := ⟨⟨by decide +kernel, by decide +kernel⟩, List.mem_of_getElem? (i := 941) (by decide +kernel), List.mem_of_getElem? (i := 1148) (by decide +kernel), List.mem_of_getElem? (i := 1149) (by decide +kernel)⟩
theorem lw_p38 : lw_okq (⟨"ShaftPlumbModel", "bearing", "(II)I"⟩, 10) := ⟨⟨by decide +kernel, by decide +kernel⟩, List.mem_of_getElem? (i := 941) (by decide +kernel), List.mem_of_getElem? (i := 1152) (by decide +kernel), List.mem_of_getElem? (i := 1153) (by decide +kernel)⟩
theorem lw_p39 : lw_okq (⟨"ShaftPlumbModel", "angle", "(II)I"⟩, 10) := ⟨⟨by decide +kernel, by decide +kernel⟩, List.mem_of_getElem? (i := 941) (by decide +kernel), List.mem_of_getElem? (i := 1156) (by decide +kernel), List.mem_of_getElem? (i := 1157) (by decide +kernel)⟩
theorem lw_p40 : lw_okq (⟨"ShaftPlumbModel", "turns", "(II)V"⟩, 10) := ⟨⟨by decide +kernel, by decide +kernel⟩, List.mem_of_getElem? (i := 941) (by decide +kernel), List.mem_of_getElem? (i := 1175) (by decide +kernel), List.mem_of_getElem? (i := 1176) (by decide +kernel)⟩
theorem lw_p41 : lw_okq (⟨"ShaftPlumbModel", "length", "(II)I"⟩, 10) := ⟨⟨by decide +kernel, by decide +kernel⟩, List.mem_of_getElem? (i := 941) (by decide +kernel), List.mem_of_getElem? (i := 1179) (by decide +kernel), List.mem_of_getElem? (i := 1180) (by decide +kernel)⟩
theorem lw_p42 : lw_okq (⟨"ShaftPlumbModel", "traverseOf", "(II)I"⟩, 10) := ⟨⟨by decide +kernel, by decide +kernel⟩, List.mem_of_getElem? (i := 941) (by decide +kernel), List.mem_of_getElem? (i := 1188) (by decide +kernel), List.mem_of_getElem? (i := 1189) (by decide +kernel)⟩
theorem lw_p43 : lw_okq (⟨"ShaftPlumbModel", "isWhole", "(I)Z"⟩, 10) := ⟨⟨by decide +kernel, by decide +kernel⟩, List.mem_of_getElem? (i := 941) (by decide +kernel), List.mem_of_getElem? (i := 1192) (by decide +kernel), List.mem_of_getElem? (i := 1193) (by decide +kernel)⟩
theorem lw_p44 : lw_okq (⟨"ShaftPlumbModel", "miss", "(IZ)I"⟩, 10) := ⟨⟨by decide +kernel, by decide +kernel⟩, List.mem_of_getElem? (i := 941) (by decide +kernel), List.mem_of_getElem? (i := 1196) (by decide +kernel), List.mem_of_getElem? (i := 1197) (by decide +kernel)⟩
theorem lw_p45 : lw_okq (⟨"ShaftPlumbModel", "end", "(IIZ)I"⟩, 10) := ⟨⟨by decide +kernel, by decide +kernel⟩, List.mem_of_getElem? (i := 941) (by decide +kernel), List.mem_of_getElem? (i := 1200) (by decide +kernel), List.mem_of_getElem? (i := 1201) (by decide +kernel)⟩
theorem lw_p46 : lw_okq (⟨"ShaftPlumbModel", "legOf", "(III)I"⟩, 10) := ⟨⟨by decide +kernel, by decide +kernel⟩, List.mem_of_getElem? (i := 941) (by decide +kernel), List.mem_of_getElem? (i := 1222) (by decide +kernel), List.mem_of_getElem? (i := 1223) (by decide +kernel)⟩
theorem lw_p47 : lw_okq (⟨"ShaftPlumbModel", "troubleAt", "(II)I"⟩, 10) := ⟨⟨by decide +kernel, by decide +kernel⟩, List.mem_of_getElem? (i := 941) (by decide +kernel), List.mem_of_getElem? (i := 1230) (by decide +kernel), List.mem_of_getElem? (i := 1231) (by decide +kernel)⟩
def lw_privs_3 : List (MethodName × Nat) := [(⟨"ShaftPlumbModel", "wiresOf", "(I)I"⟩, 10), (⟨"ShaftPlumbModel", "startOf", "(I)I"⟩, 10), (⟨"ShaftPlumbModel", "isTraverse", "(I)Z"⟩, 10), (⟨"ShaftPlumbModel", "isClosed", "(I)Z"⟩, 10), (⟨"ShaftPlumbModel", "troubleOf", "(I)I"⟩, 10), (⟨"ShaftPlumbModel", "gap", "(I)I"⟩, 10), (⟨"ShaftPlumbModel", "bearing", "(II)I"⟩, 10), (⟨"ShaftPlumbModel", "angle", "(II)I"⟩, 10), (⟨"ShaftPlumbModel", "turns", "(II)V"⟩, 10), (⟨"ShaftPlumbModel", "length", "(II)I"⟩, 10), (⟨"ShaftPlumbModel", "traverseOf", "(II)I"⟩, 10), (⟨"ShaftPlumbModel", "isWhole", "(I)Z"⟩, 10), (⟨"ShaftPlumbModel", "miss", "(IZ)I"⟩, 10), (⟨"ShaftPlumbModel", "end", "(IIZ)I"⟩, 10), (⟨"ShaftPlumbModel", "legOf", "(III)I"⟩, 10), (⟨"ShaftPlumbModel", "troubleAt", "(II)I"⟩, 10)]
theorem lw_r3 : ∀ q ∈ lw_privs_3, lw_okq q := List.forall_mem_cons.mpr ⟨lw_p32, List.forall_mem_cons.mpr ⟨lw_p33, List.forall_mem_cons.mpr ⟨lw_p34, List.forall_mem_cons.mpr ⟨lw_p35, List.forall_mem_cons.mpr ⟨lw_p36, List.forall_mem_cons.mpr ⟨lw_p37, List.forall_mem_cons.mpr ⟨lw_p38, List.forall_mem_cons.mpr ⟨lw_p39, List.forall_mem_cons.mpr ⟨lw_p40, List.forall_mem_cons.mpr ⟨lw_p41, List.forall_mem_cons.mpr ⟨lw_p42, List.forall_mem_cons.mpr ⟨lw_p43, List.forall_mem_cons.mpr ⟨lw_p44, List.forall_mem_cons.mpr ⟨lw_p45, List.forall_mem_cons.mpr ⟨lw_p46, List.forall_mem_cons.mpr ⟨lw_p47, fun _ h => absurd h List.not_mem_nil⟩⟩⟩⟩⟩⟩⟩⟩⟩⟩⟩⟩⟩⟩⟩⟩
theorem lw_p48 : lw_okq (⟨"ShaftPlumbModel", "between", "(II)I"⟩, 10) := ⟨⟨by decide +kernel, by decide +kernel⟩, List.mem_of_getElem? (i := 941) (by decide +kernel), List.mem_of_getElem? (i := 1238) (by decide +kernel), List.mem_of_getElem? (i := 1239) (by decide +kernel)⟩
theorem lw_p49 : lw_okq (⟨"ShaftPlumbModel", "hasEnd", "(I)Z"⟩, 10) := ⟨⟨by decide +kernel, by decide +kernel⟩, List.mem_of_getElem? (i := 941) (by decide +kernel), List.mem_of_getElem? (i := 1242) (by decide +kernel), List.mem_of_getElem? (i := 1243) (by decide +kernel)⟩
theorem lw_p50 : lw_okq (⟨"ShaftPlumbModel", "suspectOf", "(I)I"⟩, 10) := ⟨⟨by decide +kernel, by decide +kernel⟩, List.mem_of_getElem? (i := 941) (by decide +kernel), List.mem_of_getElem? (i := 1260) (by decide +kernel), List.mem_of_getElem? (i := 1261) (by decide +kernel)⟩
theorem lw_p51 : lw_okq (⟨"ShaftPlumbModel", "faultAt", "()I"⟩, 10) := ⟨⟨by decide +kernel, by decide +kernel⟩, List.mem_of_getElem? (i := 941) (by decide +kernel), List.mem_of_getElem? (i := 1288) (by decide +kernel), List.mem_of_getElem? (i := 1289) (by decide +kernel)⟩
theorem lw_p52 : lw_okq (⟨"ShaftPlumbModel", "reads", "()Z"⟩, 10) := ⟨⟨by decide +kernel, by decide +kernel⟩, List.mem_of_getElem? (i := 941) (by decide +kernel), List.mem_of_getElem? (i := 1292) (by decide +kernel), List.mem_of_getElem? (i := 1293) (by decide +kernel)⟩
theorem lw_p53 : lw_okq (⟨"ShaftPlumbModel", "number", "(II)Z"⟩, 10) := ⟨⟨by decide +kernel, by decide +kernel⟩, List.mem_of_getElem? (i := 941) (by decide +kernel), List.mem_of_getElem? (i := 1299) (by decide +kernel), List.mem_of_getElem? (i := 1300) (by decide +kernel)⟩
theorem lw_p54 : lw_okq (⟨"ShaftPlumbModel", "isAt", "(II)Z"⟩, 10) := ⟨⟨by decide +kernel, by decide +kernel⟩, List.mem_of_getElem? (i := 941) (by decide +kernel), List.mem_of_getElem? (i := 1303) (by decide +kernel), List.mem_of_getElem? (i := 1304) (by decide +kernel)⟩
theorem lw_p55 : lw_okq (⟨"ShaftPlumbModel", "does", "(I)V"⟩, 10) := ⟨⟨by decide +kernel, by decide +kernel⟩, List.mem_of_getElem? (i := 941) (by decide +kernel), List.mem_of_getElem? (i := 1311) (by decide +kernel), List.mem_of_getElem? (i := 1312) (by decide +kernel)⟩
theorem lw_p56 : lw_okq (⟨"ShaftPlumbModel", "say", "(J)V"⟩, 10) := ⟨⟨by decide +kernel, by decide +kernel⟩, List.mem_of_getElem? (i := 941) (by decide +kernel), List.mem_of_getElem? (i := 1328) (by decide +kernel), List.mem_of_getElem? (i := 1329) (by decide +kernel)⟩
def lw_privs_4 : List (MethodName × Nat) := [(⟨"ShaftPlumbModel", "between", "(II)I"⟩, 10), (⟨"ShaftPlumbModel", "hasEnd", "(I)Z"⟩, 10), (⟨"ShaftPlumbModel", "suspectOf", "(I)I"⟩, 10), (⟨"ShaftPlumbModel", "faultAt", "()I"⟩, 10), (⟨"ShaftPlumbModel", "reads", "()Z"⟩, 10), (⟨"ShaftPlumbModel", "number", "(II)Z"⟩, 10), (⟨"ShaftPlumbModel", "isAt", "(II)Z"⟩, 10), (⟨"ShaftPlumbModel", "does", "(I)V"⟩, 10), (⟨"ShaftPlumbModel", "say", "(J)V"⟩, 10)]
theorem lw_r4 : ∀ q ∈ lw_privs_4, lw_okq q := List.forall_mem_cons.mpr ⟨lw_p48, List.forall_mem_cons.mpr ⟨lw_p49, List.forall_mem_cons.mpr ⟨lw_p50, List.forall_mem_cons.mpr ⟨lw_p51, List.forall_mem_cons.mpr ⟨lw_p52, List.forall_mem_cons.mpr ⟨lw_p53, List.forall_mem_cons.mpr ⟨lw_p54, List.forall_mem_cons.mpr ⟨lw_p55, List.forall_mem_cons.mpr ⟨lw_p56, fun _ h => absurd h List.not_mem_nil⟩⟩⟩⟩⟩⟩⟩⟩⟩
def lw_privs : List (MethodName × Nat) := lw_privs_1 ++ (lw_privs_2 ++ (lw_privs_3 ++ (lw_privs_4)))
def lw_tbl : List Cond := k2_sels lw_privs ++ tables_1
theorem lw_privs_ok : ∀ q ∈ lw_privs, lw_okq q := by
  show ∀ q ∈ lw_privs_1 ++ (lw_privs_2 ++ (lw_privs_3 ++ (lw_privs_4))), lw_okq q
  exact List.forall_mem_append.mpr ⟨lw_r1, List.forall_mem_append.mpr ⟨lw_r2, List.forall_mem_append.mpr ⟨lw_r3, lw_r4⟩⟩⟩
-- ===== end of PART A; then your names; then what follows =====
end
section
/-! ===== BEGIN words of one list among another's, by their places ===== -/
theorem goodIn_r {big : List Cond} (ws : List Cond) (ps : List Nat) (hp : ws = ps.filterMap (fun i => big[i]?)) (h : ws.all goodWord = true) : GoodIn big ws := by
  intro w hw
  have h1 := List.all_eq_true.mp h w hw
  rw [hp] at hw
  obtain ⟨i, -, hi⟩ := List.mem_filterMap.mp hw
  have hm : w ∈ big := by first | exact List.mem_of_getElem? hi | exact List.getElem?_mem hi
  exact ⟨hm, good_of_word h1⟩
theorem goodIn_app {big a b : List Cond} (ha : GoodIn big a) (hb : GoodIn big b) : GoodIn big (a ++ b) := fun w h => (List.mem_append.mp h).elim (ha w) (hb w)
theorem goodIn_ca {big a b : List Cond} {c : Cond} (ha : GoodIn big (c :: a)) (hb : GoodIn big b) : GoodIn big (c :: (a ++ b)) := fun w h => (List.mem_cons.mp h).elim (fun e => ha w (List.mem_cons.mpr (Or.inl e))) (fun h => (List.mem_append.mp h).elim (fun h => ha w (List.mem_cons.mpr (Or.inr h))) (hb w))
theorem goodIn_sub {big ws : List Cond} (hm : ∀ w ∈ ws, w ∈ big) (h : ws.all goodWord = true) : GoodIn big ws := fun w hw => ⟨hm w hw, good_of_word (List.all_eq_true.mp h w hw)⟩
/-! ===== END ===== -/

/-! ===== BEGIN exceptions that leave a method, and their catching by the caller (launches without stack traces) ===== -/
section VXA
/-! The laws vx_back, vx_callV, vx_callS, vx_callSW, vx_throw0, vx_throwS follow proofs of the library, with one case more: JvmDerived/Free/Laws.lean (Back.of_free), Shelf42/LK1.lean (callV, callS), Shelf/KitTraced.lean (throwNew0V, throwNewS). -/
/-- where a method has thrown q: the class by its name, the cell, what was written, the world -/
def vx_T (XC : String → State → State → Prop) (st : State) (q : Addr) (t : State) (mc ms : Nat) (free : Addr → Prop) : Prop :=
  ∃ (E : String) (ce : Cell) (L : List Loc), XC E st t ∧ t.heap[q]? = some ce ∧ ce.vm = .none ∧ st.vm.findClass E = some ce.cls ∧ st.WarmedH t.vm ∧ st.sameButNew ({ t with vm := st.vm } : State) L mc ms ∧ ∀ z ∈ L, free z.base
def vx_Q (Qc : Array Value → State → Outcome → State → Prop) (XC : String → State → State → Prop) (mc ms : Nat) (free : Addr → Prop) : Array Value → State → Outcome → State → Prop := fun a st o t =>
  (Qc a st o t ∧ ∃ L, FrameEnd st o t L mc ms ∧ ∀ q ∈ L, free q.base) ∨ ∃ q, o = .threw q ∧ vx_T XC st q t mc ms free
/-- a callee that returns or throws -/
def vx_Met (l : Launch) (y : MethodName) (ws : List Cond) (rm : Room) (Pc : Array Value → State → Prop) (Qc : Array Value → State → Outcome → State → Prop) (XC : String → State → State → Prop) (mc ms : Nat) (free : Addr → Prop) : Prop :=
  MetFree l y (headSpec ws rm) Pc (fun _ _ _ _ _ => True) (vx_Q Qc XC mc ms free)
def vx_Post (XC : String → State → State → Prop) (mc ms : Nat) (free : Addr → Prop) : Pt → Array Value → Addr → Pt → Prop := fun A a q B =>
  ∃ (g : JFrame) (mk : MethodId) (t : State) (L : List Loc) (E : String) (ce : Cell), B.U.heap = t.heap ∧ B.U.vm = t.vm ∧ XC E (A.U.calling g mk a) t ∧ t.heap[q]? = some ce ∧ ce.vm = .none ∧ A.U.vm.findClass E = some ce.cls ∧ B.locs = A.locs ++ L ∧ (∀ z ∈ L, free z.base) ∧ B.cells = A.cells + mc ∧ B.slots = A.slots + ms
def vx_Back (l : Launch) (R : Room) (p : Program) (e : Env) (below : List Frame) (s : State) (sargs : Array Value) (y : MethodName) (len W9 : Nat)
    (Pre : Pt → Array Value → Prop) (Post : Pt → Array Value → Option Value → Pt → Prop) (PostX : Pt → Array Value → Addr → Pt → Prop) : Prop :=
  ∀ (m : MethodId) (meth : Method) (c : Code) (A : Pt) (g : JFrame) (ig : Instr) (mk : MethodId) (a : Array Value),
    Stand p l e R s m sargs below meth c A.U A.locs A.cells A.slots → g.method = m → g.locals.size = c.maxLocals → decode c.code g.pc = .ok (ig, len) →
    2 * g.monitorRoom + (g.stack.map fun v => v.category).sum ≤ W9 → A.U.methodNamed? y = some mk → Pre A a →
    (∃ (v : Option Value) (B : Pt), Stand p l e R s m sargs below meth c B.U B.locs B.cells B.slots ∧ Post A a v B ∧
      Steps p.tables e below (doInvoke e (A.U.setTop g) [] mk a).1 (B.U.setTop { g with pc := g.pc + len, stack := v.toList ++ g.stack })) ∨
    (∃ (q : Addr) (B : Pt), Stand p l e R s m sargs below meth c B.U B.locs B.cells B.slots ∧ PostX A a q B ∧
      Steps p.tables e below (doInvoke e (A.U.setTop g) [] mk a).1 ((B.U.setTop g).pushFrame (.throwing q)))
section Payer
variable {l : Launch} {R : Room} {p : Program} {e : Env} {below : List Frame} {s : State} {sargs : Array Value} {y : MethodName} {len W9 : Nat}
theorem vx_back {ws : List Cond} {rm : Room} {Pc : Array Value → State → Prop} {Qc : Array Value → State → Outcome → State → Prop} {XC : String → State → State → Prop} {mc ms : Nat} {free : Addr → Prop} {bytes : ByteArray} {maxL : Nat} {ret : Option FieldType}
    (hM : vx_Met l y ws rm Pc Qc XC mc ms free) (hblind : FrameBlind Pc) (hrc : rm.cells = mc) (hrs : rm.slots = ms)
    (hframes : rm.frames + 1 ≤ R.frames) (hlocals : W9 + (maxL + 11) + rm.locals ≤ R.locals)
    (hws : ∀ w ∈ ws, ∀ a' U, s.WarmedH U.vm → w.before a' U = true) (hcode : Cond.code y bytes maxL ret ∈ ws) (hinit : ∀ a' U, s.WarmedH U.vm → (Cond.initialized y.cls).before a' U = true) :
    vx_Back l R p e below s sargs y len W9 (PreOf R mc ms Pc) (PostOf Qc mc ms free) (vx_Post XC mc ms free) := by
  intro m meth c A g ig mk a X hg hsize hdg hW hn hp
  have h1 : (headSpec ws rm).pre.before a A.U = true := atoms_intro fun w hw => hws w hw _ _ X.warmed
  have h2 : (Cond.code y bytes maxL ret).before a A.U = true := hws _ hcode _ _ X.warmed
  have h3 : (Cond.initialized y.cls).before a A.U = true := hinit _ _ X.warmed
  have h4 : A.cells + (headSpec ws rm).room.cells ≤ R.cells := by rw [show (headSpec ws rm).room.cells = mc from hrc]; exact hp.1
  have h5 : A.slots + (headSpec ws rm).room.slots ≤ R.slots := by rw [show (headSpec ws rm).room.slots = ms from hrs]; exact hp.2.1
  have hPc : Pc a (A.U.calling g mk a) := hblind _ _ _ _ hp.2.2
  obtain ⟨U, Ls, c0, s0⟩ := A
  dsimp only [Pt.U, Pt.locs, Pt.cells, Pt.slots] at h1 h2 h3 h4 h5 X hn hPc ⊢
  obtain ⟨methY, cY, hmY, hcY, -, hlY, -, -, -, -⟩ := Cond.code_spec hn h2
  obtain ⟨kY, hkY, -⟩ := className_of_methodNamed hn
  have hinitY : kY.init = .initialized := Cond.initialized_spec (findClass_of_methodNamed hn) hkY h3
  have h : At U g.method c below := by rw [hg]; exact X.here
  have hlocals9 : W9 + (maxL + 11) + (headSpec ws rm).room.locals ≤ R.locals := hlocals
  have happ : (headSpec ws rm).appliesLoose y e.platform (U.calling g mk a) = true :=
    Spec.appliesLoose_calling (g := g) h hdg hn hkY hinitY
      (X.room_calling (g := g) (R' := (headSpec ws rm).room) hsize hmY hcY hframes (by rw [hlY]; omega) h4 h5) h1
  obtain ⟨mid, hmid⟩ := h.above
  have hfr : (U.setTop g).frames = (.java g :: mid) ++ below := by rw [State.frames_setTop' g h.top, hmid]; rfl
  obtain ⟨o, s₂, hsteps, -, hend, hq⟩ := Steps.callFree hM p X.admits X.cas X.clock (acts := []) hfr happ hPc trivial
  have hq' : vx_Q Qc XC mc ms free a (U.calling g mk a) o s₂ := hq
  rw [State.frames_setTop' g h.top] at hend
  obtain ⟨g₀, hg0⟩ := Option.isSome_iff_exists.mp h.top
  obtain ⟨r, hr⟩ := State.topJava?_eq_some.mp hg0
  have hr' : (({ U with heap := s₂.heap, slotsUsed := s₂.slotsUsed } : State).setVm s₂.vm).frames = .java g₀ :: r := hr
  rcases hq' with ⟨hqc, L, hfe, hL⟩ | ⟨q, rfl, E, ce, L, hx, hce, hcv, hcl, hW₂, hsm, hL⟩
  · obtain ⟨⟨v, rfl⟩, hW₂, e2, q2, q3, q4, q5, q6⟩ := id hfe
    have e3 : s₂ = ({ (U.calling g mk a).setFrames s₂.frames with heap := s₂.heap, slotsUsed := s₂.slotsUsed } : State).setVm s₂.vm := by
      have : s₂ = ({ s₂ with vm := (U.calling g mk a).vm } : State).setVm s₂.vm := rfl
      rw [e2] at this
      exact this
    obtain ⟨c₂, i₂, len₂, hc₂, hd₂, hf₂⟩ := hend
    have hW' : U.WarmedH s₂.vm := hW₂
    have hcc : c₂ = c := by
      have h1 : s₂.code? g.method = U.code? g.method := by
        rw [State.code?_eq, State.code?_eq, hW'.alike.method?]
      exact Option.some.inj (hc₂.symm.trans (h1.trans h.code))
    subst hcc
    have hlen : len₂ = len := by rw [hdg] at hd₂; cases hd₂; rfl
    subst hlen
    have hs₂ : s₂ = (({ U with heap := s₂.heap, slotsUsed := s₂.slotsUsed } : State).setVm s₂.vm).setTop { g with pc := g.pc + len₂, stack := v.toList ++ g.stack } := by
      refine e3.trans ?_
      rw [hf₂, State.calling_eq h.top, State.setFrames_setFrames, State.setTop_of_frames _ hr', hr]
      rfl
    have hsame : U.sameButNew ({ U with heap := s₂.heap, slotsUsed := s₂.slotsUsed } : State) L mc ms := by
      refine ⟨?_, q2, q3, q4, q5, q6⟩
      obtain ⟨t, ht, -⟩ := State.frames_cons hr
      show ({ U with heap := s₂.heap, slotsUsed := s₂.slotsUsed } : State) = { U.setFrames U.frames with heap := s₂.heap, slotsUsed := s₂.slotsUsed }
      rw [State.setFrames_self ht]
    subst hg
    refine Or.inl ⟨v, ⟨(({ U with heap := s₂.heap, slotsUsed := s₂.slotsUsed } : State).setVm s₂.vm), Ls ++ L, c0 + mc, s0 + ms⟩,
      ⟨X.admits, X.cas, X.clock, X.frames, X.room, X.hears, X.method, X.code, (X.here.setHeapUsed s₂.heap s₂.slotsUsed).setVm hW'.alike, X.tail, State.WarmedH.trans X.warmed hW', X.limits, X.bytes, X.same.trans (hsame.setVm s.vm)⟩,
      ⟨g, mk, s₂, L, rfl, rfl, hqc, rfl, hL, rfl, rfl⟩, ?_⟩
    show Steps p.tables e below _ ((({ U with heap := s₂.heap, slotsUsed := s₂.slotsUsed } : State).setVm s₂.vm).setTop { g with pc := g.pc + len₂, stack := v.toList ++ g.stack })
    rw [← hs₂]
    exact hsteps
  · obtain ⟨e2, q2, q3, q4, q5, q6⟩ := id hsm
    have e3 : s₂ = ({ (U.calling g mk a).setFrames s₂.frames with heap := s₂.heap, slotsUsed := s₂.slotsUsed } : State).setVm s₂.vm := by
      have : s₂ = ({ s₂ with vm := (U.calling g mk a).vm } : State).setVm s₂.vm := rfl
      rw [e2] at this
      exact this
    have hf₂ : s₂.frames = .throwing q :: .java g :: U.frames.tail := hend
    have hW' : U.WarmedH s₂.vm := hW₂
    have hs₂ : s₂ = ((({ U with heap := s₂.heap, slotsUsed := s₂.slotsUsed } : State).setVm s₂.vm).setTop g).pushFrame (.throwing q) := by
      refine e3.trans ?_
      rw [hf₂, State.calling_eq h.top, State.setFrames_setFrames, State.pushFrame, State.frames_setTop _ hr', State.setTop_of_frames _ hr', State.setFrames_setFrames, hr]
      rfl
    have hsame : U.sameButNew ({ U with heap := s₂.heap, slotsUsed := s₂.slotsUsed } : State) L mc ms := by
      refine ⟨?_, q2, q3, q4, q5, q6⟩
      obtain ⟨t, ht, -⟩ := State.frames_cons hr
      show ({ U with heap := s₂.heap, slotsUsed := s₂.slotsUsed } : State) = { U.setFrames U.frames with heap := s₂.heap, slotsUsed := s₂.slotsUsed }
      rw [State.setFrames_self ht]
    subst hg
    refine Or.inr ⟨q, ⟨(({ U with heap := s₂.heap, slotsUsed := s₂.slotsUsed } : State).setVm s₂.vm), Ls ++ L, c0 + mc, s0 + ms⟩,
      ⟨X.admits, X.cas, X.clock, X.frames, X.room, X.hears, X.method, X.code, (X.here.setHeapUsed s₂.heap s₂.slotsUsed).setVm hW'.alike, X.tail, State.WarmedH.trans X.warmed hW', X.limits, X.bytes, X.same.trans (hsame.setVm s.vm)⟩,
      ⟨g, mk, s₂, L, E, ce, rfl, rfl, hx, hce, hcv, hcl, rfl, hL, rfl, rfl⟩, ?_⟩
    show Steps p.tables e below _ (((({ U with heap := s₂.heap, slotsUsed := s₂.slotsUsed } : State).setVm s₂.vm).setTop g).pushFrame (.throwing q))
    rw [← hs₂]
    exact hsteps
end Payer
section Calls
variable {p : Program} {l : Launch} {e : Env} {R : Room} {s : State} {m : MethodId} {args : Array Value} {below : List Frame} {meth : Method} {c : Code} {T : State} {locs : List Loc} {cells slots : Nat}
theorem vx_callV (X : Stand p l e R s m args below meth c T locs cells slots) (hexec : p.tables.exec = Jvm.exec) {own C : String} {index : Nat} {y : MethodName} {bytes : ByteArray} {maxL : Nat} {ret : Option FieldType}
    (hown : s.vm.findClass own = some m.cls) (hlink : (Cond.methodLink own index y).before args s = true) (hinst : (Cond.instanceMethod y).before args s = true) (hsel : (Cond.selects C y y).before args s = true)
    (hcode : (Cond.code y bytes maxL ret).before args s = true) (hy : y.cls ≠ "java/lang/invoke/MethodHandle" ∧ y.cls ≠ "java/lang/invoke/VarHandle")
    {W9 : Nat} {Pre : Pt → Array Value → Prop} {Post : Pt → Array Value → Option Value → Pt → Prop} {PostX : Pt → Array Value → Addr → Pt → Prop} (hK : vx_Back l R p e below s args y 3 W9 Pre Post PostX)
    {b : Addr} {cellB : Cell} (hcell : T.heap[b]? = some cellB) (hobj : cellB.vm.isStatics = false) (hcls : s.vm.findClass C = some cellB.cls)
    {g : JFrame} (hg : g.method = m) (hsize : g.locals.size = c.maxLocals) {argsL rest : List Value} (hlen : ∀ sig, parseMethodDescriptor y.desc = some sig → argsL.length = sig.parameters.length)
    (hstack : g.stack = argsL.reverse ++ .ref b :: rest) (hW : 2 * g.monitorRoom + (rest.map fun v => v.category).sum ≤ W9) (hdg : decode c.code g.pc = .ok (.invokevirtual index, 3))
    (hpre : ∀ vm₁, s.WarmedH vm₁ → Pre ⟨T.setVm vm₁, locs, cells, slots⟩ (Value.ref b :: argsL).toArray) :
    (∃ (v : Option Value) (vm₁ : Vm) (B : Pt), s.WarmedH vm₁ ∧ Stand p l e R s m args below meth c B.U B.locs B.cells B.slots ∧ Post ⟨T.setVm vm₁, locs, cells, slots⟩ (Value.ref b :: argsL).toArray v B ∧
      ∀ target, Steps p.tables e below (B.U.setTop { g with pc := g.pc + 3, stack := v.toList ++ rest }) target → Steps p.tables e below (T.setTop g) target) ∨
    (∃ (q : Addr) (vm₁ : Vm) (B : Pt), s.WarmedH vm₁ ∧ Stand p l e R s m args below meth c B.U B.locs B.cells B.slots ∧ PostX ⟨T.setVm vm₁, locs, cells, slots⟩ (Value.ref b :: argsL).toArray q B ∧
      Steps p.tables e below (T.setTop g) ((B.U.setTop { g with stack := rest }).pushFrame (.throwing q))) := by
  obtain ⟨mk, methM, hnamed, hmethM, hstM, habM⟩ := Cond.instanceMethod_spec hinst
  obtain ⟨methM', cM, hmethM', -, -, -, -, -, -, hsigM⟩ := Cond.code_spec hnamed hcode
  cases hmethM.symm.trans hmethM'
  obtain ⟨c2, r2, m2, q1, q2, q3, q4, kP, hkP, hkPi⟩ := Cond.selects_spec hsel
  cases hcls.symm.trans q1
  cases (State.methodFound?_of_named hnamed hy).symm.trans q2
  cases hnamed.symm.trans q3
  have hselP : selectMethod e.platform s.vm cellB.cls mk = .method mk := by rw [Launch.admits_selectMethod X.admits]; exact q4
  obtain ⟨vm₁, X₁, hstep₁⟩ := X.invokevirtual hexec hown hlink hnamed hmethM hstM hkP hkPi hy (a := b) (cell := cellB) hcell
    (fun z h => by rw [h] at hobj; cases hobj) hselP hmethM habM hkP hkPi (g := g) hg (argsL := argsL) (rest := rest) (hlen _ hsigM) hstack hdg
  rcases hK m meth c ⟨T.setVm vm₁, locs, cells, slots⟩ { g with stack := rest } (.invokevirtual index) mk (Value.ref b :: argsL).toArray X₁ hg hsize hdg hW (X₁.named hnamed) (hpre vm₁ X₁.warmed) with ⟨v, B, X', hpost, hsteps⟩ | ⟨q, B, X', hpost, hsteps⟩
  · exact Or.inl ⟨v, vm₁, B, X₁.warmed, X', hpost, fun target h => hstep₁ _ fun acts => by rw [doInvoke_state]; exact hsteps.trans h⟩
  · exact Or.inr ⟨q, vm₁, B, X₁.warmed, X', hpost, hstep₁ _ fun acts => by rw [doInvoke_state]; exact hsteps⟩
theorem vx_callS (X : Stand p l e R s m args below meth c T locs cells slots) (hexec : p.tables.exec = Jvm.exec) {own : String} {index : Nat} {y : MethodName} {bytes : ByteArray} {maxL : Nat} {ret : Option FieldType}
    (hown : s.vm.findClass own = some m.cls) (hlink : (Cond.methodLink own index y).before args s = true) (hstat : (Cond.static y).before args s = true) (hinit : (Cond.initialized y.cls).before args s = true)
    (hcode : (Cond.code y bytes maxL ret).before args s = true) (hy : y.cls ≠ "java/lang/invoke/MethodHandle" ∧ y.cls ≠ "java/lang/invoke/VarHandle")
    {W9 : Nat} {Pre : Pt → Array Value → Prop} {Post : Pt → Array Value → Option Value → Pt → Prop} {PostX : Pt → Array Value → Addr → Pt → Prop} (hK : vx_Back l R p e below s args y 3 W9 Pre Post PostX)
    {g : JFrame} (hg : g.method = m) (hsize : g.locals.size = c.maxLocals) {argsL rest : List Value} (hlen : ∀ sig, parseMethodDescriptor y.desc = some sig → argsL.length = sig.parameters.length)
    (hstack : g.stack = argsL.reverse ++ rest) (hW : 2 * g.monitorRoom + (rest.map fun v => v.category).sum ≤ W9) (hdg : decode c.code g.pc = .ok (.invokestatic index, 3))
    (hpre : ∀ vm₁, s.WarmedH vm₁ → Pre ⟨T.setVm vm₁, locs, cells, slots⟩ argsL.toArray) :
    (∃ (v : Option Value) (vm₁ : Vm) (B : Pt), s.WarmedH vm₁ ∧ Stand p l e R s m args below meth c B.U B.locs B.cells B.slots ∧ Post ⟨T.setVm vm₁, locs, cells, slots⟩ argsL.toArray v B ∧
      ∀ target, Steps p.tables e below (B.U.setTop { g with pc := g.pc + 3, stack := v.toList ++ rest }) target → Steps p.tables e below (T.setTop g) target) ∨
    (∃ (q : Addr) (vm₁ : Vm) (B : Pt), s.WarmedH vm₁ ∧ Stand p l e R s m args below meth c B.U B.locs B.cells B.slots ∧ PostX ⟨T.setVm vm₁, locs, cells, slots⟩ argsL.toArray q B ∧
      Steps p.tables e below (T.setTop g) ((B.U.setTop { g with stack := rest }).pushFrame (.throwing q))) := by
  obtain ⟨mk, hnamed⟩ := Cond.code_named hcode
  obtain ⟨methM, cM, hmethM, -, -, -, -, -, -, hsigM⟩ := Cond.code_spec hnamed hcode
  have hstatic : methM.isStatic = true := Cond.static_spec hnamed hmethM hstat
  obtain ⟨kP, hkP, -⟩ := className_of_methodNamed hnamed
  have hinitP : kP.init = .initialized := Cond.initialized_spec (findClass_of_methodNamed hnamed) hkP hinit
  obtain ⟨vm₁, X₁, hstep₁⟩ := X.invokestatic hexec hown hlink hnamed hmethM hstatic hkP hinitP hy (g := g) hg (argsL := argsL) (rest := rest) (hlen _ hsigM) hstack hdg
  rcases hK m meth c ⟨T.setVm vm₁, locs, cells, slots⟩ { g with stack := rest } (.invokestatic index) mk argsL.toArray X₁ hg hsize hdg hW (X₁.named hnamed) (hpre vm₁ X₁.warmed) with ⟨v, B, X', hpost, hsteps⟩ | ⟨q, B, X', hpost, hsteps⟩
  · exact Or.inl ⟨v, vm₁, B, X₁.warmed, X', hpost, fun target h => hstep₁ _ fun acts => by rw [doInvoke_state]; exact hsteps.trans h⟩
  · exact Or.inr ⟨q, vm₁, B, X₁.warmed, X', hpost, hstep₁ _ fun acts => by rw [doInvoke_state]; exact hsteps⟩
end Calls
theorem vx_cls {s : State} {T : State} {vm₁ : Vm} {E : String} {k : ClassId} (hW : s.WarmedH vm₁) (h : (T.setVm vm₁).vm.findClass E = some k) : s.vm.findClass E = some k := by
  have h1 : vm₁.findClass E = some k := h
  rw [hW.alike.findClass] at h1
  exact h1
/-- the method's frame g, with q thrown over it -/
def vx_W (p : Program) (l : Launch) (e : Env) (R : Room) (s : State) (m : MethodId) (args : Array Value) (below : List Frame) (meth : Method) (c : Code) (H : Heap) (locs : List Loc) (cells slots : Nat) (Q : State → Prop) (g : JFrame) (q : Addr) : Prop :=
  ∀ T : State, T.heap = H → Stand p l e R s m args below meth c T locs cells slots → ∃ t, Steps p.tables e below ((T.setTop g).pushFrame (.throwing q)) t ∧ Q t
def vx_Run (p : Program) (l : Launch) (e : Env) (R : Room) (s : State) (m : MethodId) (args : Array Value) (below : List Frame) (meth : Method) (c : Code) (H : Heap) (locs : List Loc) (cells slots mc ms : Nat) (g : JFrame) (rest : List Value) (Qa : State → Outcome → State → Prop) (XC : String → State → State → Prop) (free : Addr → Prop) : Prop :=
  ∀ T : State, T.heap = H → Stand p l e R s m args below meth c T locs cells slots →
    (∃ (v : Option Value) (st₀ t T' : State) (L : List Loc), st₀.heap = H ∧ Stand p l e R s m args below meth c T' (locs ++ L) (cells + mc) (slots + ms) ∧ (∀ q ∈ L, free q.base) ∧ T'.heap = t.heap ∧ T'.vm = t.vm ∧ Qa st₀ (.returned v) t ∧
      Goes p e below T g T' { g with pc := g.pc + 3, stack := v.toList ++ rest }) ∨
    (∃ (q : Addr) (st₀ t T' : State) (L : List Loc) (E : String) (ce : Cell), st₀.heap = H ∧ Stand p l e R s m args below meth c T' (locs ++ L) (cells + mc) (slots + ms) ∧ (∀ z ∈ L, free z.base) ∧ T'.heap = t.heap ∧ T'.vm = t.vm ∧ XC E st₀ t ∧ t.heap[q]? = some ce ∧ ce.vm = .none ∧ s.vm.findClass E = some ce.cls ∧
      Steps p.tables e below (T.setTop g) ((T'.setTop { g with stack := rest }).pushFrame (.throwing q)))
def vx_X {S : Type} (px : S → Prop) (B : String → S → State → Prop) (A : Nat → Prop) : String → State → State → Prop := fun E st t => ∃ u : S, px u ∧ B E u t ∧ va_F A st t
section Runs
variable {p : Program} {l : Launch} {e : Env} {R : Room} {s : State} {m : MethodId} {args : Array Value} {below : List Frame} {meth : Method} {c : Code} {H : Heap} {locs : List Loc} {cells slots : Nat}
variable {y : MethodName} {bytes cc : ByteArray} {maxL nL mc ms n index : Nat} {ret : Option FieldType} {ws : List Cond} {rm : Room} {Pc : Array Value → State → Prop} {Qc : Array Value → State → Outcome → State → Prop} {XC : String → State → State → Prop} {free : Addr → Prop} {Ts : List Cond} {own C : String} {b : Addr} {As rest : List Value} {g : JFrame}
theorem vx_callBack (cb : CallB R s args own index y bytes maxL ret ws rm mc ms n) (hM : vx_Met l y ws rm Pc Qc XC mc ms free) (hbl : FrameBlind Pc) : vx_Back l R p e below s args y 3 8 (PreOf R mc ms Pc) (PostOf Qc mc ms free) (vx_Post XC mc ms free) := by
  obtain ⟨hrc, hrs, hfr, hlo, hws, hcw, -, hini, -⟩ := cb
  exact vx_back (bytes := bytes) (maxL := maxL) (ret := ret) hM hbl hrc hrs hfr hlo hws hcw (fun a' U hW => word_at hW (Or.inl (by first | rfl | simp [Cond.onTables, Cond.keeps, Cond.steady])) hini)
theorem vx_runV (S : CallFix p m c cc nL s args Ts own) (hM : vx_Met l y ws rm Pc Qc XC mc ms free) (cw : CallW R s args own C index y bytes maxL ret ws rm mc ms n) (hp : PreV s H C b Pc As)
    (hg : g.method = m) (hn : As.length = n) (hsize : g.locals.size = nL) (hstack : g.stack = As.reverse ++ .ref b :: rest) (hW : 2 * g.monitorRoom + (rest.map fun v => v.category).sum ≤ 8) (hdg : decode cc g.pc = .ok (.invokevirtual index, 3)) (hf : cells + mc ≤ R.cells ∧ slots + ms ≤ R.slots) :
    vx_Run p l e R s m args below meth c H locs cells slots mc ms g rest (Qc (Value.ref b :: As).toArray) XC free := by
  have hK : vx_Back l R p e below s args y 3 8 (PreOf R mc ms Pc) (PostOf Qc mc ms free) (vx_Post XC mc ms free) := vx_callBack cw.1 hM hp.1
  obtain ⟨⟨-, -, -, -, -, -, hcode, -, hy, hlen, hl⟩, hin, hse⟩ := cw
  obtain ⟨hx, hb, hml, ho, -⟩ := S
  obtain ⟨-, ⟨cellB, hcB, hoB, hclB⟩, hPc⟩ := hp
  intro T hT X
  rcases vx_callV X hx (C := C) (bytes := bytes) (maxL := maxL) (ret := ret) ho hl hin hse hcode hy hK (by rw [hT]; exact hcB) hoB hclB hg (hsize.trans hml.symm) (argsL := As) (rest := rest) (fun sig h => hn.trans (hlen sig h)) hstack hW (by rw [hb]; exact hdg)
    (fun vm₁ hW₁ => ⟨hf.1, hf.2, hPc (T.setVm vm₁) hT hW₁⟩) with ⟨v, vm₁, ⟨U', l2, c2, s2⟩, hW₁, X', ⟨g', mk, t, L, e1, e2, hq, h1, hL, h2, h3⟩, st⟩ | ⟨q, vm₁, ⟨U', l2, c2, s2⟩, hW₁, X', ⟨g', mk, t, L, E, ce, e1, e2, hq, hce, hcv, hcl, h1, hL, h2, h3⟩, st⟩
  · dsimp only [Pt.U, Pt.locs, Pt.cells, Pt.slots] at X' e1 e2 h1 h2 h3 st
    subst h1; subst h2; subst h3
    exact Or.inl ⟨v, (T.setVm vm₁).calling g' mk (Value.ref b :: As).toArray, t, U', L, hT, X', hL, e1, e2, hq, st⟩
  · dsimp only [Pt.U, Pt.locs, Pt.cells, Pt.slots] at X' e1 e2 h1 h2 h3 st hcl
    subst h1; subst h2; subst h3
    exact Or.inr ⟨q, (T.setVm vm₁).calling g' mk (Value.ref b :: As).toArray, t, U', L, E, ce, hT, X', hL, e1, e2, hq, hce, hcv, vx_cls hW₁ hcl, st⟩
theorem vx_runS (S : CallFix p m c cc nL s args Ts own) (hM : vx_Met l y ws rm Pc Qc XC mc ms free) (cw : CallB R s args own index y bytes maxL ret ws rm mc ms n ∧ (Cond.static y).before args s = true) (hp : PreS s H Pc As)
    (hg : g.method = m) (hn : As.length = n) (hsize : g.locals.size = nL) (hstack : g.stack = As.reverse ++ rest) (hW : 2 * g.monitorRoom + (rest.map fun v => v.category).sum ≤ 8) (hdg : decode cc g.pc = .ok (.invokestatic index, 3)) (hf : cells + mc ≤ R.cells ∧ slots + ms ≤ R.slots) :
    vx_Run p l e R s m args below meth c H locs cells slots mc ms g rest (Qc As.toArray) XC free := by
  have hK : vx_Back l R p e below s args y 3 8 (PreOf R mc ms Pc) (PostOf Qc mc ms free) (vx_Post XC mc ms free) := vx_callBack cw.1 hM hp.1
  obtain ⟨⟨-, -, -, -, -, -, hcode, hini, hy, hlen, hl⟩, hstt⟩ := cw
  obtain ⟨hx, hb, hml, ho, -⟩ := S
  intro T hT X
  rcases vx_callS X hx (bytes := bytes) (maxL := maxL) (ret := ret) ho hl hstt hini hcode hy hK hg (hsize.trans hml.symm) (argsL := As) (rest := rest) (fun sig h => hn.trans (hlen sig h)) hstack hW (by rw [hb]; exact hdg)
    (fun vm₁ hW₁ => ⟨hf.1, hf.2, hp.2 (T.setVm vm₁) hT hW₁⟩) with ⟨v, vm₁, ⟨U', l2, c2, s2⟩, hW₁, X', ⟨g', mk, t, L, e1, e2, hq, h1, hL, h2, h3⟩, st⟩ | ⟨q, vm₁, ⟨U', l2, c2, s2⟩, hW₁, X', ⟨g', mk, t, L, E, ce, e1, e2, hq, hce, hcv, hcl, h1, hL, h2, h3⟩, st⟩
  · dsimp only [Pt.U, Pt.locs, Pt.cells, Pt.slots] at X' e1 e2 h1 h2 h3 st
    subst h1; subst h2; subst h3
    exact Or.inl ⟨v, (T.setVm vm₁).calling g' mk As.toArray, t, U', L, hT, X', hL, e1, e2, hq, st⟩
  · dsimp only [Pt.U, Pt.locs, Pt.cells, Pt.slots] at X' e1 e2 h1 h2 h3 st hcl
    subst h1; subst h2; subst h3
    exact Or.inr ⟨q, (T.setVm vm₁).calling g' mk As.toArray, t, U', L, E, ce, hT, X', hL, e1, e2, hq, hce, hcv, vx_cls hW₁ hcl, st⟩
end Runs
section Rows
variable {p : Program} {l : Launch} {e : Env} {R : Room} {s : State} {m : MethodId} {args : Array Value} {below : List Frame} {meth : Method} {c : Code} {H : Heap} {locs : List Loc} {cells slots : Nat} {Q : State → Prop}
variable {mc ms : Nat} {free : Addr → Prop} {A0 A1 : Nat → Prop} {H0 : Heap} {a : Array Value} {pc : Nat} {ls : Array Slot} {st0 rest : List Value}
theorem vx_keep {st₀ t T' : State} {L : List Loc} (h0 : st₀.heap = H) (e1 : T'.heap = t.heap) (hS : va_S A0 H0 H locs) (hA : ∀ q, q < H.size → A1 q → A0 q) (hf : ∀ q, free q → A0 q) (hL : ∀ q ∈ L, free q.base) (hF : va_F A1 st₀ t) :
    H.size ≤ T'.heap.size ∧ (∀ q : Nat, q < H.size → ¬ A1 q → T'.heap[q]? = H[q]?) ∧ va_S A0 H0 T'.heap (locs ++ L) := by
  obtain ⟨hz, hk⟩ := hF
  rw [h0] at hz hk
  exact ⟨by rw [e1]; exact hz, fun q h1 h2 => by rw [e1]; exact hk q h1 h2,
    ⟨Nat.le_trans hS.1 (by rw [e1]; exact hz), fun q h1 h2 => by rw [e1, hk q (Nat.lt_of_lt_of_le h1 hS.1) (fun z => h2 (hA q (Nat.lt_of_lt_of_le h1 hS.1) z))]; exact hS.2.1 q h1 h2, fun q hq => by
      rcases List.mem_append.mp hq with h | h
      · exact hS.2.2 q h
      · exact hf _ (hL q h)⟩⟩
theorem vx_calli {S SX : Type} {post : Int32 → S → Prop} {px : SX → Prop} {B : S → State → Prop} {BX : String → SX → State → Prop} {AX : Nat → Prop} (hr : vx_Run p l e R s m args below meth c H locs cells slots mc ms (F0 m pc ls st0) rest (va_Qi post B A1 a) (vx_X px BX AX) free) (hS : va_S A0 H0 H locs) (hA : ∀ q, q < H.size → A1 q → A0 q) (hf : ∀ q, free q → A0 q) (hAX : ∀ q, q < H.size → AX q → A0 q)
    (kx : ∀ (E : String) (ce : Cell) (q9 : Addr) (u : SX) (t : State) (H1 : Heap) (locs1 : List Loc), t.heap = H1 → s.vm.Alike t.vm → px u → BX E u t → H.size ≤ H1.size → (∀ q : Nat, q < H.size → ¬ AX q → H1[q]? = H[q]?) → va_S A0 H0 H1 locs1 → H1[q9]? = some ce → ce.vm = .none → s.vm.findClass E = some ce.cls → vx_W p l e R s m args below meth c H1 locs1 (cells + mc) (slots + ms) Q (F0 m pc ls rest) q9)
    (kk : ∀ (r : Int32) (u : S) (t : State) (H1 : Heap) (locs1 : List Loc), t.heap = H1 → s.vm.Alike t.vm → post r u → B u t → H.size ≤ H1.size → (∀ q : Nat, q < H.size → ¬ A1 q → H1[q]? = H[q]?) → va_S A0 H0 H1 locs1 → W p l e R s m args below meth c H1 locs1 (cells + mc) (slots + ms) Q (F0 m (pc + 3) ls (.int r :: rest))) : W p l e R s m args below meth c H locs cells slots Q (F0 m pc ls st0) := by
  intro T hT X
  rcases hr T hT X with ⟨v, st₀, t, T', L, h0, X', hL, e1, e2, ⟨⟨r, u, hv, hp, hb⟩, hF⟩, st⟩ | ⟨q, st₀, t, T', L, E, ce, h0, X', hL, e1, e2, ⟨u, hp, hb, hF⟩, hce, hcv, hcl, st⟩
  · cases hv
    obtain ⟨k1, k2, k3⟩ := vx_keep h0 e1 hS hA hf hL hF
    obtain ⟨t2, a1, b1⟩ := kk r u t T'.heap (locs ++ L) e1.symm (by rw [← e2]; exact X'.warmed.alike) hp hb k1 k2 k3 T' rfl X'
    exact ⟨t2, st t2 a1, b1⟩
  · obtain ⟨k1, k2, k3⟩ := vx_keep h0 e1 hS hAX hf hL hF
    obtain ⟨t2, a1, b1⟩ := kx E ce q u t T'.heap (locs ++ L) e1.symm (by rw [← e2]; exact X'.warmed.alike) hp hb k1 k2 k3 (by rw [e1]; exact hce) hcv hcl T' rfl X'
    exact ⟨t2, st.trans a1, b1⟩
theorem vx_calll {S SX : Type} {post : Int64 → S → Prop} {px : SX → Prop} {B : S → State → Prop} {BX : String → SX → State → Prop} {AX : Nat → Prop} (hr : vx_Run p l e R s m args below meth c H locs cells slots mc ms (F0 m pc ls st0) rest (va_Ql post B A1 a) (vx_X px BX AX) free) (hS : va_S A0 H0 H locs) (hA : ∀ q, q < H.size → A1 q → A0 q) (hf : ∀ q, free q → A0 q) (hAX : ∀ q, q < H.size → AX q → A0 q)
    (kx : ∀ (E : String) (ce : Cell) (q9 : Addr) (u : SX) (t : State) (H1 : Heap) (locs1 : List Loc), t.heap = H1 → s.vm.Alike t.vm → px u → BX E u t → H.size ≤ H1.size → (∀ q : Nat, q < H.size → ¬ AX q → H1[q]? = H[q]?) → va_S A0 H0 H1 locs1 → H1[q9]? = some ce → ce.vm = .none → s.vm.findClass E = some ce.cls → vx_W p l e R s m args below meth c H1 locs1 (cells + mc) (slots + ms) Q (F0 m pc ls rest) q9)
    (kk : ∀ (r : Int64) (u : S) (t : State) (H1 : Heap) (locs1 : List Loc), t.heap = H1 → s.vm.Alike t.vm → post r u → B u t → H.size ≤ H1.size → (∀ q : Nat, q < H.size → ¬ A1 q → H1[q]? = H[q]?) → va_S A0 H0 H1 locs1 → W p l e R s m args below meth c H1 locs1 (cells + mc) (slots + ms) Q (F0 m (pc + 3) ls (.long r :: rest))) : W p l e R s m args below meth c H locs cells slots Q (F0 m pc ls st0) := by
  intro T hT X
  rcases hr T hT X with ⟨v, st₀, t, T', L, h0, X', hL, e1, e2, ⟨⟨r, u, hv, hp, hb⟩, hF⟩, st⟩ | ⟨q, st₀, t, T', L, E, ce, h0, X', hL, e1, e2, ⟨u, hp, hb, hF⟩, hce, hcv, hcl, st⟩
  · cases hv
    obtain ⟨k1, k2, k3⟩ := vx_keep h0 e1 hS hA hf hL hF
    obtain ⟨t2, a1, b1⟩ := kk r u t T'.heap (locs ++ L) e1.symm (by rw [← e2]; exact X'.warmed.alike) hp hb k1 k2 k3 T' rfl X'
    exact ⟨t2, st t2 a1, b1⟩
  · obtain ⟨k1, k2, k3⟩ := vx_keep h0 e1 hS hAX hf hL hF
    obtain ⟨t2, a1, b1⟩ := kx E ce q u t T'.heap (locs ++ L) e1.symm (by rw [← e2]; exact X'.warmed.alike) hp hb k1 k2 k3 (by rw [e1]; exact hce) hcv hcl T' rfl X'
    exact ⟨t2, st.trans a1, b1⟩
theorem vx_callf {S SX : Type} {post : UInt32 → S → Prop} {px : SX → Prop} {B : S → State → Prop} {BX : String → SX → State → Prop} {AX : Nat → Prop} (hr : vx_Run p l e R s m args below meth c H locs cells slots mc ms (F0 m pc ls st0) rest (va_Qf post B A1 a) (vx_X px BX AX) free) (hS : va_S A0 H0 H locs) (hA : ∀ q, q < H.size → A1 q → A0 q) (hf : ∀ q, free q → A0 q) (hAX : ∀ q, q < H.size → AX q → A0 q)
    (kx : ∀ (E : String) (ce : Cell) (q9 : Addr) (u : SX) (t : State) (H1 : Heap) (locs1 : List Loc), t.heap = H1 → s.vm.Alike t.vm → px u → BX E u t → H.size ≤ H1.size → (∀ q : Nat, q < H.size → ¬ AX q → H1[q]? = H[q]?) → va_S A0 H0 H1 locs1 → H1[q9]? = some ce → ce.vm = .none → s.vm.findClass E = some ce.cls → vx_W p l e R s m args below meth c H1 locs1 (cells + mc) (slots + ms) Q (F0 m pc ls rest) q9)
    (kk : ∀ (r : UInt32) (u : S) (t : State) (H1 : Heap) (locs1 : List Loc), t.heap = H1 → s.vm.Alike t.vm → post r u → B u t → H.size ≤ H1.size → (∀ q : Nat, q < H.size → ¬ A1 q → H1[q]? = H[q]?) → va_S A0 H0 H1 locs1 → W p l e R s m args below meth c H1 locs1 (cells + mc) (slots + ms) Q (F0 m (pc + 3) ls (.float r :: rest))) : W p l e R s m args below meth c H locs cells slots Q (F0 m pc ls st0) := by
  intro T hT X
  rcases hr T hT X with ⟨v, st₀, t, T', L, h0, X', hL, e1, e2, ⟨⟨r, u, hv, hp, hb⟩, hF⟩, st⟩ | ⟨q, st₀, t, T', L, E, ce, h0, X', hL, e1, e2, ⟨u, hp, hb, hF⟩, hce, hcv, hcl, st⟩
  · cases hv
    obtain ⟨k1, k2, k3⟩ := vx_keep h0 e1 hS hA hf hL hF
    obtain ⟨t2, a1, b1⟩ := kk r u t T'.heap (locs ++ L) e1.symm (by rw [← e2]; exact X'.warmed.alike) hp hb k1 k2 k3 T' rfl X'
    exact ⟨t2, st t2 a1, b1⟩
  · obtain ⟨k1, k2, k3⟩ := vx_keep h0 e1 hS hAX hf hL hF
    obtain ⟨t2, a1, b1⟩ := kx E ce q u t T'.heap (locs ++ L) e1.symm (by rw [← e2]; exact X'.warmed.alike) hp hb k1 k2 k3 (by rw [e1]; exact hce) hcv hcl T' rfl X'
    exact ⟨t2, st.trans a1, b1⟩
theorem vx_calld {S SX : Type} {post : UInt64 → S → Prop} {px : SX → Prop} {B : S → State → Prop} {BX : String → SX → State → Prop} {AX : Nat → Prop} (hr : vx_Run p l e R s m args below meth c H locs cells slots mc ms (F0 m pc ls st0) rest (va_Qd post B A1 a) (vx_X px BX AX) free) (hS : va_S A0 H0 H locs) (hA : ∀ q, q < H.size → A1 q → A0 q) (hf : ∀ q, free q → A0 q) (hAX : ∀ q, q < H.size → AX q → A0 q)
    (kx : ∀ (E : String) (ce : Cell) (q9 : Addr) (u : SX) (t : State) (H1 : Heap) (locs1 : List Loc), t.heap = H1 → s.vm.Alike t.vm → px u → BX E u t → H.size ≤ H1.size → (∀ q : Nat, q < H.size → ¬ AX q → H1[q]? = H[q]?) → va_S A0 H0 H1 locs1 → H1[q9]? = some ce → ce.vm = .none → s.vm.findClass E = some ce.cls → vx_W p l e R s m args below meth c H1 locs1 (cells + mc) (slots + ms) Q (F0 m pc ls rest) q9)
    (kk : ∀ (r : UInt64) (u : S) (t : State) (H1 : Heap) (locs1 : List Loc), t.heap = H1 → s.vm.Alike t.vm → post r u → B u t → H.size ≤ H1.size → (∀ q : Nat, q < H.size → ¬ A1 q → H1[q]? = H[q]?) → va_S A0 H0 H1 locs1 → W p l e R s m args below meth c H1 locs1 (cells + mc) (slots + ms) Q (F0 m (pc + 3) ls (.double r :: rest))) : W p l e R s m args below meth c H locs cells slots Q (F0 m pc ls st0) := by
  intro T hT X
  rcases hr T hT X with ⟨v, st₀, t, T', L, h0, X', hL, e1, e2, ⟨⟨r, u, hv, hp, hb⟩, hF⟩, st⟩ | ⟨q, st₀, t, T', L, E, ce, h0, X', hL, e1, e2, ⟨u, hp, hb, hF⟩, hce, hcv, hcl, st⟩
  · cases hv
    obtain ⟨k1, k2, k3⟩ := vx_keep h0 e1 hS hA hf hL hF
    obtain ⟨t2, a1, b1⟩ := kk r u t T'.heap (locs ++ L) e1.symm (by rw [← e2]; exact X'.warmed.alike) hp hb k1 k2 k3 T' rfl X'
    exact ⟨t2, st t2 a1, b1⟩
  · obtain ⟨k1, k2, k3⟩ := vx_keep h0 e1 hS hAX hf hL hF
    obtain ⟨t2, a1, b1⟩ := kx E ce q u t T'.heap (locs ++ L) e1.symm (by rw [← e2]; exact X'.warmed.alike) hp hb k1 k2 k3 (by rw [e1]; exact hce) hcv hcl T' rfl X'
    exact ⟨t2, st.trans a1, b1⟩
theorem vx_callv {S SX : Type} {post : S → Prop} {px : SX → Prop} {B : S → State → Prop} {BX : String → SX → State → Prop} {AX : Nat → Prop} (hr : vx_Run p l e R s m args below meth c H locs cells slots mc ms (F0 m pc ls st0) rest (va_Qv post B A1 a) (vx_X px BX AX) free) (hS : va_S A0 H0 H locs) (hA : ∀ q, q < H.size → A1 q → A0 q) (hf : ∀ q, free q → A0 q) (hAX : ∀ q, q < H.size → AX q → A0 q)
    (kx : ∀ (E : String) (ce : Cell) (q9 : Addr) (u : SX) (t : State) (H1 : Heap) (locs1 : List Loc), t.heap = H1 → s.vm.Alike t.vm → px u → BX E u t → H.size ≤ H1.size → (∀ q : Nat, q < H.size → ¬ AX q → H1[q]? = H[q]?) → va_S A0 H0 H1 locs1 → H1[q9]? = some ce → ce.vm = .none → s.vm.findClass E = some ce.cls → vx_W p l e R s m args below meth c H1 locs1 (cells + mc) (slots + ms) Q (F0 m pc ls rest) q9)
    (kk : ∀ (u : S) (t : State) (H1 : Heap) (locs1 : List Loc), t.heap = H1 → s.vm.Alike t.vm → post u → B u t → H.size ≤ H1.size → (∀ q : Nat, q < H.size → ¬ A1 q → H1[q]? = H[q]?) → va_S A0 H0 H1 locs1 → W p l e R s m args below meth c H1 locs1 (cells + mc) (slots + ms) Q (F0 m (pc + 3) ls (rest))) : W p l e R s m args below meth c H locs cells slots Q (F0 m pc ls st0) := by
  intro T hT X
  rcases hr T hT X with ⟨v, st₀, t, T', L, h0, X', hL, e1, e2, ⟨⟨u, hv, hp, hb⟩, hF⟩, st⟩ | ⟨q, st₀, t, T', L, E, ce, h0, X', hL, e1, e2, ⟨u, hp, hb, hF⟩, hce, hcv, hcl, st⟩
  · cases hv
    obtain ⟨k1, k2, k3⟩ := vx_keep h0 e1 hS hA hf hL hF
    obtain ⟨t2, a1, b1⟩ := kk u t T'.heap (locs ++ L) e1.symm (by rw [← e2]; exact X'.warmed.alike) hp hb k1 k2 k3 T' rfl X'
    exact ⟨t2, st t2 a1, b1⟩
  · obtain ⟨k1, k2, k3⟩ := vx_keep h0 e1 hS hAX hf hL hF
    obtain ⟨t2, a1, b1⟩ := kx E ce q u t T'.heap (locs ++ L) e1.symm (by rw [← e2]; exact X'.warmed.alike) hp hb k1 k2 k3 (by rw [e1]; exact hce) hcv hcl T' rfl X'
    exact ⟨t2, st.trans a1, b1⟩
/-- caught by the row x of this method's table; the rows ahead don't take it -/
theorem vx_catch {own name : String} {E : String} {ce : Cell} {q : Addr} (hown : s.vm.findClass own = some m.cls) (pre : List ExceptionTableEntry) (x : ExceptionTableEntry) (suf : List ExceptionTableEntry) (hsplit : c.exceptionTable.toList = pre ++ x :: suf)
    (hpass : ∀ z ∈ pre, covers z pc = false ∨ (z.catchType ≠ 0 ∧ ∃ nm : String, (Cond.classLink own z.catchType nm).before args s = true ∧ va_Nc E nm s)) (hx : covers x pc = true) (h0 : x.catchType ≠ 0)
    (hlink : (Cond.classLink own x.catchType name).before args s = true) (hcast : (Cond.castable E name).before args s = true) (hcell : H[q]? = some ce) (hv : ce.vm = .none) (hcl : s.vm.findClass E = some ce.cls)
    (kk : W p l e R s m args below meth c H locs cells slots Q (F0 m x.handlerPc ls [.ref q])) : vx_W p l e R s m args below meth c H locs cells slots Q (F0 m pc ls rest) q := by
  intro T hT X
  have hpl : e.platform.magicAccessors = ({} : Platform).magicAccessors := by rw [X.admits.platform]
  obtain ⟨c3, c4, hc3, hc4, hasg⟩ := Cond.castable_spec hcast
  cases Option.some.inj (hc3.symm.trans hcl)
  obtain ⟨c5, hc5, hcl5⟩ := Cond.classLink_spec hown hlink e.platform hpl
  cases Option.some.inj (hc4.symm.trans hc5)
  obtain ⟨vm', X', st⟩ := X.thenCaughtThrough q (g := F0 m pc ls rest) rfl (Steps.refl _) (by rw [hT]; exact hcell) (by rw [hv]; rfl) (by obtain ⟨k9, h9, -⟩ := Vm.findClass_spec hcl; exact ⟨k9, h9⟩) pre x suf hsplit
    (fun z hz => by
      rcases hpass z hz with h | ⟨hz0, nm, hl1, hn1⟩
      · exact Or.inl h
      · obtain ⟨c6, hc6, hcl6⟩ := Cond.classLink_spec hown hl1 e.platform hpl
        obtain ⟨a8, b8, h1, h2, h3⟩ := hn1
        cases Option.some.inj (h1.symm.trans hcl)
        cases Option.some.inj (h2.symm.trans hc6)
        exact Or.inr ⟨hz0, _, hcl6, h3⟩) hx (Or.inr ⟨h0, c4, hcl5, hasg⟩)
  obtain ⟨t, a1, b1⟩ := kk (T.setVm vm') hT X'
  exact ⟨t, st.trans a1, b1⟩
end Rows
section Ends
variable {p : Program} {l : Launch} {e : Env} {R : Room} {s : State} {m : MethodId} {args : Array Value} {below : List Frame} {meth : Method} {c : Code} {H : Heap} {locs : List Loc} {cells slots : Nat} {Q : State → Prop}
variable {mc ms : Nat} {free : Addr → Prop} {A0 A1 : Nat → Prop} {H0 : Heap} {a : Array Value} {ls : Array Slot} {st0 rest : List Value}
variable {Qc : Array Value → State → Outcome → State → Prop} {XC : String → State → State → Prop}
/-- what a body that may throw owes at its end -/
def vx_MQ (below : List Frame) (Qc : Array Value → State → Outcome → State → Prop) (XC : String → State → State → Prop) (a : Array Value) (s : State) (mc ms : Nat) (free : Addr → Prop) : State → Prop := fun t =>
  ∃ o, t.status = .running ∧ Ended t below o ∧ vx_Q Qc XC mc ms free a s o t
theorem vx_ret {g : JFrame} {mc ms : Nat} (k : W p l e R s m args below meth c H locs cells slots (MQ below Qc args s mc ms free) g) : W p l e R s m args below meth c H locs cells slots (vx_MQ below Qc XC args s mc ms free) g := by
  intro T hT X
  obtain ⟨t, a1, o, b1, b2, b3, b4⟩ := k T hT X
  exact ⟨t, a1, o, b1, b2, Or.inl ⟨b3, b4⟩⟩
/-- not caught here: it goes on to the caller -/
theorem vx_widen {g : JFrame} {q : Addr} {k n : Nat} (h1 : cells ≤ k) (h2 : slots ≤ n) (kk : vx_W p l e R s m args below meth c H locs k n Q g q) : vx_W p l e R s m args below meth c H locs cells slots Q g q := fun T hT X => kk T hT (stand_widen X h1 h2)
theorem vx_out {pc : Nat} {E : String} {ce : Cell} {q : Addr} {mc ms : Nat} (hout : ∀ x ∈ c.exceptionTable.toList, covers x pc = false) (hlocks : meth.locks = false) (hcell : H[q]? = some ce) (hv : ce.vm = .none) (hcl : s.vm.findClass E = some ce.cls)
    (hx : ∀ t : State, t.heap = H → s.vm.Alike t.vm → XC E s t) (hf : ∀ z ∈ locs, free z.base) (hc : cells ≤ mc) (hs : slots ≤ ms) :
    vx_W p l e R s m args below meth c H locs cells slots (vx_MQ below Qc XC args s mc ms free) (F0 m pc ls rest) q := by
  intro T hT X
  obtain ⟨st1, hrun, hend, hW, hsm⟩ := X.leaveThrown q (g := F0 m pc ls rest) rfl rfl rfl hout hlocks
  have hcell9 : (T.setFrames (.throwing q :: below)).heap[q]? = some ce := by
    show T.heap[q]? = some ce
    rw [hT]; exact hcell
  exact ⟨_, st1, .threw q, hrun, hend, Or.inr ⟨q, rfl, E, ce, locs, hx _ hT hW.alike, hcell9, hv, hcl, hW, hsm.mono hc hs, hf⟩⟩
theorem vx_frame {U : State} {k n : Nat} (h : s.sameButNew ({ U with vm := s.vm } : State) locs k n) : s.heap.size ≤ U.heap.size ∧ ∀ q : Nat, q < s.heap.size → (∀ z ∈ locs, z.base ≠ q) → U.heap[q]? = s.heap[q]? := by
  obtain ⟨-, h2, -, -, -, h6⟩ := h
  refine ⟨h2, fun q hq hz => ?_⟩
  obtain ⟨c9, e1, e2, e3, e4⟩ := h6 q _ (Array.getElem?_eq_getElem hq)
  have hs : c9.slots = (s.heap[q]).slots := Array.ext_getElem? fun i => e4 i fun hm => hz _ hm rfl
  have h9 : c9 = s.heap[q] := by
    rw [hs] at e2
    exact e2
  have e5 : U.heap[q]? = some c9 := e1
  rw [e5, h9, Array.getElem?_eq_getElem hq]
/-- the words of a throw but the four that speak of the heap -/
def vx_no (w : Cond) : Bool := decide (w ≠ .isRef (.static Bundle.tN "UNASSIGNED_STACK" Bundle.steD)) && decide (w ≠ .isRef (.static Bundle.tN "SUPPRESSED_SENTINEL" Bundle.listD)) && decide (w ≠ .laysStatic Bundle.tN "UNASSIGNED_STACK" Bundle.steD) && decide (w ≠ .laysStatic Bundle.tN "SUPPRESSED_SENTINEL" Bundle.listD)
def vx_at0 (own : String) (ic : Nat) (X : String) (names : List String) : List Cond := (Bundle.ownAtoms0 own ic X names).filter vx_no
def vx_atS (own : String) (ic : Nat) (X : String) (names : List String) : List Cond := (Bundle.ownAtoms own ic X names).filter vx_no
/-- a word that the tables alone decide, or a good one -/
def vx_ot (w : Cond) : Bool := w.onTables || goodWord w
theorem vx_ot_at {args a' : Array Value} {s U : State} {w : Cond} (hW : s.WarmedH U.vm) (hvm : s.vm = U.vm) (hg : vx_ot w = true) (h : w.before args s = true) : w.before a' U = true := by
  simp only [vx_ot, Bool.or_eq_true] at hg
  rcases hg with hg | hg
  · exact va_tabs hg hvm h
  · exact word_at hW (good_of_word hg) h
/-- a list's words: the good ones out of the method's own list, the others by premises of their own -/
theorem vx_hat {args : Array Value} {s : State} {L B : List Cond} (h1 : ∀ w ∈ L.filter goodWord, w.before args s = true) (h2 : ∀ w ∈ L.filter (fun w => !goodWord w), w ∈ B) (h3 : ∀ w ∈ B, w.before args s = true) : ∀ w ∈ L, w.before args s = true := by
  intro w hw
  by_cases g : goodWord w = true
  · exact h1 w (List.mem_filter.mpr ⟨hw, g⟩)
  · refine h3 w (h2 w (List.mem_filter.mpr ⟨hw, ?_⟩))
    show (!goodWord w) = true
    cases hgw : goodWord w
    · rfl
    · exact absurd hgw g
theorem vx_c {args : Array Value} {s : State} {w : Cond} {B : List Cond} (h : w.before args s = true) (t : ∀ w ∈ B, w.before args s = true) : ∀ w' ∈ w :: B, w'.before args s = true := fun w' h' => (List.mem_cons.mp h').elim (fun e => by rw [e]; exact h) (t w')
theorem vx_n {args : Array Value} {s : State} : ∀ w ∈ ([] : List Cond), w.before args s = true := fun _ h => nomatch h
theorem vx_own {args : Array Value} {s : State} {L : List Cond} (h1 : ∀ w ∈ L.filter vx_no, w.before args s = true)
    (hU : (Cond.isRef (.static Bundle.tN "UNASSIGNED_STACK" Bundle.steD)).before args s = true) (hN : (Cond.isRef (.static Bundle.tN "SUPPRESSED_SENTINEL" Bundle.listD)).before args s = true)
    (lU : (Cond.laysStatic Bundle.tN "UNASSIGNED_STACK" Bundle.steD).before args s = true) (lN : (Cond.laysStatic Bundle.tN "SUPPRESSED_SENTINEL" Bundle.listD).before args s = true) : ∀ w ∈ L, w.before args s = true := by
  intro w hw
  by_cases e1 : w = .isRef (.static Bundle.tN "UNASSIGNED_STACK" Bundle.steD)
  · rw [e1]; exact hU
  · by_cases e2 : w = .isRef (.static Bundle.tN "SUPPRESSED_SENTINEL" Bundle.listD)
    · rw [e2]; exact hN
    · by_cases e3 : w = .laysStatic Bundle.tN "UNASSIGNED_STACK" Bundle.steD
      · rw [e3]; exact lU
      · by_cases e4 : w = .laysStatic Bundle.tN "SUPPRESSED_SENTINEL" Bundle.listD
        · rw [e4]; exact lN
        · exact h1 w (List.mem_filter.mpr ⟨hw, by unfold vx_no; rw [decide_eq_true e1, decide_eq_true e2, decide_eq_true e3, decide_eq_true e4]; rfl⟩)
/-- where a static field lies, its class's statics cell in H -/
def vx_L (C n d : String) (A : Nat → Prop) (U : State) (H : Heap) : Prop := ∃ (c : ClassId) (k : Class) (i : Nat) (f : Field) (a : Nat) (cell : Cell), U.vm.findClass C = some c ∧ U.fieldFound? C n d = some (c, k, i, f) ∧ f.isStatic = true ∧ k.statics = some a ∧ H[a]? = some cell ∧ cell.vm.isStatics = true ∧ cell.cls = c ∧ f.slot < cell.slots.size ∧ k.staticTypes[f.slot]? = some f.type ∧ ¬ A a
theorem vx_L.moved {C n d : String} {A : Nat → Prop} {u U : State} {H : Heap} (hvm : u.vm.Alike U.vm) (h : vx_L C n d A u H) : vx_L C n d A U H := by
  obtain ⟨c, k, i, f, a, cell, h1, h2, h3, h4, h5, h6, h7, h8, h9, h10⟩ := h
  obtain ⟨k', hi', he⟩ := State.fieldFound?_setVm hvm h2
  exact ⟨c, k', i, f, a, cell, by rw [hvm.findClass]; exact h1, hi', h3, by rw [he]; exact h4, h5, h6, h7, h8, by rw [he]; exact h9, h10⟩
theorem vx_L.kept {C n d : String} {A : Nat → Prop} {U : State} {H H1 : Heap} (h : vx_L C n d A U H) (hq : ∀ a : Nat, a < H.size → ¬ A a → H1[a]? = H[a]?) : vx_L C n d A U H1 := by
  obtain ⟨c, k, i, f, a, cell, h1, h2, h3, h4, h5, h6, h7, h8, h9, h10⟩ := h
  exact ⟨c, k, i, f, a, cell, h1, h2, h3, h4, by rw [hq a (Array.getElem?_eq_some_iff.mp h5).1 h10]; exact h5, h6, h7, h8, h9, h10⟩
theorem vx_L.narrow {C n d : String} {A B : Nat → Prop} {U : State} {H : Heap} (h : vx_L C n d A U H) (hAB : ∀ q, B q → A q) : vx_L C n d B U H := by
  obtain ⟨c, k, i, f, a, cell, h1, h2, h3, h4, h5, h6, h7, h8, h9, h10⟩ := h
  exact ⟨c, k, i, f, a, cell, h1, h2, h3, h4, h5, h6, h7, h8, h9, fun z => h10 (hAB _ z)⟩
theorem vx_L.word {C n d : String} {A : Nat → Prop} {s : State} {args : Array Value} (h : vx_L C n d A s s.heap) : (Cond.laysStatic C n d).before args s = true := by
  obtain ⟨c, k, i, f, a, cell, h1, h2, h3, h4, h5, h6, h7, h8, h9, -⟩ := h
  show (Cond.laysStatic C n d).holds args s none s [] = true
  exact Cond.laysStatic_of h1 h2 h3 h4 h5 h6 h7 h8 h9
/-- .. and what it holds: null or some reference -/
def vx_Zq (C n d : String) (A : Nat → Prop) (U : State) (H : Heap) : Prop := va_Zq C n d A U H ∧ vx_L C n d A U H
theorem vx_Zq.moved {C n d : String} {A : Nat → Prop} {u U : State} {H : Heap} (hvm : u.vm.Alike U.vm) (h : vx_Zq C n d A u H) : vx_Zq C n d A U H := ⟨va_Zq.moved hvm h.1, vx_L.moved hvm h.2⟩
theorem vx_Zq.kept {C n d : String} {A : Nat → Prop} {U : State} {H H1 : Heap} (h : vx_Zq C n d A U H) (hq : ∀ a : Nat, a < H.size → ¬ A a → H1[a]? = H[a]?) : vx_Zq C n d A U H1 := ⟨va_Zq.kept h.1 hq, vx_L.kept h.2 hq⟩
theorem vx_Zq.narrow {C n d : String} {A B : Nat → Prop} {U : State} {H : Heap} (h : vx_Zq C n d A U H) (hAB : ∀ q, B q → A q) : vx_Zq C n d B U H := ⟨va_Zq.narrow h.1 hAB, vx_L.narrow h.2 hAB⟩
theorem vx_Zqof {args : Array Value} {s : State} {C n d : String} {A : Nat → Prop} (hl : (Cond.laysStatic C n d).before args s = true) (hini : (Cond.initialized C).before args s = true) (h : (Cond.isRef (.static C n d)).before args s = true) (hA : ∀ a : Nat, a < s.heap.size → ¬ A a) : vx_Zq C n d A s s.heap := by
  refine ⟨va_Zqof hl hini h hA, ?_⟩
  obtain ⟨c, k, i, f, a, cell, h1, h2, h3, h4, h5, h6, h7, h8, h9⟩ := Cond.laysStatic_spec hl
  exact ⟨c, k, i, f, a, cell, h1, h2, h3, h4, h5, h6, h7, h8, h9, hA a (Array.getElem?_eq_some_iff.mp h5).1⟩
theorem vx_isRef {C n d : String} {v : Value} {A : Nat → Prop} {s : State} {args : Array Value} (h : va_Z C n d v A s s.heap) (hv : v.isRef = true) : (Cond.isRef (.static C n d)).before args s = true := by
  obtain ⟨cf, kf, fi, f, a, cell, h1, h2, h3, h4, h5, h6, h7, -⟩ := h
  have he : (Term.static C n d).eval args s none [] s = some v := by
    simp [Term.eval, State.fieldNamed?, h1, h2, h4, h5, h6, h7]
  simp only [Cond.before, Cond.holds, Cond.value, he]
  cases v <;> simp_all [Value.isRef]
theorem vx_isRefq {C n d : String} {A : Nat → Prop} {s : State} {args : Array Value} (h : va_Zq C n d A s s.heap) : (Cond.isRef (.static C n d)).before args s = true := by
  rcases h with h | ⟨t, h⟩
  · exact vx_isRef h rfl
  · exact vx_isRef h rfl
/-- the same frame, seen from here: as if the method were called anew in this heap -/
theorem vx_rebase {T : State} (X : Stand p l e R s m args below meth c T locs cells slots) {R' : Room} (hf : R'.frames ≤ R.frames) (hl : R'.locals ≤ R.locals) (hc : cells + R'.cells ≤ R.cells) (hs : slots + R'.slots ≤ R.slots) :
    Stand p l e R' ((T.setVm s.vm).setFrames (.invoking m args :: below)) m args below meth c T [] 0 0 := by
  have htop : (T.setVm s.vm).topJava?.isSome := X.here.top
  have hF : ((T.setVm s.vm).setFrames (.invoking m args :: below)).frames = .invoking m args :: below := State.frames_setFrames _ (State.cur_lt_of_top htop)
  obtain ⟨g₀, hg0⟩ := Option.isSome_iff_exists.mp htop
  obtain ⟨r, hr⟩ := State.topJava?_eq_some.mp hg0
  have hl9 : e.platform.stackLimits (T.setVm s.vm).me = e.platform.stackLimits s.me := X.limits
  have hb9 : (T.setVm s.vm).me.stackBytes = s.me.stackBytes := X.bytes
  refine ⟨X.admits, X.cas, X.clock, hF, ?_, X.hears, X.method, X.code, X.here, X.tail, X.warmed, ?_, ?_, ?_⟩
  · have h := X.room
    have hU : ((T.setVm s.vm).setFrames (.invoking m args :: below)).localsInUse = s.localsInUse := by
      rw [State.localsInUse_invoking hF (meth := meth) (c := c) X.method X.code, State.localsInUse_invoking X.frames X.method X.code]
    simp only [State.hasRoom, Bool.and_eq_true, decide_eq_true_eq] at h ⊢
    obtain ⟨⟨⟨⟨h1, h2, h3, h4, h5, h6⟩, h7⟩, h8⟩, h9⟩ := h
    rw [X.frames, List.length_cons] at h2 h3
    have q1 := X.heapSize
    have q2 := X.used
    simp only [hF, hU, List.length_cons, State.stackLimits_setFrames, State.stackBytes_setFrames, hl9, hb9]
    refine ⟨⟨⟨⟨by omega, by omega, by omega, by omega, by omega, h6⟩, ?_⟩, ?_⟩, X.book⟩
    · show T.heap.size + R'.cells ≤ e.platform.maxCells
      omega
    · show T.slotsUsed + R'.slots ≤ e.platform.maxSlots
      omega
  · rw [State.stackLimits_setFrames]; rfl
  · rw [State.stackBytes_setFrames]; rfl
  · refine ⟨?_, Nat.le_refl _, Nat.le_refl _, ?_, ?_, fun a c9 h9 => ⟨c9, h9, rfl, rfl, fun _ _ => rfl⟩⟩
    · obtain ⟨t, ht, -⟩ := State.frames_cons hr
      show T.setVm s.vm = { ((T.setVm s.vm).setFrames (.invoking m args :: below)).setFrames (T.setVm s.vm).frames with heap := T.heap, slotsUsed := T.slotsUsed }
      rw [State.setFrames_setFrames, State.setFrames_self ht]
      rfl
    · show T.slotsUsed = T.slotsUsed + ((T.heap.toList.drop T.heap.size).map (·.slots.size)).sum
      rw [List.drop_eq_nil_of_le (Nat.le_of_eq Array.length_toList)]
      rfl
    · show ((T.heap.toList.drop T.heap.size).map (·.slots.size)).sum ≤ 0
      rw [List.drop_eq_nil_of_le (Nat.le_of_eq Array.length_toList)]
      exact Nat.le_refl _
/-- 'throw new E()': new; dup; invokespecial; athrow -/
theorem vx_throw0 {cc : ByteArray} {pc : Nat} (hexec : p.tables.exec = Jvm.exec) (hb : c.code = cc) (hl : l.stackTraces = false) {own cls : String} {names : List String} {ik ic mc ms : Nat} {A : Nat → Prop}
    (hown : s.vm.findClass own = some m.cls) (hcls : Bundle.fit cls = true) (hnames : ∀ n ∈ names, Bundle.fit n = true)
    (hk : (Cond.classLink own ik cls).before args s = true) (hini : (Cond.initialized cls).before args s = true) (hat : ∀ w ∈ vx_at0 own ic cls names, w.before args s = true)
    (hgood : ∀ w ∈ Cond.classLink own ik cls :: Cond.initialized cls :: vx_at0 own ic cls names, vx_ot w = true)
    (hU : vx_Zq Bundle.tN "UNASSIGNED_STACK" Bundle.steD A s s.heap) (hN : vx_Zq Bundle.tN "SUPPRESSED_SENTINEL" Bundle.listD A s s.heap) (hS : va_S A s.heap H locs) (hsize : ls.size = c.maxLocals)
    (d0 : decode cc pc = .ok (.new ik, 3)) (d3 : decode cc (pc + 3) = .ok (.dup, 1)) (d4 : decode cc (pc + 4) = .ok (.invokespecial ic, 3)) (d7 : decode cc (pc + 7) = .ok (.athrow, 1))
    (hout : ∀ x ∈ c.exceptionTable.toList, covers x (pc + 7) = false)
    (hRframes : names.length + 3 < R.frames) (hRlocals : (rest.map fun v => v.category).sum + (13 * (names.length + 1) + 42) ≤ R.locals) (hRcells : cells + 1 ≤ R.cells) (hRslots : slots + 6 ≤ R.slots) (hlocks : meth.locks = false)
    (hx : ∀ t : State, s.vm.Alike t.vm → H.size ≤ t.heap.size → (∀ q : Nat, q < H.size → t.heap[q]? = H[q]?) → XC cls s t)
    (hf : ∀ z ∈ locs, free z.base) (hc : cells + 1 ≤ mc) (hs : slots + 6 ≤ ms) :
    W p l e R s m args below meth c H locs cells slots (vx_MQ below Qc XC args s mc ms free) (F0 m pc ls rest) := by
  intro T hT X
  have htr : e.platform.stackTraces = false := (show e.platform.stackTraces = l.stackTraces by rw [X.admits.platform]).trans hl
  have Y := vx_rebase X (R' := { frames := R.frames, locals := R.locals, cells := 1, slots := 6 }) (Nat.le_refl _) (Nat.le_refl _) hRcells hRslots
  obtain ⟨s', hA⟩ : ∃ z, z = (T.setVm s.vm).setFrames (.invoking m args :: below) := ⟨_, rfl⟩
  rw [← hA] at Y
  have hvm : s'.vm = s.vm := by rw [hA]; rfl
  have hhp : s'.heap = H := by rw [hA]; exact hT
  have hW0 : s.WarmedH s'.vm := by rw [hvm]; exact State.WarmedH.refl s
  have hat' : ∀ w ∈ vx_at0 own ic cls names, w.before args s' = true := fun w hw => vx_ot_at hW0 hvm.symm (hgood w (List.mem_cons_of_mem _ (List.mem_cons_of_mem _ hw))) (hat w hw)
  have hk' : (Cond.classLink own ik cls).before args s' = true := vx_ot_at hW0 hvm.symm (hgood _ List.mem_cons_self) hk
  have hini' : (Cond.initialized cls).before args s' = true := vx_ot_at hW0 hvm.symm (hgood _ (List.mem_cons_of_mem _ List.mem_cons_self)) hini
  have hU' : vx_Zq Bundle.tN "UNASSIGNED_STACK" Bundle.steD A s' s'.heap := by rw [hhp]; exact vx_Zq.moved hW0.alike (hU.kept hS.2.1)
  have hN' : vx_Zq Bundle.tN "SUPPRESSED_SENTINEL" Bundle.listD A s' s'.heap := by rw [hhp]; exact vx_Zq.moved hW0.alike (hN.kept hS.2.1)
  have h : ∀ w ∈ Bundle.ownAtoms0 own ic cls names, w.before args s' = true := vx_own hat' (vx_isRefq hU'.1) (vx_isRefq hN'.1) hU'.2.word hN'.2.word
  have hown' : s'.vm.findClass own = some m.cls := by rw [hvm]; exact hown
  have hins : (Cond.instantiable cls 6).before args s' = true := h _ (by simp [Bundle.ownAtoms0])
  obtain ⟨vm₁, cX, kX, hfX, hkX, -, -, X₁, st1⟩ := Y.newCold hexec (own := own) (C := cls) (index := ik) (n := 6) hown' hk' hins hini'
    (g := F0 m pc ls rest) rfl (by rw [hb]; exact d0) (Nat.le_refl _) (Nat.le_refl _)
  generalize hT1 : (T.setVm vm₁).pushCell { cls := cX, slots := kX.instanceTypes.map defaultValue, vm := .none } = T1 at X₁ st1
  have hcat : (Value.ref T.heap.size).category = 1 := rfl
  have hcellA : T1.heap[T.heap.size]? = some (freshCell cX kX) := by rw [← hT1]; exact State.heap_pushCell_size _ _
  have d3' : decode c.code (pc + 3) = .ok (.dup, 1) := by rw [hb]; exact d3
  obtain ⟨U, hsteps, hrun, hend, hW, hsame, ce, hce, hO⟩ := X₁.ctorThrow0 hexec htr (own := own) (cls := cls) (names := names) (ic := ic) hown' hcls hnames h (fun x hx => nomatch hx) hfX hkX hcellA (by rw [hhp, hT]; exact Nat.le_refl _)
    (g := { method := m, pc := pc + 4, locals := ls, stack := .ref T.heap.size :: .ref T.heap.size :: rest, locked := none }) rfl hsize rfl rfl (rest := rest) rfl
    (by rw [hb]; exact d4) (by rw [hb]; exact d7) hout hRframes (by simp only [List.map_cons, List.sum_cons, hcat]; omega) hlocks
  obtain ⟨f1, f2⟩ := vx_frame hsame
  rw [hhp] at f1 f2
  have hWs : s.WarmedH U.vm := State.WarmedH.trans hW0 hW
  have hcl : s.vm.findClass cls = some ce.cls := by
    have h9 := hO.cls
    rw [hvm] at h9
    exact h9
  have hall : s.sameButNew ({ U with vm := s.vm } : State) locs mc ms := by
    subst hA
    obtain ⟨e1, e2⟩ := hsame
    rw [State.setFrames_setFrames] at e1
    have h2 : (T.setVm s.vm).sameButNew ({ U with vm := s.vm } : State) [] (0 + 1) (0 + 6) := ⟨e1, e2⟩
    have h3 := X.same.trans h2
    rw [List.append_nil] at h3
    exact h3.mono hc hs
  refine ⟨U, ?_, .threw T.heap.size, hrun, hend, Or.inr ⟨T.heap.size, rfl, cls, ce, locs, hx U hWs.alike f1 (fun q hq => f2 q hq (fun z hz => nomatch hz)), hce, hO.vm, hcl, hWs, hall, hf⟩⟩
  refine st1 _ ?_
  show Steps p.tables e below (T1.setTop { method := m, pc := pc + 3, locals := ls, stack := .ref T.heap.size :: rest, locked := none }) _
  jvm_step X₁.here [X₁.here.top, hexec, d3', Value.category]
  exact hsteps
/-- 'throw new E("text")': new; dup; ldc; invokespecial; athrow -/
theorem vx_throwS {cc : ByteArray} {pc : Nat} (hexec : p.tables.exec = Jvm.exec) (hb : c.code = cc) (hl : l.stackTraces = false) {own cls text : String} {names : List String} {ik is ic mc ms sa : Nat} {A : Nat → Prop}
    (hown : s.vm.findClass own = some m.cls) (hcls : Bundle.fit cls = true) (hnames : ∀ n ∈ names, Bundle.fit n = true)
    (hk : (Cond.classLink own ik cls).before args s = true) (hini : (Cond.initialized cls).before args s = true) (hstr : vk_R own is text sa s) (hat : ∀ w ∈ vx_atS own ic cls names, w.before args s = true)
    (hgood : ∀ w ∈ Cond.classLink own ik cls :: Cond.initialized cls :: vx_atS own ic cls names, vx_ot w = true)
    (hU : vx_Zq Bundle.tN "UNASSIGNED_STACK" Bundle.steD A s s.heap) (hN : vx_Zq Bundle.tN "SUPPRESSED_SENTINEL" Bundle.listD A s s.heap) (hS : va_S A s.heap H locs) (hsize : ls.size = c.maxLocals)
    (d0 : decode cc pc = .ok (.new ik, 3)) (d3 : decode cc (pc + 3) = .ok (.dup, 1)) (d4 : decode cc (pc + 4) = .ok (.ldc is, 2)) (d6 : decode cc (pc + 6) = .ok (.invokespecial ic, 3)) (d9 : decode cc (pc + 9) = .ok (.athrow, 1))
    (hout : ∀ x ∈ c.exceptionTable.toList, covers x (pc + 9) = false)
    (hRframes : names.length + 3 < R.frames) (hRlocals : (rest.map fun v => v.category).sum + (13 * (names.length + 1) + 43) ≤ R.locals) (hRcells : cells + 1 ≤ R.cells) (hRslots : slots + 6 ≤ R.slots) (hlocks : meth.locks = false)
    (hx : ∀ t : State, s.vm.Alike t.vm → H.size ≤ t.heap.size → (∀ q : Nat, q < H.size → t.heap[q]? = H[q]?) → XC cls s t)
    (hf : ∀ z ∈ locs, free z.base) (hc : cells + 1 ≤ mc) (hs : slots + 6 ≤ ms) :
    W p l e R s m args below meth c H locs cells slots (vx_MQ below Qc XC args s mc ms free) (F0 m pc ls rest) := by
  intro T hT X
  have htr : e.platform.stackTraces = false := (show e.platform.stackTraces = l.stackTraces by rw [X.admits.platform]).trans hl
  have Y := vx_rebase X (R' := { frames := R.frames, locals := R.locals, cells := 1, slots := 6 }) (Nat.le_refl _) (Nat.le_refl _) hRcells hRslots
  obtain ⟨s', hA⟩ : ∃ z, z = (T.setVm s.vm).setFrames (.invoking m args :: below) := ⟨_, rfl⟩
  rw [← hA] at Y
  have hvm : s'.vm = s.vm := by rw [hA]; rfl
  have hhp : s'.heap = H := by rw [hA]; exact hT
  have hW0 : s.WarmedH s'.vm := by rw [hvm]; exact State.WarmedH.refl s
  have hat' : ∀ w ∈ vx_atS own ic cls names, w.before args s' = true := fun w hw => vx_ot_at hW0 hvm.symm (hgood w (List.mem_cons_of_mem _ (List.mem_cons_of_mem _ hw))) (hat w hw)
  have hk' : (Cond.classLink own ik cls).before args s' = true := vx_ot_at hW0 hvm.symm (hgood _ List.mem_cons_self) hk
  have hini' : (Cond.initialized cls).before args s' = true := vx_ot_at hW0 hvm.symm (hgood _ (List.mem_cons_of_mem _ List.mem_cons_self)) hini
  have hU' : vx_Zq Bundle.tN "UNASSIGNED_STACK" Bundle.steD A s' s'.heap := by rw [hhp]; exact vx_Zq.moved hW0.alike (hU.kept hS.2.1)
  have hN' : vx_Zq Bundle.tN "SUPPRESSED_SENTINEL" Bundle.listD A s' s'.heap := by rw [hhp]; exact vx_Zq.moved hW0.alike (hN.kept hS.2.1)
  have h : ∀ w ∈ Bundle.ownAtoms own ic cls names, w.before args s' = true := vx_own hat' (vx_isRefq hU'.1) (vx_isRefq hN'.1) hU'.2.word hN'.2.word
  have hown' : s'.vm.findClass own = some m.cls := by rw [hvm]; exact hown
  have hins : (Cond.instantiable cls 6).before args s' = true := h _ (by simp [Bundle.ownAtoms])
  obtain ⟨vm₁, cX, kX, hfX, hkX, -, -, X₁, st1⟩ := Y.newCold hexec (own := own) (C := cls) (index := ik) (n := 6) hown' hk' hins hini'
    (g := F0 m pc ls rest) rfl (by rw [hb]; exact d0) (Nat.le_refl _) (Nat.le_refl _)
  generalize hT1 : (T.setVm vm₁).pushCell { cls := cX, slots := kX.instanceTypes.map defaultValue, vm := .none } = T1 at X₁ st1
  have hcat : (Value.ref T.heap.size).category = 1 := rfl
  have hcellA : T1.heap[T.heap.size]? = some (freshCell cX kX) := by rw [← hT1]; exact State.heap_pushCell_size _ _
  have d3' : decode c.code (pc + 3) = .ok (.dup, 1) := by rw [hb]; exact d3
  have d4' : decode c.code (pc + 4) = .ok (.ldc is, 2) := by rw [hb]; exact d4
  have hstr' : vk_R own is text sa s' := vk_R.warm hW0 hstr
  obtain ⟨U, hsteps, hrun, hend, hW, hsame, ce, hce, hO⟩ := X₁.ctorThrowS hexec htr (own := own) (cls := cls) (names := names) (ic := ic) hown' hcls hnames h (fun x hx => nomatch hx) hfX hkX hcellA (by rw [hhp, hT]; exact Nat.le_refl _) (msg := .ref sa) rfl
    (g := { method := m, pc := pc + 6, locals := ls, stack := .ref sa :: .ref T.heap.size :: .ref T.heap.size :: rest, locked := none }) rfl hsize rfl rfl (rest := rest) rfl
    (by rw [hb]; exact d6) (by rw [hb]; exact d9) hout hRframes (by simp only [List.map_cons, List.sum_cons, hcat]; omega) hlocks
  obtain ⟨f1, f2⟩ := vx_frame hsame
  rw [hhp] at f1 f2
  have hWs : s.WarmedH U.vm := State.WarmedH.trans hW0 hW
  have hcl : s.vm.findClass cls = some ce.cls := by
    have h9 := hO.cls
    rw [hvm] at h9
    exact h9
  have hall : s.sameButNew ({ U with vm := s.vm } : State) locs mc ms := by
    subst hA
    obtain ⟨e1, e2⟩ := hsame
    rw [State.setFrames_setFrames] at e1
    have h2 : (T.setVm s.vm).sameButNew ({ U with vm := s.vm } : State) [] (0 + 1) (0 + 6) := ⟨e1, e2⟩
    have h3 := X.same.trans h2
    rw [List.append_nil] at h3
    exact h3.mono hc hs
  refine ⟨U, ?_, .threw T.heap.size, hrun, hend, Or.inr ⟨T.heap.size, rfl, cls, ce, locs, hx U hWs.alike f1 (fun q hq => f2 q hq (fun z hz => nomatch hz)), hce, hO.vm, hcl, hWs, hall, hf⟩⟩
  refine st1 _ ?_
  show Steps p.tables e below (T1.setTop { method := m, pc := pc + 3, locals := ls, stack := .ref T.heap.size :: rest, locked := none }) _
  jvm_step X₁.here [X₁.here.top, hexec, d3', Value.category]
  exact X₁.ldcString hexec (own := own) (text := text) (index := is) (a := sa) hown' hstr'.1 hstr'.2
    (g := { method := m, pc := pc + 4, locals := ls, stack := .ref T.heap.size :: .ref T.heap.size :: rest, locked := none }) rfl d4' _ hsteps
/-- 'throw new E("text")', the text by a wide index -/
theorem vx_throwSW {cc : ByteArray} {pc : Nat} (hexec : p.tables.exec = Jvm.exec) (hb : c.code = cc) (hl : l.stackTraces = false) {own cls text : String} {names : List String} {ik is ic mc ms sa : Nat} {A : Nat → Prop}
    (hown : s.vm.findClass own = some m.cls) (hcls : Bundle.fit cls = true) (hnames : ∀ n ∈ names, Bundle.fit n = true)
    (hk : (Cond.classLink own ik cls).before args s = true) (hini : (Cond.initialized cls).before args s = true) (hstr : vk_R own is text sa s) (hat : ∀ w ∈ vx_atS own ic cls names, w.before args s = true)
    (hgood : ∀ w ∈ Cond.classLink own ik cls :: Cond.initialized cls :: vx_atS own ic cls names, vx_ot w = true)
    (hU : vx_Zq Bundle.tN "UNASSIGNED_STACK" Bundle.steD A s s.heap) (hN : vx_Zq Bundle.tN "SUPPRESSED_SENTINEL" Bundle.listD A s s.heap) (hS : va_S A s.heap H locs) (hsize : ls.size = c.maxLocals)
    (d0 : decode cc pc = .ok (.new ik, 3)) (d3 : decode cc (pc + 3) = .ok (.dup, 1)) (d4 : decode cc (pc + 4) = .ok (.ldc_w is, 3)) (d7 : decode cc (pc + 7) = .ok (.invokespecial ic, 3)) (d10 : decode cc (pc + 10) = .ok (.athrow, 1))
    (hout : ∀ x ∈ c.exceptionTable.toList, covers x (pc + 10) = false)
    (hRframes : names.length + 3 < R.frames) (hRlocals : (rest.map fun v => v.category).sum + (13 * (names.length + 1) + 43) ≤ R.locals) (hRcells : cells + 1 ≤ R.cells) (hRslots : slots + 6 ≤ R.slots) (hlocks : meth.locks = false)
    (hx : ∀ t : State, s.vm.Alike t.vm → H.size ≤ t.heap.size → (∀ q : Nat, q < H.size → t.heap[q]? = H[q]?) → XC cls s t)
    (hf : ∀ z ∈ locs, free z.base) (hc : cells + 1 ≤ mc) (hs : slots + 6 ≤ ms) :
    W p l e R s m args below meth c H locs cells slots (vx_MQ below Qc XC args s mc ms free) (F0 m pc ls rest) := by
  intro T hT X
  have htr : e.platform.stackTraces = false := (show e.platform.stackTraces = l.stackTraces by rw [X.admits.platform]).trans hl
  have Y := vx_rebase X (R' := { frames := R.frames, locals := R.locals, cells := 1, slots := 6 }) (Nat.le_refl _) (Nat.le_refl _) hRcells hRslots
  obtain ⟨s', hA⟩ : ∃ z, z = (T.setVm s.vm).setFrames (.invoking m args :: below) := ⟨_, rfl⟩
  rw [← hA] at Y
  have hvm : s'.vm = s.vm := by rw [hA]; rfl
  have hhp : s'.heap = H := by rw [hA]; exact hT
  have hW0 : s.WarmedH s'.vm := by rw [hvm]; exact State.WarmedH.refl s
  have hat' : ∀ w ∈ vx_atS own ic cls names, w.before args s' = true := fun w hw => vx_ot_at hW0 hvm.symm (hgood w (List.mem_cons_of_mem _ (List.mem_cons_of_mem _ hw))) (hat w hw)
  have hk' : (Cond.classLink own ik cls).before args s' = true := vx_ot_at hW0 hvm.symm (hgood _ List.mem_cons_self) hk
  have hini' : (Cond.initialized cls).before args s' = true := vx_ot_at hW0 hvm.symm (hgood _ (List.mem_cons_of_mem _ List.mem_cons_self)) hini
  have hU' : vx_Zq Bundle.tN "UNASSIGNED_STACK" Bundle.steD A s' s'.heap := by rw [hhp]; exact vx_Zq.moved hW0.alike (hU.kept hS.2.1)
  have hN' : vx_Zq Bundle.tN "SUPPRESSED_SENTINEL" Bundle.listD A s' s'.heap := by rw [hhp]; exact vx_Zq.moved hW0.alike (hN.kept hS.2.1)
  have h : ∀ w ∈ Bundle.ownAtoms own ic cls names, w.before args s' = true := vx_own hat' (vx_isRefq hU'.1) (vx_isRefq hN'.1) hU'.2.word hN'.2.word
  have hown' : s'.vm.findClass own = some m.cls := by rw [hvm]; exact hown
  have hins : (Cond.instantiable cls 6).before args s' = true := h _ (by simp [Bundle.ownAtoms])
  obtain ⟨vm₁, cX, kX, hfX, hkX, -, -, X₁, st1⟩ := Y.newCold hexec (own := own) (C := cls) (index := ik) (n := 6) hown' hk' hins hini'
    (g := F0 m pc ls rest) rfl (by rw [hb]; exact d0) (Nat.le_refl _) (Nat.le_refl _)
  generalize hT1 : (T.setVm vm₁).pushCell { cls := cX, slots := kX.instanceTypes.map defaultValue, vm := .none } = T1 at X₁ st1
  have hcat : (Value.ref T.heap.size).category = 1 := rfl
  have hcellA : T1.heap[T.heap.size]? = some (freshCell cX kX) := by rw [← hT1]; exact State.heap_pushCell_size _ _
  have d3' : decode c.code (pc + 3) = .ok (.dup, 1) := by rw [hb]; exact d3
  have d4' : decode c.code (pc + 4) = .ok (.ldc_w is, 3) := by rw [hb]; exact d4
  have hstr' : vk_R own is text sa s' := vk_R.warm hW0 hstr
  obtain ⟨U, hsteps, hrun, hend, hW, hsame, ce, hce, hO⟩ := X₁.ctorThrowS hexec htr (own := own) (cls := cls) (names := names) (ic := ic) hown' hcls hnames h (fun x hx => nomatch hx) hfX hkX hcellA (by rw [hhp, hT]; exact Nat.le_refl _) (msg := .ref sa) rfl
    (g := { method := m, pc := pc + 7, locals := ls, stack := .ref sa :: .ref T.heap.size :: .ref T.heap.size :: rest, locked := none }) rfl hsize rfl rfl (rest := rest) rfl
    (by rw [hb]; exact d7) (by rw [hb]; exact d10) hout hRframes (by simp only [List.map_cons, List.sum_cons, hcat]; omega) hlocks
  obtain ⟨f1, f2⟩ := vx_frame hsame
  rw [hhp] at f1 f2
  have hWs : s.WarmedH U.vm := State.WarmedH.trans hW0 hW
  have hcl : s.vm.findClass cls = some ce.cls := by
    have h9 := hO.cls
    rw [hvm] at h9
    exact h9
  have hall : s.sameButNew ({ U with vm := s.vm } : State) locs mc ms := by
    subst hA
    obtain ⟨e1, e2⟩ := hsame
    rw [State.setFrames_setFrames] at e1
    have h2 : (T.setVm s.vm).sameButNew ({ U with vm := s.vm } : State) [] (0 + 1) (0 + 6) := ⟨e1, e2⟩
    have h3 := X.same.trans h2
    rw [List.append_nil] at h3
    exact h3.mono hc hs
  refine ⟨U, ?_, .threw T.heap.size, hrun, hend, Or.inr ⟨T.heap.size, rfl, cls, ce, locs, hx U hWs.alike f1 (fun q hq => f2 q hq (fun z hz => nomatch hz)), hce, hO.vm, hcl, hWs, hall, hf⟩⟩
  refine st1 _ ?_
  show Steps p.tables e below (T1.setTop { method := m, pc := pc + 3, locals := ls, stack := .ref T.heap.size :: rest, locked := none }) _
  jvm_step X₁.here [X₁.here.top, hexec, d3', Value.category]
  exact X₁.ldcStringW hexec (own := own) (text := text) (index := is) (a := sa) hown' hstr'.1 hstr'.2
    (g := { method := m, pc := pc + 4, locals := ls, stack := .ref T.heap.size :: .ref T.heap.size :: rest, locked := none }) rfl d4' _ hsteps
end Ends
section Bodies
variable {l : Launch}
theorem vx_ofW {y : MethodName} {ws ws' : List Cond} {rm : Room} {Pc : Array Value → State → Prop} {Qc : Array Value → State → Outcome → State → Prop} {XC : String → State → State → Prop} {mc ms : Nat} {free : Addr → Prop} {cc : ByteArray} {maxL : Nat} {ret : Option FieldType}
    (hy : plainName y.cls = true) (hw : ws = Cond.code y cc maxL ret :: ws')
    (body : ∀ p e s m args below meth c s₁, BodyLoose p l y (headSpec ws rm) cc maxL ret e s m args below meth c s₁ → c.maxLocals = maxL → (∀ x ∈ c.exceptionTable.toList, False) → Pc args s →
      W p l e (headSpec ws rm).room s m args below meth c s.heap [] 0 0 (vx_MQ below Qc XC args s mc ms free) (entryFrame m args maxL)) : vx_Met l y ws rm Pc Qc XC mc ms free := by
  refine MetFree.of_bodyS (code := cc) (maxLocals := maxL) (ret := ret) hy ?_ ?_
  · intro args s m h hn
    obtain ⟨meth, c, h1, h2, h3, h4, h5, h6, -, -⟩ := Cond.code_spec hn (atoms_spec (ws := ws) h _ (by rw [hw]; exact List.mem_cons_self))
    exact ⟨meth, c, h1, h2, h3, h4, h5, h6⟩
  · intro p e s m args below meth c s₁ B hml hP _
    have hh0 : s₁.heap = s.heap := by rw [B.state]; rfl
    have ht : ∀ x ∈ c.exceptionTable.toList, False := by
      obtain ⟨meth9, c9, h1, h2, -, -, -, -, h7, -⟩ := Cond.code_spec B.named (atoms_spec (ws := ws) B.pre _ (by rw [hw]; exact List.mem_cons_self))
      cases Option.some.inj (h1.symm.trans B.method)
      cases Option.some.inj (h2.symm.trans (Stand.of_body B).code)
      intro x hx
      rw [Array.isEmpty_iff.mp h7] at hx
      cases hx
    obtain ⟨t, a1, o, b1, b2, b3⟩ := body p e s m args below meth c s₁ B hml ht hP s₁ hh0 (Stand.of_body B)
    exact ⟨t, o, a1, b1, b2, b3⟩
/-- the table of a body with handlers -/
theorem vx_table {p : Program} {x y : MethodName} {S : Spec} {cc bytes : ByteArray} {maxL maxL' : Nat} {ret ret' : Option FieldType} {e : Env} {s s₁ : State} {m : MethodId} {args : Array Value} {below : List Frame} {meth : Method} {c : Code} {hh : List (Nat × Nat × Nat × Nat)}
    (B : BodyLoose p l y S cc maxL ret e s m args below meth c s₁) (h : (Cond.codeWith y bytes maxL' ret' hh).before args s = true) : c.exceptionTable.toList = tableOf hh := by
  obtain ⟨m9, meth9, c9, hn9, h1, h2, -, -, h6, -⟩ := Cond.codeWith_spec h
  cases Option.some.inj (hn9.symm.trans B.named)
  cases Option.some.inj (h1.symm.trans B.method)
  cases Option.some.inj (h2.symm.trans (Stand.of_body B).code)
  rw [← h6, table_eq]
end Bodies
end VXA
/-! ===== END ===== -/
/-! ===== BEGIN a static call of a method with an exception table ===== -/
section VXS
variable {p : Program} {l : Launch} {e : Env} {R : Room} {s : State} {m : MethodId} {args : Array Value} {below : List Frame} {meth : Method} {c : Code} {T : State} {H : Heap} {locs : List Loc} {cells slots : Nat}
abbrev vx_CSW (R : Room) (s : State) (args : Array Value) (own : String) (index : Nat) (y : MethodName) (bytes : ByteArray) (maxL : Nat) (ret : Option FieldType) (hh : List (Nat × Nat × Nat × Nat)) (ws : List Cond) (rm : Room) (mc ms n : Nat) : Prop :=
  (rm.cells = mc ∧ rm.slots = ms ∧ rm.frames + 1 ≤ R.frames ∧ 8 + (maxL + 11) + rm.locals ≤ R.locals ∧ (∀ w ∈ ws, ∀ (a' : Array Value) (U : State), s.WarmedH U.vm → w.before a' U = true) ∧ Cond.codeWith y bytes maxL ret hh ∈ ws) ∧
  (Cond.codeWith y bytes maxL ret hh).before args s = true ∧ (Cond.initialized y.cls).before args s = true ∧ (y.cls ≠ "java/lang/invoke/MethodHandle" ∧ y.cls ≠ "java/lang/invoke/VarHandle") ∧
  (∀ sig, parseMethodDescriptor y.desc = some sig → n = sig.parameters.length) ∧ (Cond.methodLink own index y).before args s = true ∧ (Cond.static y).before args s = true
theorem vx_cwSW {own : String} {index maxL mc ms : Nat} {y : MethodName} {bytes : ByteArray} {ret : Option FieldType} {hh : List (Nat × Nat × Nat × Nat)} {Ts ws ws' : List Cond} {rm : Room} (n : Nat) (ht : ∀ w ∈ Ts, w.before args s = true) (hT : GoodIn Ts (va_wsS own index y ws)) (hw : ws = Cond.codeWith y bytes maxL ret hh :: ws') (hrc : rm.cells = mc) (hrs : rm.slots = ms)
    (hd : y.cls ≠ "java/lang/invoke/MethodHandle" ∧ y.cls ≠ "java/lang/invoke/VarHandle" ∧ (parseMethodDescriptor y.desc).map (fun d => d.parameters.length) = some n) (hR : rm.frames + 1 ≤ R.frames ∧ 8 + (maxL + 11) + rm.locals ≤ R.locals) :
    vx_CSW R s args own index y bytes maxL ret hh ws rm mc ms n := by
  have ok : ∀ w ∈ va_wsS own index y ws, w.before args s = true := fun w h => ht w (hT w h).1
  have hG : GoodIn Ts ws := fun w h => hT w (by unfold va_wsS; exact List.mem_append_right _ h)
  have hc : Cond.codeWith y bytes maxL ret hh ∈ ws := by rw [hw]; exact List.mem_cons_self
  refine ⟨⟨hrc, hrs, hR.1, hR.2, pay_in ht hG, hc⟩, ht _ (hG _ hc).1, ok _ (by simp [va_wsS]), ⟨hd.1, hd.2.1⟩, fun sig h => ?_, ok _ (by simp [va_wsS]), ok _ (by simp [va_wsS])⟩
  have h2 := hd.2.2
  rw [h] at h2
  exact (Option.some.inj h2).symm
theorem vx_callSW (X : Stand p l e R s m args below meth c T locs cells slots) (hexec : p.tables.exec = Jvm.exec) {own : String} {index : Nat} {y : MethodName} {bytes : ByteArray} {maxL : Nat} {ret : Option FieldType} {hh : List (Nat × Nat × Nat × Nat)}
    (hown : s.vm.findClass own = some m.cls) (hlink : (Cond.methodLink own index y).before args s = true) (hstat : (Cond.static y).before args s = true) (hinit : (Cond.initialized y.cls).before args s = true)
    (hcode : (Cond.codeWith y bytes maxL ret hh).before args s = true) (hy : y.cls ≠ "java/lang/invoke/MethodHandle" ∧ y.cls ≠ "java/lang/invoke/VarHandle")
    {W9 : Nat} {Pre : Pt → Array Value → Prop} {Post : Pt → Array Value → Option Value → Pt → Prop} (hK : Back l R p e below s args y 3 W9 Pre Post)
    {g : JFrame} (hg : g.method = m) (hsize : g.locals.size = c.maxLocals) {argsL rest : List Value} (hlen : ∀ sig, parseMethodDescriptor y.desc = some sig → argsL.length = sig.parameters.length)
    (hstack : g.stack = argsL.reverse ++ rest) (hW : 2 * g.monitorRoom + (rest.map fun v => v.category).sum ≤ W9) (hdg : decode c.code g.pc = .ok (.invokestatic index, 3))
    (hpre : ∀ vm₁, s.WarmedH vm₁ → Pre ⟨T.setVm vm₁, locs, cells, slots⟩ argsL.toArray) :
    ∃ (v : Option Value) (vm₁ : Vm) (B : Pt), s.WarmedH vm₁ ∧ Stand p l e R s m args below meth c B.U B.locs B.cells B.slots ∧ Post ⟨T.setVm vm₁, locs, cells, slots⟩ argsL.toArray v B ∧
      ∀ target, Steps p.tables e below (B.U.setTop { g with pc := g.pc + 3, stack := v.toList ++ rest }) target → Steps p.tables e below (T.setTop g) target := by
  obtain ⟨mk, methM, cM, hnamed, hmethM, -, -, -, -, -, -, hsigM⟩ := Cond.codeWith_spec hcode
  have hstatic : methM.isStatic = true := Cond.static_spec hnamed hmethM hstat
  obtain ⟨kP, hkP, -⟩ := className_of_methodNamed hnamed
  have hinitP : kP.init = .initialized := Cond.initialized_spec (findClass_of_methodNamed hnamed) hkP hinit
  obtain ⟨vm₁, X₁, hstep₁⟩ := X.invokestatic hexec hown hlink hnamed hmethM hstatic hkP hinitP hy (g := g) hg (argsL := argsL) (rest := rest) (hlen _ hsigM) hstack hdg
  obtain ⟨v, B, X', hpost, hsteps⟩ := hK m meth c ⟨T.setVm vm₁, locs, cells, slots⟩ { g with stack := rest } (.invokestatic index) mk argsL.toArray X₁ hg hsize hdg hW (X₁.named hnamed) (hpre vm₁ X₁.warmed)
  exact ⟨v, vm₁, B, X₁.warmed, X', hpost, fun target h => hstep₁ _ fun acts => by rw [doInvoke_state]; exact hsteps.trans h⟩
theorem vx_runSW {y : MethodName} {bytes cc : ByteArray} {maxL nL mc ms n index : Nat} {ret : Option FieldType} {hh : List (Nat × Nat × Nat × Nat)} {ws : List Cond} {rm : Room} {Pc : Array Value → State → Prop} {Qc : Array Value → State → Outcome → State → Prop} {free : Addr → Prop} {Ts : List Cond} {own : String} {As rest : List Value} {g : JFrame}
    (S : CallFix p m c cc nL s args Ts own) (hM : Met l y ws rm Pc Qc mc ms free) (cw : vx_CSW R s args own index y bytes maxL ret hh ws rm mc ms n) (hp : PreS s H Pc As)
    (hg : g.method = m) (hn : As.length = n) (hsize : g.locals.size = nL) (hstack : g.stack = As.reverse ++ rest) (hW : 2 * g.monitorRoom + (rest.map fun v => v.category).sum ≤ 8) (hdg : decode cc g.pc = .ok (.invokestatic index, 3)) (hf : cells + mc ≤ R.cells ∧ slots + ms ≤ R.slots) :
    va_Run p l e R s m args below meth c H locs cells slots mc ms g rest (Qc As.toArray) (free) := by
  obtain ⟨⟨hrc, hrs, hfr, hlo, hws, hcw⟩, hcode, hini, hy, hlen, hl, hstt⟩ := cw
  have hK : Back l R p e below s args y 3 8 (PreOf R mc ms Pc) (PostOf Qc mc ms free) := va_backW (hh := hh) (bytes := bytes) (maxL := maxL) (ret := ret) hM hp.1 hrc hrs hfr hlo hws hcw (fun a' U hW => word_at hW (Or.inl (by first | rfl | simp [Cond.onTables, Cond.keeps, Cond.steady])) hini)
  obtain ⟨hx, hb, hml, ho, -⟩ := S
  intro T hT X
  obtain ⟨v, vm₁, ⟨U', l2, c2, s2⟩, hW₁, X', ⟨g', mk, t, L, e1, e2, hq, h1, hL, h2, h3⟩, st⟩ := vx_callSW X hx (hh := hh) (bytes := bytes) (maxL := maxL) (ret := ret) ho hl hstt hini hcode hy hK hg (hsize.trans hml.symm) (argsL := As) (rest := rest) (fun sig h => hn.trans (hlen sig h)) hstack hW (by rw [hb]; exact hdg)
    (fun vm₁ hW₁ => ⟨hf.1, hf.2, hp.2 (T.setVm vm₁) hT hW₁⟩)
  dsimp only [Pt.U, Pt.locs, Pt.cells, Pt.slots] at X' e1 e2 h1 h2 h3 st
  subst h1; subst h2; subst h3
  exact ⟨v, (T.setVm vm₁).calling g' mk As.toArray, t, U', L, hT, X', hL, e1, e2, hq, st⟩
/-- not caught here, past rows that name other classes: it goes on to the caller -/
theorem vx_outP {p : Program} {l : Launch} {e : Env} {R : Room} {s : State} {m : MethodId} {args : Array Value} {below : List Frame} {meth : Method} {c : Code} {H : Heap} {locs : List Loc} {cells slots : Nat} {free : Addr → Prop} {ls : Array Slot} {rest : List Value} {Qc : Array Value → State → Outcome → State → Prop} {XC : String → State → State → Prop}
    {pc : Nat} {own E : String} {ce : Cell} {q : Addr} {mc ms : Nat} (hown : s.vm.findClass own = some m.cls) (hlocks : meth.locks = false)
    (hpass : ∀ z ∈ c.exceptionTable.toList, covers z pc = false ∨ (z.catchType ≠ 0 ∧ ∃ nm : String, (Cond.classLink own z.catchType nm).before args s = true ∧ va_Nc E nm s)) (hcell : H[q]? = some ce) (hv : ce.vm = .none) (hcl : s.vm.findClass E = some ce.cls)
    (hx : ∀ t : State, t.heap = H → s.vm.Alike t.vm → XC E s t) (hf : ∀ z ∈ locs, free z.base) (hc : cells ≤ mc) (hs : slots ≤ ms) :
    vx_W p l e R s m args below meth c H locs cells slots (vx_MQ below Qc XC args s mc ms free) (F0 m pc ls rest) q := by
  intro T hT X
  have hpl : e.platform.magicAccessors = ({} : Platform).magicAccessors := by rw [X.admits.platform]
  obtain ⟨vm', hW', X', st⟩ := X.outThrough hlocks q (g := F0 m pc ls rest) rfl rfl rfl (cell := ce) (by rw [hT]; exact hcell) (by rw [hv]; rfl)
    (by obtain ⟨k9, h9, -⟩ := Vm.findClass_spec hcl; exact ⟨k9, h9⟩) (fun z hz => by
      rcases hpass z hz with h | ⟨hz0, nm, hl1, hn1⟩
      · exact Or.inl h
      · obtain ⟨c6, hc6, hcl6⟩ := Cond.classLink_spec hown hl1 e.platform hpl
        obtain ⟨a8, b8, h1, h2, h3⟩ := hn1
        cases Option.some.inj (h1.symm.trans hcl)
        cases Option.some.inj (h2.symm.trans hc6)
        exact Or.inr ⟨hz0, _, hcl6, h3⟩)
  obtain ⟨g₀, hfr⟩ := X'.frames_eq
  have hcell9 : ((T.setVm vm').setFrames (.throwing q :: below)).heap[q]? = some ce := by
    show T.heap[q]? = some ce
    rw [hT]; exact hcell
  have hend : Ended ((T.setVm vm').setFrames (.throwing q :: below)) below (.threw q) := State.frames_setFrames _ (State.cur_lt_of_frames hfr)
  refine ⟨(T.setVm vm').setFrames (.throwing q :: below), ?_, .threw q, X'.here.running, hend, Or.inr ⟨q, rfl, E, ce, locs, hx _ hT (X'.ends _).1.alike, hcell9, hv, hcl, (X'.ends _).1, (X'.ends _).2.mono hc hs, hf⟩⟩
  rw [X.pushThrowing_eq]
  exact st
/-- a thing of a world lies in the heap -/
theorem vx_lt {D : va_G} {cl : List vw_C} {ws : va_W} {H1 : Heap} (h : va_P D cl ws H1) {k : Nat} {q : Nat × va_E} (hk : ws[k]? = some q) : q.1 < H1.size := (h k q hk).lt
end VXS
/-! ===== END ===== -/
/-! ===== BEGIN methods with a table of their own: called by a name, returning or throwing ===== -/
section VXH
/-! vx_backW, vx_callVX, vx_callSX, vx_callVW, vx_runVW, vx_runVX, vx_runSX, vx_ofWH follow the same proofs as their sisters above (Free/Laws.lean, Shelf42/LK1.lean); vx_outP calls Shelf42/NT130.lean (outThrough). -/
section
variable {l : Launch} {R : Room} {p : Program} {e : Env} {below : List Frame} {s : State} {sargs : Array Value} {y : MethodName} {len W9 : Nat}
theorem vx_backW {ws : List Cond} {rm : Room} {Pc : Array Value → State → Prop} {Qc : Array Value → State → Outcome → State → Prop} {XC : String → State → State → Prop} {mc ms : Nat} {free : Addr → Prop} {bytes : ByteArray} {maxL : Nat} {ret : Option FieldType} {hh : List (Nat × Nat × Nat × Nat)}
    (hM : vx_Met l y ws rm Pc Qc XC mc ms free) (hblind : FrameBlind Pc) (hrc : rm.cells = mc) (hrs : rm.slots = ms)
    (hframes : rm.frames + 1 ≤ R.frames) (hlocals : W9 + (maxL + 11) + rm.locals ≤ R.locals)
    (hws : ∀ w ∈ ws, ∀ a' U, s.WarmedH U.vm → w.before a' U = true) (hcode : Cond.codeWith y bytes maxL ret hh ∈ ws) (hinit : ∀ a' U, s.WarmedH U.vm → (Cond.initialized y.cls).before a' U = true) :
    vx_Back l R p e below s sargs y len W9 (PreOf R mc ms Pc) (PostOf Qc mc ms free) (vx_Post XC mc ms free) := by
  intro m meth c A g ig mk a X hg hsize hdg hW hn hp
  have h1 : (headSpec ws rm).pre.before a A.U = true := atoms_intro fun w hw => hws w hw _ _ X.warmed
  have h2 : (Cond.codeWith y bytes maxL ret hh).before a A.U = true := hws _ hcode _ _ X.warmed
  have h3 : (Cond.initialized y.cls).before a A.U = true := hinit _ _ X.warmed
  have h4 : A.cells + (headSpec ws rm).room.cells ≤ R.cells := by rw [show (headSpec ws rm).room.cells = mc from hrc]; exact hp.1
  have h5 : A.slots + (headSpec ws rm).room.slots ≤ R.slots := by rw [show (headSpec ws rm).room.slots = ms from hrs]; exact hp.2.1
  have hPc : Pc a (A.U.calling g mk a) := hblind _ _ _ _ hp.2.2
  obtain ⟨U, Ls, c0, s0⟩ := A
  dsimp only [Pt.U, Pt.locs, Pt.cells, Pt.slots] at h1 h2 h3 h4 h5 X hn hPc ⊢
  obtain ⟨m9, methY, cY, hn9, hmY, hcY, -, hlY, -⟩ := Cond.codeWith_spec h2
  cases Option.some.inj (hn9.symm.trans hn)
  obtain ⟨kY, hkY, -⟩ := className_of_methodNamed hn
  have hinitY : kY.init = .initialized := Cond.initialized_spec (findClass_of_methodNamed hn) hkY h3
  have h : At U g.method c below := by rw [hg]; exact X.here
  have hlocals9 : W9 + (maxL + 11) + (headSpec ws rm).room.locals ≤ R.locals := hlocals
  have happ : (headSpec ws rm).appliesLoose y e.platform (U.calling g mk a) = true :=
    Spec.appliesLoose_calling (g := g) h hdg hn hkY hinitY
      (X.room_calling (g := g) (R' := (headSpec ws rm).room) hsize hmY hcY hframes (by rw [hlY]; omega) h4 h5) h1
  obtain ⟨mid, hmid⟩ := h.above
  have hfr : (U.setTop g).frames = (.java g :: mid) ++ below := by rw [State.frames_setTop' g h.top, hmid]; rfl
  obtain ⟨o, s₂, hsteps, -, hend, hq⟩ := Steps.callFree hM p X.admits X.cas X.clock (acts := []) hfr happ hPc trivial
  have hq' : vx_Q Qc XC mc ms free a (U.calling g mk a) o s₂ := hq
  rw [State.frames_setTop' g h.top] at hend
  obtain ⟨g₀, hg0⟩ := Option.isSome_iff_exists.mp h.top
  obtain ⟨r, hr⟩ := State.topJava?_eq_some.mp hg0
  have hr' : (({ U with heap := s₂.heap, slotsUsed := s₂.slotsUsed } : State).setVm s₂.vm).frames = .java g₀ :: r := hr
  rcases hq' with ⟨hqc, L, hfe, hL⟩ | ⟨q, rfl, E, ce, L, hx, hce, hcv, hcl, hW₂, hsm, hL⟩
  · obtain ⟨⟨v, rfl⟩, hW₂, e2, q2, q3, q4, q5, q6⟩ := id hfe
    have e3 : s₂ = ({ (U.calling g mk a).setFrames s₂.frames with heap := s₂.heap, slotsUsed := s₂.slotsUsed } : State).setVm s₂.vm := by
      have : s₂ = ({ s₂ with vm := (U.calling g mk a).vm } : State).setVm s₂.vm := rfl
      rw [e2] at this
      exact this
    obtain ⟨c₂, i₂, len₂, hc₂, hd₂, hf₂⟩ := hend
    have hW' : U.WarmedH s₂.vm := hW₂
    have hcc : c₂ = c := by
      have h1 : s₂.code? g.method = U.code? g.method := by
        rw [State.code?_eq, State.code?_eq, hW'.alike.method?]
      exact Option.some.inj (hc₂.symm.trans (h1.trans h.code))
    subst hcc
    have hlen : len₂ = len := by rw [hdg] at hd₂; cases hd₂; rfl
    subst hlen
    have hs₂ : s₂ = (({ U with heap := s₂.heap, slotsUsed := s₂.slotsUsed } : State).setVm s₂.vm).setTop { g with pc := g.pc + len₂, stack := v.toList ++ g.stack } := by
      refine e3.trans ?_
      rw [hf₂, State.calling_eq h.top, State.setFrames_setFrames, State.setTop_of_frames _ hr', hr]
      rfl
    have hsame : U.sameButNew ({ U with heap := s₂.heap, slotsUsed := s₂.slotsUsed } : State) L mc ms := by
      refine ⟨?_, q2, q3, q4, q5, q6⟩
      obtain ⟨t, ht, -⟩ := State.frames_cons hr
      show ({ U with heap := s₂.heap, slotsUsed := s₂.slotsUsed } : State) = { U.setFrames U.frames with heap := s₂.heap, slotsUsed := s₂.slotsUsed }
      rw [State.setFrames_self ht]
    subst hg
    refine Or.inl ⟨v, ⟨(({ U with heap := s₂.heap, slotsUsed := s₂.slotsUsed } : State).setVm s₂.vm), Ls ++ L, c0 + mc, s0 + ms⟩,
      ⟨X.admits, X.cas, X.clock, X.frames, X.room, X.hears, X.method, X.code, (X.here.setHeapUsed s₂.heap s₂.slotsUsed).setVm hW'.alike, X.tail, State.WarmedH.trans X.warmed hW', X.limits, X.bytes, X.same.trans (hsame.setVm s.vm)⟩,
      ⟨g, mk, s₂, L, rfl, rfl, hqc, rfl, hL, rfl, rfl⟩, ?_⟩
    show Steps p.tables e below _ ((({ U with heap := s₂.heap, slotsUsed := s₂.slotsUsed } : State).setVm s₂.vm).setTop { g with pc := g.pc + len₂, stack := v.toList ++ g.stack })
    rw [← hs₂]
    exact hsteps
  · obtain ⟨e2, q2, q3, q4, q5, q6⟩ := id hsm
    have e3 : s₂ = ({ (U.calling g mk a).setFrames s₂.frames with heap := s₂.heap, slotsUsed := s₂.slotsUsed } : State).setVm s₂.vm := by
      have : s₂ = ({ s₂ with vm := (U.calling g mk a).vm } : State).setVm s₂.vm := rfl
      rw [e2] at this
      exact this
    have hf₂ : s₂.frames = .throwing q :: .java g :: U.frames.tail := hend
    have hW' : U.WarmedH s₂.vm := hW₂
    have hs₂ : s₂ = ((({ U with heap := s₂.heap, slotsUsed := s₂.slotsUsed } : State).setVm s₂.vm).setTop g).pushFrame (.throwing q) := by
      refine e3.trans ?_
      rw [hf₂, State.calling_eq h.top, State.setFrames_setFrames, State.pushFrame, State.frames_setTop _ hr', State.setTop_of_frames _ hr', State.setFrames_setFrames, hr]
      rfl
    have hsame : U.sameButNew ({ U with heap := s₂.heap, slotsUsed := s₂.slotsUsed } : State) L mc ms := by
      refine ⟨?_, q2, q3, q4, q5, q6⟩
      obtain ⟨t, ht, -⟩ := State.frames_cons hr
      show ({ U with heap := s₂.heap, slotsUsed := s₂.slotsUsed } : State) = { U.setFrames U.frames with heap := s₂.heap, slotsUsed := s₂.slotsUsed }
      rw [State.setFrames_self ht]
    subst hg
    refine Or.inr ⟨q, ⟨(({ U with heap := s₂.heap, slotsUsed := s₂.slotsUsed } : State).setVm s₂.vm), Ls ++ L, c0 + mc, s0 + ms⟩,
      ⟨X.admits, X.cas, X.clock, X.frames, X.room, X.hears, X.method, X.code, (X.here.setHeapUsed s₂.heap s₂.slotsUsed).setVm hW'.alike, X.tail, State.WarmedH.trans X.warmed hW', X.limits, X.bytes, X.same.trans (hsame.setVm s.vm)⟩,
      ⟨g, mk, s₂, L, E, ce, rfl, rfl, hx, hce, hcv, hcl, rfl, hL, rfl, rfl⟩, ?_⟩
    show Steps p.tables e below _ (((({ U with heap := s₂.heap, slotsUsed := s₂.slotsUsed } : State).setVm s₂.vm).setTop g).pushFrame (.throwing q))
    rw [← hs₂]
    exact hsteps
end
variable {p : Program} {l : Launch} {e : Env} {R : Room} {s : State} {m : MethodId} {args : Array Value} {below : List Frame} {meth : Method} {c : Code} {T : State} {H : Heap} {locs : List Loc} {cells slots : Nat}
theorem vx_callVX (X : Stand p l e R s m args below meth c T locs cells slots) (hexec : p.tables.exec = Jvm.exec) {own C : String} {index : Nat} {y : MethodName} {bytes : ByteArray} {maxL : Nat} {ret : Option FieldType} {hh : List (Nat × Nat × Nat × Nat)}
    (hown : s.vm.findClass own = some m.cls) (hlink : (Cond.methodLink own index y).before args s = true) (hinst : (Cond.instanceMethod y).before args s = true) (hsel : (Cond.selects C y y).before args s = true)
    (hcode : (Cond.codeWith y bytes maxL ret hh).before args s = true) (hy : y.cls ≠ "java/lang/invoke/MethodHandle" ∧ y.cls ≠ "java/lang/invoke/VarHandle")
    {W9 : Nat} {Pre : Pt → Array Value → Prop} {Post : Pt → Array Value → Option Value → Pt → Prop} {PostX : Pt → Array Value → Addr → Pt → Prop} (hK : vx_Back l R p e below s args y 3 W9 Pre Post PostX)
    {b : Addr} {cellB : Cell} (hcell : T.heap[b]? = some cellB) (hobj : cellB.vm.isStatics = false) (hcls : s.vm.findClass C = some cellB.cls)
    {g : JFrame} (hg : g.method = m) (hsize : g.locals.size = c.maxLocals) {argsL rest : List Value} (hlen : ∀ sig, parseMethodDescriptor y.desc = some sig → argsL.length = sig.parameters.length)
    (hstack : g.stack = argsL.reverse ++ .ref b :: rest) (hW : 2 * g.monitorRoom + (rest.map fun v => v.category).sum ≤ W9) (hdg : decode c.code g.pc = .ok (.invokevirtual index, 3))
    (hpre : ∀ vm₁, s.WarmedH vm₁ → Pre ⟨T.setVm vm₁, locs, cells, slots⟩ (Value.ref b :: argsL).toArray) :
    (∃ (v : Option Value) (vm₁ : Vm) (B : Pt), s.WarmedH vm₁ ∧ Stand p l e R s m args below meth c B.U B.locs B.cells B.slots ∧ Post ⟨T.setVm vm₁, locs, cells, slots⟩ (Value.ref b :: argsL).toArray v B ∧
      ∀ target, Steps p.tables e below (B.U.setTop { g with pc := g.pc + 3, stack := v.toList ++ rest }) target → Steps p.tables e below (T.setTop g) target) ∨
    (∃ (q : Addr) (vm₁ : Vm) (B : Pt), s.WarmedH vm₁ ∧ Stand p l e R s m args below meth c B.U B.locs B.cells B.slots ∧ PostX ⟨T.setVm vm₁, locs, cells, slots⟩ (Value.ref b :: argsL).toArray q B ∧
      Steps p.tables e below (T.setTop g) ((B.U.setTop { g with stack := rest }).pushFrame (.throwing q))) := by
  obtain ⟨mk, methM, hnamed, hmethM, hstM, habM⟩ := Cond.instanceMethod_spec hinst
  obtain ⟨m8, methM', cM, hn8, hmethM', -, -, -, -, -, -, hsigM⟩ := Cond.codeWith_spec hcode
  cases Option.some.inj (hn8.symm.trans hnamed)
  cases hmethM.symm.trans hmethM'
  obtain ⟨c2, r2, m2, q1, q2, q3, q4, kP, hkP, hkPi⟩ := Cond.selects_spec hsel
  cases hcls.symm.trans q1
  cases (State.methodFound?_of_named hnamed hy).symm.trans q2
  cases hnamed.symm.trans q3
  have hselP : selectMethod e.platform s.vm cellB.cls mk = .method mk := by rw [Launch.admits_selectMethod X.admits]; exact q4
  obtain ⟨vm₁, X₁, hstep₁⟩ := X.invokevirtual hexec hown hlink hnamed hmethM hstM hkP hkPi hy (a := b) (cell := cellB) hcell
    (fun z h => by rw [h] at hobj; cases hobj) hselP hmethM habM hkP hkPi (g := g) hg (argsL := argsL) (rest := rest) (hlen _ hsigM) hstack hdg
  rcases hK m meth c ⟨T.setVm vm₁, locs, cells, slots⟩ { g with stack := rest } (.invokevirtual index) mk (Value.ref b :: argsL).toArray X₁ hg hsize hdg hW (X₁.named hnamed) (hpre vm₁ X₁.warmed) with ⟨v, B, X', hpost, hsteps⟩ | ⟨q, B, X', hpost, hsteps⟩
  · exact Or.inl ⟨v, vm₁, B, X₁.warmed, X', hpost, fun target h => hstep₁ _ fun acts => by rw [doInvoke_state]; exact hsteps.trans h⟩
  · exact Or.inr ⟨q, vm₁, B, X₁.warmed, X', hpost, hstep₁ _ fun acts => by rw [doInvoke_state]; exact hsteps⟩
theorem vx_callSX (X : Stand p l e R s m args below meth c T locs cells slots) (hexec : p.tables.exec = Jvm.exec) {own : String} {index : Nat} {y : MethodName} {bytes : ByteArray} {maxL : Nat} {ret : Option FieldType} {hh : List (Nat × Nat × Nat × Nat)}
    (hown : s.vm.findClass own = some m.cls) (hlink : (Cond.methodLink own index y).before args s = true) (hstat : (Cond.static y).before args s = true) (hinit : (Cond.initialized y.cls).before args s = true)
    (hcode : (Cond.codeWith y bytes maxL ret hh).before args s = true) (hy : y.cls ≠ "java/lang/invoke/MethodHandle" ∧ y.cls ≠ "java/lang/invoke/VarHandle")
    {W9 : Nat} {Pre : Pt → Array Value → Prop} {Post : Pt → Array Value → Option Value → Pt → Prop} {PostX : Pt → Array Value → Addr → Pt → Prop} (hK : vx_Back l R p e below s args y 3 W9 Pre Post PostX)
    {g : JFrame} (hg : g.method = m) (hsize : g.locals.size = c.maxLocals) {argsL rest : List Value} (hlen : ∀ sig, parseMethodDescriptor y.desc = some sig → argsL.length = sig.parameters.length)
    (hstack : g.stack = argsL.reverse ++ rest) (hW : 2 * g.monitorRoom + (rest.map fun v => v.category).sum ≤ W9) (hdg : decode c.code g.pc = .ok (.invokestatic index, 3))
    (hpre : ∀ vm₁, s.WarmedH vm₁ → Pre ⟨T.setVm vm₁, locs, cells, slots⟩ argsL.toArray) :
    (∃ (v : Option Value) (vm₁ : Vm) (B : Pt), s.WarmedH vm₁ ∧ Stand p l e R s m args below meth c B.U B.locs B.cells B.slots ∧ Post ⟨T.setVm vm₁, locs, cells, slots⟩ argsL.toArray v B ∧
      ∀ target, Steps p.tables e below (B.U.setTop { g with pc := g.pc + 3, stack := v.toList ++ rest }) target → Steps p.tables e below (T.setTop g) target) ∨
    (∃ (q : Addr) (vm₁ : Vm) (B : Pt), s.WarmedH vm₁ ∧ Stand p l e R s m args below meth c B.U B.locs B.cells B.slots ∧ PostX ⟨T.setVm vm₁, locs, cells, slots⟩ argsL.toArray q B ∧
      Steps p.tables e below (T.setTop g) ((B.U.setTop { g with stack := rest }).pushFrame (.throwing q))) := by
  obtain ⟨mk, methM, cM, hnamed, hmethM, -, -, -, -, -, -, hsigM⟩ := Cond.codeWith_spec hcode
  have hstatic : methM.isStatic = true := Cond.static_spec hnamed hmethM hstat
  obtain ⟨kP, hkP, -⟩ := className_of_methodNamed hnamed
  have hinitP : kP.init = .initialized := Cond.initialized_spec (findClass_of_methodNamed hnamed) hkP hinit
  obtain ⟨vm₁, X₁, hstep₁⟩ := X.invokestatic hexec hown hlink hnamed hmethM hstatic hkP hinitP hy (g := g) hg (argsL := argsL) (rest := rest) (hlen _ hsigM) hstack hdg
  rcases hK m meth c ⟨T.setVm vm₁, locs, cells, slots⟩ { g with stack := rest } (.invokestatic index) mk argsL.toArray X₁ hg hsize hdg hW (X₁.named hnamed) (hpre vm₁ X₁.warmed) with ⟨v, B, X', hpost, hsteps⟩ | ⟨q, B, X', hpost, hsteps⟩
  · exact Or.inl ⟨v, vm₁, B, X₁.warmed, X', hpost, fun target h => hstep₁ _ fun acts => by rw [doInvoke_state]; exact hsteps.trans h⟩
  · exact Or.inr ⟨q, vm₁, B, X₁.warmed, X', hpost, hstep₁ _ fun acts => by rw [doInvoke_state]; exact hsteps⟩
theorem vx_callVW (X : Stand p l e R s m args below meth c T locs cells slots) (hexec : p.tables.exec = Jvm.exec) {own C : String} {index : Nat} {y : MethodName} {bytes : ByteArray} {maxL : Nat} {ret : Option FieldType} {hh : List (Nat × Nat × Nat × Nat)}
    (hown : s.vm.findClass own = some m.cls) (hlink : (Cond.methodLink own index y).before args s = true) (hinst : (Cond.instanceMethod y).before args s = true) (hsel : (Cond.selects C y y).before args s = true)
    (hcode : (Cond.codeWith y bytes maxL ret hh).before args s = true) (hy : y.cls ≠ "java/lang/invoke/MethodHandle" ∧ y.cls ≠ "java/lang/invoke/VarHandle")
    {W9 : Nat} {Pre : Pt → Array Value → Prop} {Post : Pt → Array Value → Option Value → Pt → Prop} (hK : Back l R p e below s args y 3 W9 Pre Post)
    {b : Addr} {cellB : Cell} (hcell : T.heap[b]? = some cellB) (hobj : cellB.vm.isStatics = false) (hcls : s.vm.findClass C = some cellB.cls)
    {g : JFrame} (hg : g.method = m) (hsize : g.locals.size = c.maxLocals) {argsL rest : List Value} (hlen : ∀ sig, parseMethodDescriptor y.desc = some sig → argsL.length = sig.parameters.length)
    (hstack : g.stack = argsL.reverse ++ .ref b :: rest) (hW : 2 * g.monitorRoom + (rest.map fun v => v.category).sum ≤ W9) (hdg : decode c.code g.pc = .ok (.invokevirtual index, 3))
    (hpre : ∀ vm₁, s.WarmedH vm₁ → Pre ⟨T.setVm vm₁, locs, cells, slots⟩ (Value.ref b :: argsL).toArray) :
    ∃ (v : Option Value) (vm₁ : Vm) (B : Pt), s.WarmedH vm₁ ∧ Stand p l e R s m args below meth c B.U B.locs B.cells B.slots ∧ Post ⟨T.setVm vm₁, locs, cells, slots⟩ (Value.ref b :: argsL).toArray v B ∧
      ∀ target, Steps p.tables e below (B.U.setTop { g with pc := g.pc + 3, stack := v.toList ++ rest }) target → Steps p.tables e below (T.setTop g) target := by
  obtain ⟨mk, methM, hnamed, hmethM, hstM, habM⟩ := Cond.instanceMethod_spec hinst
  obtain ⟨m8, methM', cM, hn8, hmethM', -, -, -, -, -, -, hsigM⟩ := Cond.codeWith_spec hcode
  cases Option.some.inj (hn8.symm.trans hnamed)
  cases hmethM.symm.trans hmethM'
  obtain ⟨c2, r2, m2, q1, q2, q3, q4, kP, hkP, hkPi⟩ := Cond.selects_spec hsel
  cases hcls.symm.trans q1
  cases (State.methodFound?_of_named hnamed hy).symm.trans q2
  cases hnamed.symm.trans q3
  have hselP : selectMethod e.platform s.vm cellB.cls mk = .method mk := by rw [Launch.admits_selectMethod X.admits]; exact q4
  obtain ⟨vm₁, X₁, hstep₁⟩ := X.invokevirtual hexec hown hlink hnamed hmethM hstM hkP hkPi hy (a := b) (cell := cellB) hcell
    (fun z h => by rw [h] at hobj; cases hobj) hselP hmethM habM hkP hkPi (g := g) hg (argsL := argsL) (rest := rest) (hlen _ hsigM) hstack hdg
  obtain ⟨v, B, X', hpost, hsteps⟩ := hK m meth c ⟨T.setVm vm₁, locs, cells, slots⟩ { g with stack := rest } (.invokevirtual index) mk (Value.ref b :: argsL).toArray X₁ hg hsize hdg hW (X₁.named hnamed) (hpre vm₁ X₁.warmed)
  exact ⟨v, vm₁, B, X₁.warmed, X', hpost, fun target h => hstep₁ _ fun acts => by rw [doInvoke_state]; exact hsteps.trans h⟩
abbrev vx_CVW (R : Room) (s : State) (args : Array Value) (own C : String) (index : Nat) (y : MethodName) (bytes : ByteArray) (maxL : Nat) (ret : Option FieldType) (hh : List (Nat × Nat × Nat × Nat)) (ws : List Cond) (rm : Room) (mc ms n : Nat) : Prop :=
  (rm.cells = mc ∧ rm.slots = ms ∧ rm.frames + 1 ≤ R.frames ∧ 8 + (maxL + 11) + rm.locals ≤ R.locals ∧ (∀ w ∈ ws, ∀ (a' : Array Value) (U : State), s.WarmedH U.vm → w.before a' U = true) ∧ Cond.codeWith y bytes maxL ret hh ∈ ws) ∧
  (Cond.codeWith y bytes maxL ret hh).before args s = true ∧ (Cond.initialized y.cls).before args s = true ∧ (y.cls ≠ "java/lang/invoke/MethodHandle" ∧ y.cls ≠ "java/lang/invoke/VarHandle") ∧
  (∀ sig, parseMethodDescriptor y.desc = some sig → n = sig.parameters.length) ∧ (Cond.methodLink own index y).before args s = true ∧ (Cond.instanceMethod y).before args s = true ∧ (Cond.selects C y y).before args s = true
theorem vx_cwVW {own C : String} {index maxL mc ms : Nat} {y : MethodName} {bytes : ByteArray} {ret : Option FieldType} {hh : List (Nat × Nat × Nat × Nat)} {Ts ws ws' : List Cond} {rm : Room} (n : Nat) (ht : ∀ w ∈ Ts, w.before args s = true) (hT : GoodIn Ts (wsV own index C y ws)) (hw : ws = Cond.codeWith y bytes maxL ret hh :: ws') (hrc : rm.cells = mc) (hrs : rm.slots = ms)
    (hd : y.cls = C ∧ y.cls ≠ "java/lang/invoke/MethodHandle" ∧ y.cls ≠ "java/lang/invoke/VarHandle" ∧ (parseMethodDescriptor y.desc).map (fun d => d.parameters.length) = some n) (hR : rm.frames + 1 ≤ R.frames ∧ 8 + (maxL + 11) + rm.locals ≤ R.locals) :
    vx_CVW R s args own C index y bytes maxL ret hh ws rm mc ms n := by
  obtain ⟨hC, hd⟩ := hd
  subst hC
  have ok : ∀ w ∈ wsV own index y.cls y ws, w.before args s = true := fun w h => ht w (hT w h).1
  have hG : GoodIn Ts ws := fun w h => hT w (by unfold wsV; exact List.mem_append_right _ h)
  have hc : Cond.codeWith y bytes maxL ret hh ∈ ws := by rw [hw]; exact List.mem_cons_self
  refine ⟨⟨hrc, hrs, hR.1, hR.2, pay_in ht hG, hc⟩, ht _ (hG _ hc).1, ok _ (by simp [wsV]), ⟨hd.1, hd.2.1⟩, fun sig h => ?_, ok _ (by simp [wsV]), ok _ (by simp [wsV]), ok _ (by simp [wsV])⟩
  have h2 := hd.2.2
  rw [h] at h2
  exact (Option.some.inj h2).symm
theorem vx_runVW {y : MethodName} {bytes cc : ByteArray} {maxL nL mc ms n index : Nat} {ret : Option FieldType} {hh : List (Nat × Nat × Nat × Nat)} {ws : List Cond} {rm : Room} {Pc : Array Value → State → Prop} {Qc : Array Value → State → Outcome → State → Prop} {free : Addr → Prop} {Ts : List Cond} {own C : String} {b : Addr} {As rest : List Value} {g : JFrame}
    (S : CallFix p m c cc nL s args Ts own) (hM : Met l y ws rm Pc Qc mc ms free) (cw : vx_CVW R s args own C index y bytes maxL ret hh ws rm mc ms n) (hp : PreV s H C b Pc As)
    (hg : g.method = m) (hn : As.length = n) (hsize : g.locals.size = nL) (hstack : g.stack = As.reverse ++ .ref b :: rest) (hW : 2 * g.monitorRoom + (rest.map fun v => v.category).sum ≤ 8) (hdg : decode cc g.pc = .ok (.invokevirtual index, 3)) (hf : cells + mc ≤ R.cells ∧ slots + ms ≤ R.slots) :
    va_Run p l e R s m args below meth c H locs cells slots mc ms g rest (Qc (Value.ref b :: As).toArray) free := by
  obtain ⟨⟨hrc, hrs, hfr, hlo, hws, hcw⟩, hcode, hini, hy, hlen, hl, hin, hse⟩ := cw
  have hK : Back l R p e below s args y 3 8 (PreOf R mc ms Pc) (PostOf Qc mc ms free) := va_backW (hh := hh) (bytes := bytes) (maxL := maxL) (ret := ret) hM hp.1 hrc hrs hfr hlo hws hcw (fun a' U hW => word_at hW (Or.inl (by first | rfl | simp [Cond.onTables, Cond.keeps, Cond.steady])) hini)
  obtain ⟨hx, hb, hml, ho, -⟩ := S
  obtain ⟨-, ⟨cellB, hcB, hoB, hclB⟩, hPc⟩ := hp
  intro T hT X
  obtain ⟨v, vm₁, ⟨U', l2, c2, s2⟩, hW₁, X', ⟨g', mk, t, L, e1, e2, hq, h1, hL, h2, h3⟩, st⟩ := vx_callVW X hx (C := C) (hh := hh) (bytes := bytes) (maxL := maxL) (ret := ret) ho hl hin hse hcode hy hK (by rw [hT]; exact hcB) hoB hclB hg (hsize.trans hml.symm) (argsL := As) (rest := rest) (fun sig h => hn.trans (hlen sig h)) hstack hW (by rw [hb]; exact hdg)
    (fun vm₁ hW₁ => ⟨hf.1, hf.2, hPc (T.setVm vm₁) hT hW₁⟩)
  dsimp only [Pt.U, Pt.locs, Pt.cells, Pt.slots] at X' e1 e2 h1 h2 h3 st
  subst h1; subst h2; subst h3
  exact ⟨v, (T.setVm vm₁).calling g' mk (Value.ref b :: As).toArray, t, U', L, hT, X', hL, e1, e2, hq, st⟩
section
variable {y : MethodName} {bytes cc : ByteArray} {maxL nL mc ms n index : Nat} {ret : Option FieldType} {ws : List Cond} {rm : Room} {Pc : Array Value → State → Prop} {Qc : Array Value → State → Outcome → State → Prop} {XC : String → State → State → Prop} {free : Addr → Prop} {Ts : List Cond} {own C : String} {b : Addr} {As rest : List Value} {g : JFrame}
theorem vx_runVX {hh : List (Nat × Nat × Nat × Nat)} (S : CallFix p m c cc nL s args Ts own) (hM : vx_Met l y ws rm Pc Qc XC mc ms free) (cw : vx_CVW R s args own C index y bytes maxL ret hh ws rm mc ms n) (hp : PreV s H C b Pc As)
    (hg : g.method = m) (hn : As.length = n) (hsize : g.locals.size = nL) (hstack : g.stack = As.reverse ++ .ref b :: rest) (hW : 2 * g.monitorRoom + (rest.map fun v => v.category).sum ≤ 8) (hdg : decode cc g.pc = .ok (.invokevirtual index, 3)) (hf : cells + mc ≤ R.cells ∧ slots + ms ≤ R.slots) :
    vx_Run p l e R s m args below meth c H locs cells slots mc ms g rest (Qc (Value.ref b :: As).toArray) XC free := by
  obtain ⟨⟨hrc, hrs, hfr, hlo, hws, hcw⟩, hcode, hini, hy, hlen, hl, hin, hse⟩ := cw
  have hK : vx_Back l R p e below s args y 3 8 (PreOf R mc ms Pc) (PostOf Qc mc ms free) (vx_Post XC mc ms free) := vx_backW (hh := hh) (bytes := bytes) (maxL := maxL) (ret := ret) hM hp.1 hrc hrs hfr hlo hws hcw (fun a' U hW => word_at hW (Or.inl (by first | rfl | simp [Cond.onTables, Cond.keeps, Cond.steady])) hini)
  obtain ⟨hx, hb, hml, ho, -⟩ := S
  obtain ⟨-, ⟨cellB, hcB, hoB, hclB⟩, hPc⟩ := hp
  intro T hT X
  rcases vx_callVX X hx (C := C) (hh := hh) (bytes := bytes) (maxL := maxL) (ret := ret) ho hl hin hse hcode hy hK (by rw [hT]; exact hcB) hoB hclB hg (hsize.trans hml.symm) (argsL := As) (rest := rest) (fun sig h => hn.trans (hlen sig h)) hstack hW (by rw [hb]; exact hdg)
    (fun vm₁ hW₁ => ⟨hf.1, hf.2, hPc (T.setVm vm₁) hT hW₁⟩) with ⟨v, vm₁, ⟨U', l2, c2, s2⟩, hW₁, X', ⟨g', mk, t, L, e1, e2, hq, h1, hL, h2, h3⟩, st⟩ | ⟨q, vm₁, ⟨U', l2, c2, s2⟩, hW₁, X', ⟨g', mk, t, L, E, ce, e1, e2, hq, hce, hcv, hcl, h1, hL, h2, h3⟩, st⟩
  · dsimp only [Pt.U, Pt.locs, Pt.cells, Pt.slots] at X' e1 e2 h1 h2 h3 st
    subst h1; subst h2; subst h3
    exact Or.inl ⟨v, (T.setVm vm₁).calling g' mk (Value.ref b :: As).toArray, t, U', L, hT, X', hL, e1, e2, hq, st⟩
  · dsimp only [Pt.U, Pt.locs, Pt.cells, Pt.slots] at X' e1 e2 h1 h2 h3 st hcl
    subst h1; subst h2; subst h3
    exact Or.inr ⟨q, (T.setVm vm₁).calling g' mk (Value.ref b :: As).toArray, t, U', L, E, ce, hT, X', hL, e1, e2, hq, hce, hcv, vx_cls hW₁ hcl, st⟩
theorem vx_runSX {hh : List (Nat × Nat × Nat × Nat)} (S : CallFix p m c cc nL s args Ts own) (hM : vx_Met l y ws rm Pc Qc XC mc ms free) (cw : vx_CSW R s args own index y bytes maxL ret hh ws rm mc ms n) (hp : PreS s H Pc As)
    (hg : g.method = m) (hn : As.length = n) (hsize : g.locals.size = nL) (hstack : g.stack = As.reverse ++ rest) (hW : 2 * g.monitorRoom + (rest.map fun v => v.category).sum ≤ 8) (hdg : decode cc g.pc = .ok (.invokestatic index, 3)) (hf : cells + mc ≤ R.cells ∧ slots + ms ≤ R.slots) :
    vx_Run p l e R s m args below meth c H locs cells slots mc ms g rest (Qc As.toArray) XC free := by
  obtain ⟨⟨hrc, hrs, hfr, hlo, hws, hcw⟩, hcode, hini, hy, hlen, hl, hstt⟩ := cw
  have hK : vx_Back l R p e below s args y 3 8 (PreOf R mc ms Pc) (PostOf Qc mc ms free) (vx_Post XC mc ms free) := vx_backW (hh := hh) (bytes := bytes) (maxL := maxL) (ret := ret) hM hp.1 hrc hrs hfr hlo hws hcw (fun a' U hW => word_at hW (Or.inl (by first | rfl | simp [Cond.onTables, Cond.keeps, Cond.steady])) hini)
  obtain ⟨hx, hb, hml, ho, -⟩ := S
  intro T hT X
  rcases vx_callSX X hx (hh := hh) (bytes := bytes) (maxL := maxL) (ret := ret) ho hl hstt hini hcode hy hK hg (hsize.trans hml.symm) (argsL := As) (rest := rest) (fun sig h => hn.trans (hlen sig h)) hstack hW (by rw [hb]; exact hdg)
    (fun vm₁ hW₁ => ⟨hf.1, hf.2, hp.2 (T.setVm vm₁) hT hW₁⟩) with ⟨v, vm₁, ⟨U', l2, c2, s2⟩, hW₁, X', ⟨g', mk, t, L, e1, e2, hq, h1, hL, h2, h3⟩, st⟩ | ⟨q, vm₁, ⟨U', l2, c2, s2⟩, hW₁, X', ⟨g', mk, t, L, E, ce, e1, e2, hq, hce, hcv, hcl, h1, hL, h2, h3⟩, st⟩
  · dsimp only [Pt.U, Pt.locs, Pt.cells, Pt.slots] at X' e1 e2 h1 h2 h3 st
    subst h1; subst h2; subst h3
    exact Or.inl ⟨v, (T.setVm vm₁).calling g' mk As.toArray, t, U', L, hT, X', hL, e1, e2, hq, st⟩
  · dsimp only [Pt.U, Pt.locs, Pt.cells, Pt.slots] at X' e1 e2 h1 h2 h3 st hcl
    subst h1; subst h2; subst h3
    exact Or.inr ⟨q, (T.setVm vm₁).calling g' mk As.toArray, t, U', L, E, ce, hT, X', hL, e1, e2, hq, hce, hcv, vx_cls hW₁ hcl, st⟩
end
end VXH
theorem vx_ofWH {l : Launch} {y : MethodName} {ws ws' : List Cond} {rm : Room} {Pc : Array Value → State → Prop} {Qc : Array Value → State → Outcome → State → Prop} {XC : String → State → State → Prop} {mc ms : Nat} {free : Addr → Prop} {cc : ByteArray} {maxL : Nat} {ret : Option FieldType} {hh : List (Nat × Nat × Nat × Nat)}
    (hy : plainName y.cls = true) (hw : ws = Cond.codeWith y cc maxL ret hh :: ws')
    (body : ∀ p e s m args below meth c s₁, BodyLoose p l y (headSpec ws rm) cc maxL ret e s m args below meth c s₁ → c.maxLocals = maxL → Pc args s →
      W p l e (headSpec ws rm).room s m args below meth c s.heap [] 0 0 (vx_MQ below Qc XC args s mc ms free) (entryFrame m args maxL)) : vx_Met l y ws rm Pc Qc XC mc ms free := by
  refine MetFree.of_bodyS (code := cc) (maxLocals := maxL) (ret := ret) hy ?_ ?_
  · intro args s m h hn
    obtain ⟨m9, meth, c, hn9, h1, h2, h3, h4, -, h5, h6, -⟩ := Cond.codeWith_spec (atoms_spec (ws := ws) h _ (by rw [hw]; exact List.mem_cons_self))
    cases hn.symm.trans hn9
    exact ⟨meth, c, h1, h2, h3, h4, h5, h6⟩
  · intro p e s m args below meth c s₁ B hml hP _
    have hh0 : s₁.heap = s.heap := by rw [B.state]; rfl
    obtain ⟨t, a1, o, b1, b2, b3⟩ := body p e s m args below meth c s₁ B hml hP s₁ hh0 (Stand.of_body B)
    exact ⟨t, o, a1, b1, b2, b3⟩
/-! ===== END ===== -/
end
section
def RX0 : String := "ShaftPlumb$Copies"
def TX0 : u_T := fun k => match k with
  | 0 => ("ShaftPlumb$Copies", "count", "I", false)
  | 1 => ("ShaftPlumb$Copies", "latest", "I", false)
  | _ => ("ShaftPlumb$Copies", "kept", "[LShaftPlumb$Mine;", true)
def tyX0 : Nat → FieldType := fun k => match k with
  | 0 => .int
  | 1 => .int
  | _ => .array (.object "ShaftPlumb$Mine")
abbrev wsX00 : List Cond := u_ws RX0 TX0 3
theorem nmX0 : ∀ a, a < 3 → ∀ b, b < 3 → a ≠ b → (TX0 a).2.1 ≠ (TX0 b).2.1 := by decide +kernel
theorem tyX0_ok : ∀ k, k < 3 → parseFieldDescriptor (TX0 k).2.2.1 = some (tyX0 k) := by decide +kernel
abbrev cX0_init : ByteArray := prog_2_method_1_code
def yX0_init : MethodName := ⟨RX0, "<init>", "()V"⟩
abbrev cX0_keep : ByteArray := prog_2_method_2_code
def yX0_keep : MethodName := ⟨RX0, "keep", "(LShaftPlumb$Mine;)V"⟩
abbrev cX0_giveBack : ByteArray := prog_2_method_3_code
def yX0_giveBack : MethodName := ⟨RX0, "giveBack", "(LShaftPlumb$Mine;)I"⟩
def RX1 : String := "ShaftPlumb$Join"
def TX1 : u_T := fun k => match k with
  | 0 => ("ShaftPlumb$Join", "near", "I", false)
  | 1 => ("ShaftPlumb$Join", "far", "I", false)
  | 2 => ("ShaftPlumb$Join", "g", "I", false)
  | 3 => ("ShaftPlumb$Join", "east", "I", false)
  | 4 => ("ShaftPlumb$Join", "north", "I", false)
  | 5 => ("ShaftPlumb$Join", "cause", "I", false)
  | 6 => ("ShaftPlumb$Join", "trouble", "I", false)
  | 7 => ("ShaftPlumb$Join", "start", "I", false)
  | 8 => ("ShaftPlumb$Join", "bearing", "I", false)
  | 9 => ("ShaftPlumb$Join", "c", "I", false)
  | 10 => ("ShaftPlumb$Join", "a", "I", false)
  | _ => ("ShaftPlumb$Join", "swung", "I", false)
def tyX1 : Nat → FieldType := fun k => match k with
  | 0 => .int
  | 1 => .int
  | 2 => .int
  | 3 => .int
  | 4 => .int
  | 5 => .int
  | 6 => .int
  | 7 => .int
  | 8 => .int
  | 9 => .int
  | 10 => .int
  | _ => .int
abbrev wsX10 : List Cond := u_ws RX1 TX1 12
theorem nmX1 : ∀ a, a < 12 → ∀ b, b < 12 → a ≠ b → (TX1 a).2.1 ≠ (TX1 b).2.1 := by decide +kernel
theorem tyX1_ok : ∀ k, k < 12 → parseFieldDescriptor (TX1 k).2.2.1 = some (tyX1 k) := by decide +kernel
abbrev cX1_init : ByteArray := prog_3_method_1_code
def yX1_init : MethodName := ⟨RX1, "<init>", "()V"⟩
abbrev cX1_copyFrom : ByteArray := prog_3_method_2_code
def yX1_copyFrom : MethodName := ⟨RX1, "copyFrom", "(LShaftPlumb$Join;)V"⟩
abbrev cX1_lay : ByteArray := prog_3_method_3_code
def yX1_lay : MethodName := ⟨RX1, "lay", "(IIIIII)V"⟩
abbrev cX1_judge : ByteArray := prog_3_method_4_code
def yX1_judge : MethodName := ⟨RX1, "judge", "(LShaftPlumb$Wire;LShaftPlumb$Wire;)V"⟩
abbrev cX1_startWith : ByteArray := prog_3_method_5_code
def yX1_startWith : MethodName := ⟨RX1, "startWith", "(I)I"⟩
abbrev cX1_number : ByteArray := prog_3_method_6_code
def yX1_number : MethodName := ⟨RX1, "number", "(I)I"⟩
def RX2 : String := "ShaftPlumb$Mine"
def TX2 : u_T := fun k => match k with
  | 0 => ("ShaftPlumb$Mine", "settings", "[I", true)
  | 1 => ("ShaftPlumb$Mine", "wireCount", "I", false)
  | 2 => ("ShaftPlumb$Mine", "joinCount", "I", false)
  | 3 => ("ShaftPlumb$Mine", "traverseCount", "I", false)
  | 4 => ("ShaftPlumb$Mine", "wires", "[LShaftPlumb$Wire;", true)
  | 5 => ("ShaftPlumb$Mine", "joins", "[LShaftPlumb$Join;", true)
  | _ => ("ShaftPlumb$Mine", "traverses", "[LShaftPlumb$Traverse;", true)
def tyX2 : Nat → FieldType := fun k => match k with
  | 0 => .array .int
  | 1 => .int
  | 2 => .int
  | 3 => .int
  | 4 => .array (.object "ShaftPlumb$Wire")
  | 5 => .array (.object "ShaftPlumb$Join")
  | _ => .array (.object "ShaftPlumb$Traverse")
abbrev wsX20 : List Cond := u_ws RX2 TX2 7
theorem nmX2 : ∀ a, a < 7 → ∀ b, b < 7 → a ≠ b → (TX2 a).2.1 ≠ (TX2 b).2.1 := by decide +kernel
theorem tyX2_ok : ∀ k, k < 7 → parseFieldDescriptor (TX2 k).2.2.1 = some (tyX2 k) := by decide +kernel
abbrev cX2_init : ByteArray := prog_4_method_1_code
def yX2_init : MethodName := ⟨RX2, "<init>", "()V"⟩
abbrev cX2_copyFrom : ByteArray := prog_4_method_2_code
def yX2_copyFrom : MethodName := ⟨RX2, "copyFrom", "(LShaftPlumb$Mine;)V"⟩
abbrev cX2_judge : ByteArray := prog_4_method_3_code
def yX2_judge : MethodName := ⟨RX2, "judge", "()V"⟩
abbrev cX2_takesSetting : ByteArray := prog_4_method_4_code
def yX2_takesSetting : MethodName := ⟨RX2, "takesSetting", "(II)Z"⟩
abbrev cX2_changeSetting : ByteArray := prog_4_method_5_code
def yX2_changeSetting : MethodName := ⟨RX2, "changeSetting", "(II)I"⟩
abbrev cX2_number : ByteArray := prog_4_method_6_code
def yX2_number : MethodName := ⟨RX2, "number", "(I)I"⟩
abbrev cX2_legsOfAll : ByteArray := prog_4_method_7_code
def yX2_legsOfAll : MethodName := ⟨RX2, "legsOfAll", "()I"⟩
abbrev cX2_turnsOfAll : ByteArray := prog_4_method_8_code
def yX2_turnsOfAll : MethodName := ⟨RX2, "turnsOfAll", "()I"⟩
abbrev cX2_wireAt : ByteArray := prog_4_method_9_code
def yX2_wireAt : MethodName := ⟨RX2, "wireAt", "(I)LShaftPlumb$Wire;"⟩
abbrev cX2_joinAt : ByteArray := prog_4_method_10_code
def yX2_joinAt : MethodName := ⟨RX2, "joinAt", "(I)LShaftPlumb$Join;"⟩
abbrev cX2_traverseAt : ByteArray := prog_4_method_11_code
def yX2_traverseAt : MethodName := ⟨RX2, "traverseAt", "(I)LShaftPlumb$Traverse;"⟩
abbrev cX2_addWire : ByteArray := prog_4_method_12_code
def yX2_addWire : MethodName := ⟨RX2, "addWire", "(II)I"⟩
abbrev cX2_addJoin : ByteArray := prog_4_method_13_code
def yX2_addJoin : MethodName := ⟨RX2, "addJoin", "(IIIIII)I"⟩
abbrev cX2_addTraverse : ByteArray := prog_4_method_14_code
def yX2_addTraverse : MethodName := ⟨RX2, "addTraverse", "(I)I"⟩
abbrev cX2_troubleOf : ByteArray := prog_4_method_15_code
def yX2_troubleOf : MethodName := ⟨RX2, "troubleOf", "(LShaftPlumb$Traverse;I)I"⟩
def RX3 : String := "ShaftPlumb$Numbers"
def TX3 : u_T := fun k => match k with
  | _ => ("", "", "", false)
def tyX3 : Nat → FieldType := fun k => match k with
  | _ => .int
abbrev wsX30 : List Cond := u_ws RX3 TX3 0
theorem nmX3 : ∀ a, a < 0 → ∀ b, b < 0 → a ≠ b → (TX3 a).2.1 ≠ (TX3 b).2.1 := by decide +kernel
theorem tyX3_ok : ∀ k, k < 0 → parseFieldDescriptor (TX3 k).2.2.1 = some (tyX3 k) := by decide +kernel
abbrev cX3_norm : ByteArray := prog_5_method_2_code
def yX3_norm : MethodName := ⟨RX3, "norm", "(I)I"⟩
abbrev cX3_centre : ByteArray := prog_5_method_3_code
def yX3_centre : MethodName := ⟨RX3, "centre", "(I)I"⟩
abbrev cX3_sineOf : ByteArray := prog_5_method_4_code
def yX3_sineOf : MethodName := ⟨RX3, "sineOf", "(I)I"⟩
abbrev cX3_quotient : ByteArray := prog_5_method_5_code
def yX3_quotient : MethodName := ⟨RX3, "quotient", "(JJ)I"⟩
abbrev cX3_lengthOf : ByteArray := prog_5_method_6_code
def yX3_lengthOf : MethodName := ⟨RX3, "lengthOf", "(JJ)I"⟩
abbrev cX3_squareOf : ByteArray := prog_5_method_7_code
def yX3_squareOf : MethodName := ⟨RX3, "squareOf", "(JJ)J"⟩
abbrev cX3_rootOf : ByteArray := prog_5_method_8_code
def yX3_rootOf : MethodName := ⟨RX3, "rootOf", "(J)I"⟩
def RX4 : String := "ShaftPlumb$Script"
def TX4 : u_T := fun k => match k with
  | 0 => ("ShaftPlumb$Script", "length", "I", false)
  | 1 => ("ShaftPlumb$Script", "letter", "C", false)
  | 2 => ("ShaftPlumb$Script", "numbers", "[I", true)
  | 3 => ("ShaftPlumb$Script", "numberAt", "I", false)
  | _ => ("ShaftPlumb$Script", "text", "[C", true)
def tyX4 : Nat → FieldType := fun k => match k with
  | 0 => .int
  | 1 => .char
  | 2 => .array .int
  | 3 => .int
  | _ => .array .char
abbrev wsX40 : List Cond := u_ws RX4 TX4 5
theorem nmX4 : ∀ a, a < 5 → ∀ b, b < 5 → a ≠ b → (TX4 a).2.1 ≠ (TX4 b).2.1 := by decide +kernel
theorem tyX4_ok : ∀ k, k < 5 → parseFieldDescriptor (TX4 k).2.2.1 = some (tyX4 k) := by decide +kernel
abbrev cX4_init : ByteArray := prog_6_method_1_code
def yX4_init : MethodName := ⟨RX4, "<init>", "()V"⟩
abbrev cX4_append : ByteArray := prog_6_method_2_code
def yX4_append : MethodName := ⟨RX4, "append", "(C)I"⟩
abbrev cX4_empty : ByteArray := prog_6_method_3_code
def yX4_empty : MethodName := ⟨RX4, "empty", "()I"⟩
abbrev cX4_firstFault : ByteArray := prog_6_method_4_code
def yX4_firstFault : MethodName := ⟨RX4, "firstFault", "()I"⟩
abbrev cX4_endsCommand : ByteArray := prog_6_method_5_code
def yX4_endsCommand : MethodName := ⟨RX4, "endsCommand", "(I)Z"⟩
abbrev cX4_startCommand : ByteArray := prog_6_method_6_code
def yX4_startCommand : MethodName := ⟨RX4, "startCommand", "(C)V"⟩
abbrev cX4_numbersOf : ByteArray := prog_6_method_7_code
def yX4_numbersOf : MethodName := ⟨RX4, "numbersOf", "(C)I"⟩
abbrev cX4_isDigit : ByteArray := prog_6_method_8_code
def yX4_isDigit : MethodName := ⟨RX4, "isDigit", "(C)Z"⟩
def RX5 : String := "ShaftPlumb$Traverse"
def TX5 : u_T := fun k => match k with
  | 0 => ("ShaftPlumb$Traverse", "firstJoin", "I", false)
  | 1 => ("ShaftPlumb$Traverse", "lastJoin", "I", false)
  | 2 => ("ShaftPlumb$Traverse", "legCount", "I", false)
  | 3 => ("ShaftPlumb$Traverse", "trouble", "I", false)
  | 4 => ("ShaftPlumb$Traverse", "closingAngle", "I", false)
  | 5 => ("ShaftPlumb$Traverse", "gap", "I", false)
  | 6 => ("ShaftPlumb$Traverse", "eastAtEnd", "I", false)
  | 7 => ("ShaftPlumb$Traverse", "northAtEnd", "I", false)
  | 8 => ("ShaftPlumb$Traverse", "missEast", "I", false)
  | 9 => ("ShaftPlumb$Traverse", "missNorth", "I", false)
  | 10 => ("ShaftPlumb$Traverse", "angles", "[I", true)
  | 11 => ("ShaftPlumb$Traverse", "lengths", "[I", true)
  | 12 => ("ShaftPlumb$Traverse", "bearings", "[I", true)
  | 13 => ("ShaftPlumb$Traverse", "easts", "[I", true)
  | _ => ("ShaftPlumb$Traverse", "norths", "[I", true)
def tyX5 : Nat → FieldType := fun k => match k with
  | 0 => .int
  | 1 => .int
  | 2 => .int
  | 3 => .int
  | 4 => .int
  | 5 => .int
  | 6 => .int
  | 7 => .int
  | 8 => .int
  | 9 => .int
  | 10 => .array .int
  | 11 => .array .int
  | 12 => .array .int
  | 13 => .array .int
  | _ => .array .int
abbrev wsX50 : List Cond := u_ws RX5 TX5 15
theorem nmX5 : ∀ a, a < 15 → ∀ b, b < 15 → a ≠ b → (TX5 a).2.1 ≠ (TX5 b).2.1 := by decide +kernel
theorem tyX5_ok : ∀ k, k < 15 → parseFieldDescriptor (TX5 k).2.2.1 = some (tyX5 k) := by decide +kernel
abbrev cX5_init : ByteArray := prog_7_method_1_code
def yX5_init : MethodName := ⟨RX5, "<init>", "()V"⟩
abbrev cX5_copyFrom : ByteArray := prog_7_method_2_code
def yX5_copyFrom : MethodName := ⟨RX5, "copyFrom", "(LShaftPlumb$Traverse;)V"⟩
abbrev cX5_startAt : ByteArray := prog_7_method_3_code
def yX5_startAt : MethodName := ⟨RX5, "startAt", "(I)V"⟩
abbrev cX5_closeOn : ByteArray := prog_7_method_4_code
def yX5_closeOn : MethodName := ⟨RX5, "closeOn", "(II)V"⟩
abbrev cX5_isClosed : ByteArray := prog_7_method_5_code
def yX5_isClosed : MethodName := ⟨RX5, "isClosed", "()Z"⟩
abbrev cX5_hasLeg : ByteArray := prog_7_method_6_code
def yX5_hasLeg : MethodName := ⟨RX5, "hasLeg", "(I)Z"⟩
abbrev cX5_hasEnd : ByteArray := prog_7_method_7_code
def yX5_hasEnd : MethodName := ⟨RX5, "hasEnd", "()Z"⟩
abbrev cX5_hasGap : ByteArray := prog_7_method_8_code
def yX5_hasGap : MethodName := ⟨RX5, "hasGap", "()Z"⟩
abbrev cX5_append : ByteArray := prog_7_method_9_code
def yX5_append : MethodName := ⟨RX5, "append", "(II)I"⟩
abbrev cX5_shorten : ByteArray := prog_7_method_10_code
def yX5_shorten : MethodName := ⟨RX5, "shorten", "()I"⟩
abbrev cX5_takeGapAway : ByteArray := prog_7_method_11_code
def yX5_takeGapAway : MethodName := ⟨RX5, "takeGapAway", "()I"⟩
abbrev cX5_legsBefore : ByteArray := prog_7_method_12_code
def yX5_legsBefore : MethodName := ⟨RX5, "legsBefore", "(I)I"⟩
abbrev cX5_judge : ByteArray := prog_7_method_13_code
def yX5_judge : MethodName := ⟨RX5, "judge", "(LShaftPlumb$Join;LShaftPlumb$Join;I)V"⟩
abbrev cX5_layOut : ByteArray := prog_7_method_14_code
def yX5_layOut : MethodName := ⟨RX5, "layOut", "(LShaftPlumb$Join;)I"⟩
abbrev cX5_step : ByteArray := prog_7_method_15_code
def yX5_step : MethodName := ⟨RX5, "step", "(JI)I"⟩
abbrev cX5_number : ByteArray := prog_7_method_16_code
def yX5_number : MethodName := ⟨RX5, "number", "(I)I"⟩
abbrev cX5_numberOfClosing : ByteArray := prog_7_method_17_code
def yX5_numberOfClosing : MethodName := ⟨RX5, "numberOfClosing", "(I)I"⟩
abbrev cX5_sumOfLengths : ByteArray := prog_7_method_18_code
def yX5_sumOfLengths : MethodName := ⟨RX5, "sumOfLengths", "()I"⟩
abbrev cX5_numberOfLeg : ByteArray := prog_7_method_19_code
def yX5_numberOfLeg : MethodName := ⟨RX5, "numberOfLeg", "(II)I"⟩
abbrev cX5_suspectedLeg : ByteArray := prog_7_method_20_code
def yX5_suspectedLeg : MethodName := ⟨RX5, "suspectedLeg", "()I"⟩
abbrev cX5_distanceTo : ByteArray := prog_7_method_21_code
def yX5_distanceTo : MethodName := ⟨RX5, "distanceTo", "(LShaftPlumb$Traverse;)I"⟩
abbrev cX5_smallAngleFor : ByteArray := prog_7_method_22_code
def yX5_smallAngleFor : MethodName := ⟨RX5, "smallAngleFor", "(ILShaftPlumb$Join;I)I"⟩
abbrev cX5_lengthTowards : ByteArray := prog_7_method_23_code
def yX5_lengthTowards : MethodName := ⟨RX5, "lengthTowards", "(LShaftPlumb$Traverse;II)I"⟩
def RX6 : String := "ShaftPlumb$Wire"
def TX6 : u_T := fun k => match k with
  | 0 => ("ShaftPlumb$Wire", "east", "I", false)
  | 1 => ("ShaftPlumb$Wire", "north", "I", false)
  | 2 => ("ShaftPlumb$Wire", "turnCount", "I", false)
  | 3 => ("ShaftPlumb$Wire", "rest", "I", false)
  | 4 => ("ShaftPlumb$Wire", "spread", "I", false)
  | 5 => ("ShaftPlumb$Wire", "trouble", "I", false)
  | _ => ("ShaftPlumb$Wire", "turns", "[I", true)
def tyX6 : Nat → FieldType := fun k => match k with
  | 0 => .int
  | 1 => .int
  | 2 => .int
  | 3 => .int
  | 4 => .int
  | 5 => .int
  | _ => .array .int
abbrev wsX60 : List Cond := u_ws RX6 TX6 7
theorem nmX6 : ∀ a, a < 7 → ∀ b, b < 7 → a ≠ b → (TX6 a).2.1 ≠ (TX6 b).2.1 := by decide +kernel
theorem tyX6_ok : ∀ k, k < 7 → parseFieldDescriptor (TX6 k).2.2.1 = some (tyX6 k) := by decide +kernel
abbrev cX6_init : ByteArray := prog_8_method_1_code
def yX6_init : MethodName := ⟨RX6, "<init>", "()V"⟩
abbrev cX6_copyFrom : ByteArray := prog_8_method_2_code
def yX6_copyFrom : MethodName := ⟨RX6, "copyFrom", "(LShaftPlumb$Wire;)V"⟩
abbrev cX6_hangAt : ByteArray := prog_8_method_3_code
def yX6_hangAt : MethodName := ⟨RX6, "hangAt", "(II)V"⟩
abbrev cX6_addTurn : ByteArray := prog_8_method_4_code
def yX6_addTurn : MethodName := ⟨RX6, "addTurn", "(I)I"⟩
abbrev cX6_dropTurns : ByteArray := prog_8_method_5_code
def yX6_dropTurns : MethodName := ⟨RX6, "dropTurns", "()I"⟩
abbrev cX6_judge : ByteArray := prog_8_method_6_code
def yX6_judge : MethodName := ⟨RX6, "judge", "(I)V"⟩
abbrev cX6_number : ByteArray := prog_8_method_7_code
def yX6_number : MethodName := ⟨RX6, "number", "(I)I"⟩
abbrev cX6_meanOfTurns : ByteArray := prog_8_method_8_code
def yX6_meanOfTurns : MethodName := ⟨RX6, "meanOfTurns", "()I"⟩
abbrev cX6_greatestDifference : ByteArray := prog_8_method_9_code
def yX6_greatestDifference : MethodName := ⟨RX6, "greatestDifference", "()I"⟩
def RX7 : String := "ShaftPlumb"
def TX7 : u_T := fun k => match k with
  | 0 => ("ShaftPlumb", "mine", "LShaftPlumb$Mine;", true)
  | 1 => ("ShaftPlumb", "copies", "LShaftPlumb$Copies;", true)
  | _ => ("ShaftPlumb", "script", "LShaftPlumb$Script;", true)
def tyX7 : Nat → FieldType := fun k => match k with
  | 0 => .object "ShaftPlumb$Mine"
  | 1 => .object "ShaftPlumb$Copies"
  | _ => .object "ShaftPlumb$Script"
abbrev wsX70 : List Cond := u_ws RX7 TX7 3
theorem nmX7 : ∀ a, a < 3 → ∀ b, b < 3 → a ≠ b → (TX7 a).2.1 ≠ (TX7 b).2.1 := by decide +kernel
theorem tyX7_ok : ∀ k, k < 3 → parseFieldDescriptor (TX7 k).2.2.1 = some (tyX7 k) := by decide +kernel
abbrev cX7_init : ByteArray := prog_1_method_1_code
def yX7_init : MethodName := ⟨RX7, "<init>", "()V"⟩
abbrev cX7_set : ByteArray := prog_1_method_2_code
def yX7_set : MethodName := ⟨RX7, "set", "(II)I"⟩
abbrev cX7_info : ByteArray := prog_1_method_3_code
def yX7_info : MethodName := ⟨RX7, "info", "(I)I"⟩
abbrev cX7_hang : ByteArray := prog_1_method_4_code
def yX7_hang : MethodName := ⟨RX7, "hang", "(II)I"⟩
abbrev cX7_swing : ByteArray := prog_1_method_5_code
def yX7_swing : MethodName := ⟨RX7, "swing", "(II)I"⟩
abbrev cX7_still : ByteArray := prog_1_method_6_code
def yX7_still : MethodName := ⟨RX7, "still", "(I)I"⟩
abbrev cX7_wire : ByteArray := prog_1_method_7_code
def yX7_wire : MethodName := ⟨RX7, "wire", "(II)I"⟩
abbrev cX7_join : ByteArray := prog_1_method_8_code
def yX7_join : MethodName := ⟨RX7, "join", "(IIIIII)I"⟩
abbrev cX7_measure : ByteArray := prog_1_method_9_code
def yX7_measure : MethodName := ⟨RX7, "measure", "(II)I"⟩
abbrev cX7_joinOf : ByteArray := prog_1_method_10_code
def yX7_joinOf : MethodName := ⟨RX7, "joinOf", "(II)I"⟩
abbrev cX7_begin : ByteArray := prog_1_method_11_code
def yX7_begin : MethodName := ⟨RX7, "begin", "(I)I"⟩
abbrev cX7_addLeg : ByteArray := prog_1_method_12_code
def yX7_addLeg : MethodName := ⟨RX7, "addLeg", "(III)I"⟩
abbrev cX7_dropLeg : ByteArray := prog_1_method_13_code
def yX7_dropLeg : MethodName := ⟨RX7, "dropLeg", "(I)I"⟩
abbrev cX7_close : ByteArray := prog_1_method_14_code
def yX7_close : MethodName := ⟨RX7, "close", "(III)I"⟩
abbrev cX7_adjust : ByteArray := prog_1_method_15_code
def yX7_adjust : MethodName := ⟨RX7, "adjust", "(I)I"⟩
abbrev cX7_traverse : ByteArray := prog_1_method_16_code
def yX7_traverse : MethodName := ⟨RX7, "traverse", "(II)I"⟩
abbrev cX7_leg : ByteArray := prog_1_method_17_code
def yX7_leg : MethodName := ⟨RX7, "leg", "(III)I"⟩
abbrev cX7_trouble : ByteArray := prog_1_method_18_code
def yX7_trouble : MethodName := ⟨RX7, "trouble", "(II)I"⟩
abbrev cX7_apart : ByteArray := prog_1_method_19_code
def yX7_apart : MethodName := ⟨RX7, "apart", "(II)I"⟩
abbrev cX7_meets : ByteArray := prog_1_method_20_code
def yX7_meets : MethodName := ⟨RX7, "meets", "(II)Z"⟩
abbrev cX7_sine : ByteArray := prog_1_method_21_code
def yX7_sine : MethodName := ⟨RX7, "sine", "(I)I"⟩
abbrev cX7_suspect : ByteArray := prog_1_method_22_code
def yX7_suspect : MethodName := ⟨RX7, "suspect", "(I)I"⟩
abbrev cX7_angleFor : ByteArray := prog_1_method_23_code
def yX7_angleFor : MethodName := ⟨RX7, "angleFor", "(III)I"⟩
abbrev cX7_reachBy : ByteArray := prog_1_method_24_code
def yX7_reachBy : MethodName := ⟨RX7, "reachBy", "(IIII)I"⟩
abbrev cX7_type : ByteArray := prog_1_method_25_code
def yX7_type : MethodName := ⟨RX7, "type", "(I)I"⟩
abbrev cX7_clearText : ByteArray := prog_1_method_26_code
def yX7_clearText : MethodName := ⟨RX7, "clearText", "()I"⟩
abbrev cX7_fault : ByteArray := prog_1_method_27_code
def yX7_fault : MethodName := ⟨RX7, "fault", "()I"⟩
abbrev cX7_run : ByteArray := prog_1_method_28_code
def yX7_run : MethodName := ⟨RX7, "run", "()I"⟩
abbrev cX7_undo : ByteArray := prog_1_method_29_code
def yX7_undo : MethodName := ⟨RX7, "undo", "()I"⟩
abbrev cX7_checksum : ByteArray := prog_1_method_30_code
def yX7_checksum : MethodName := ⟨RX7, "checksum", "()J"⟩
abbrev cX7_checkWires : ByteArray := prog_1_method_31_code
def yX7_checkWires : MethodName := ⟨RX7, "checkWires", "(J)J"⟩
abbrev cX7_checkJoins : ByteArray := prog_1_method_32_code
def yX7_checkJoins : MethodName := ⟨RX7, "checkJoins", "(J)J"⟩
abbrev cX7_checkTraverse : ByteArray := prog_1_method_33_code
def yX7_checkTraverse : MethodName := ⟨RX7, "checkTraverse", "(JLShaftPlumb$Traverse;)J"⟩
abbrev cX7_order : ByteArray := prog_1_method_34_code
def yX7_order : MethodName := ⟨RX7, "order", "(CIII)I"⟩
abbrev cX7_obey : ByteArray := prog_1_method_35_code
def yX7_obey : MethodName := ⟨RX7, "obey", "(C[I)Z"⟩
abbrev cX7_refusalOf : ByteArray := prog_1_method_36_code
def yX7_refusalOf : MethodName := ⟨RX7, "refusalOf", "(CIII)I"⟩
abbrev cX7_refusalOfTurn : ByteArray := prog_1_method_37_code
def yX7_refusalOfTurn : MethodName := ⟨RX7, "refusalOfTurn", "(LShaftPlumb$Wire;I)I"⟩
abbrev cX7_refusalOfLeg : ByteArray := prog_1_method_38_code
def yX7_refusalOfLeg : MethodName := ⟨RX7, "refusalOfLeg", "(LShaftPlumb$Traverse;II)I"⟩
abbrev cX7_carryOut : ByteArray := prog_1_method_39_code
def yX7_carryOut : MethodName := ⟨RX7, "carryOut", "(CIII)I"⟩
abbrev cX7_isIn : ByteArray := prog_1_method_40_code
def yX7_isIn : MethodName := ⟨RX7, "isIn", "(III)Z"⟩
abbrev cX7_isBearing : ByteArray := prog_1_method_41_code
def yX7_isBearing : MethodName := ⟨RX7, "isBearing", "(I)Z"⟩
abbrev cX7_isSmall : ByteArray := prog_1_method_42_code
def yX7_isSmall : MethodName := ⟨RX7, "isSmall", "(I)Z"⟩
def RX8 : String := "ShaftPlumbModel"
def TX8 : u_T := fun k => match k with
  | 0 => ("ShaftPlumbModel", "s", "[I", true)
  | 1 => ("ShaftPlumbModel", "past", "[I", true)
  | 2 => ("ShaftPlumbModel", "pasts", "I", false)
  | 3 => ("ShaftPlumbModel", "runs", "Z", false)
  | 4 => ("ShaftPlumbModel", "text", "[I", true)
  | 5 => ("ShaftPlumbModel", "typed", "I", false)
  | 6 => ("ShaftPlumbModel", "refused", "I", false)
  | 7 => ("ShaftPlumbModel", "spot", "I", false)
  | 8 => ("ShaftPlumbModel", "told", "[I", true)
  | _ => ("ShaftPlumbModel", "hash", "J", false)
def tyX8 : Nat → FieldType := fun k => match k with
  | 0 => .array .int
  | 1 => .array .int
  | 2 => .int
  | 3 => .boolean
  | 4 => .array .int
  | 5 => .int
  | 6 => .int
  | 7 => .int
  | 8 => .array .int
  | _ => .long
abbrev wsX80 : List Cond := u_ws RX8 TX8 10
theorem nmX8 : ∀ a, a < 10 → ∀ b, b < 10 → a ≠ b → (TX8 a).2.1 ≠ (TX8 b).2.1 := by decide +kernel
theorem tyX8_ok : ∀ k, k < 10 → parseFieldDescriptor (TX8 k).2.2.1 = some (tyX8 k) := by decide +kernel
abbrev cX8_init : ByteArray := prog_10_method_1_code
def yX8_init : MethodName := ⟨RX8, "<init>", "()V"⟩
abbrev cX8_thrown : ByteArray := prog_10_method_2_code
def yX8_thrown : MethodName := ⟨RX8, "thrown", "()I"⟩
abbrev cX8_in : ByteArray := prog_10_method_3_code
def yX8_in : MethodName := ⟨RX8, "in", "(JJJ)Z"⟩
abbrev cX8_throwsAt : ByteArray := prog_10_method_4_code
def yX8_throwsAt : MethodName := ⟨RX8, "throwsAt", "(I)Z"⟩
abbrev cX8_saves : ByteArray := prog_10_method_5_code
def yX8_saves : MethodName := ⟨RX8, "saves", "()V"⟩
abbrev cX8_isWire : ByteArray := prog_10_method_6_code
def yX8_isWire : MethodName := ⟨RX8, "isWire", "(I)Z"⟩
abbrev cX8_isJoin : ByteArray := prog_10_method_7_code
def yX8_isJoin : MethodName := ⟨RX8, "isJoin", "(I)Z"⟩
abbrev cX8_isTraverse : ByteArray := prog_10_method_8_code
def yX8_isTraverse : MethodName := ⟨RX8, "isTraverse", "(I)Z"⟩
abbrev cX8_ofWire : ByteArray := prog_10_method_9_code
def yX8_ofWire : MethodName := ⟨RX8, "ofWire", "(II)I"⟩
abbrev cX8_ofJoin : ByteArray := prog_10_method_10_code
def yX8_ofJoin : MethodName := ⟨RX8, "ofJoin", "(II)I"⟩
abbrev cX8_of : ByteArray := prog_10_method_11_code
def yX8_of : MethodName := ⟨RX8, "of", "(II)I"⟩
abbrev cX8_legs : ByteArray := prog_10_method_12_code
def yX8_legs : MethodName := ⟨RX8, "legs", "(I)I"⟩
abbrev cX8_isClosed : ByteArray := prog_10_method_13_code
def yX8_isClosed : MethodName := ⟨RX8, "isClosed", "(I)Z"⟩
abbrev cX8_angle : ByteArray := prog_10_method_14_code
def yX8_angle : MethodName := ⟨RX8, "angle", "(II)I"⟩
abbrev cX8_length : ByteArray := prog_10_method_15_code
def yX8_length : MethodName := ⟨RX8, "length", "(II)I"⟩
abbrev cX8_normed : ByteArray := prog_10_method_16_code
def yX8_normed : MethodName := ⟨RX8, "normed", "(J)I"⟩
abbrev cX8_centred : ByteArray := prog_10_method_17_code
def yX8_centred : MethodName := ⟨RX8, "centred", "(J)I"⟩
abbrev cX8_sineOf : ByteArray := prog_10_method_18_code
def yX8_sineOf : MethodName := ⟨RX8, "sineOf", "(J)I"⟩
abbrev cX8_cosineOf : ByteArray := prog_10_method_19_code
def yX8_cosineOf : MethodName := ⟨RX8, "cosineOf", "(J)I"⟩
abbrev cX8_root : ByteArray := prog_10_method_20_code
def yX8_root : MethodName := ⟨RX8, "root", "(J)I"⟩
abbrev cX8_size : ByteArray := prog_10_method_21_code
def yX8_size : MethodName := ⟨RX8, "size", "(I)I"⟩
abbrev cX8_set : ByteArray := prog_10_method_22_code
def yX8_set : MethodName := ⟨RX8, "set", "(II)I"⟩
abbrev cX8_infoOf : ByteArray := prog_10_method_23_code
def yX8_infoOf : MethodName := ⟨RX8, "infoOf", "(I)I"⟩
abbrev cX8_info : ByteArray := prog_10_method_24_code
def yX8_info : MethodName := ⟨RX8, "info", "(I)I"⟩
abbrev cX8_isFar : ByteArray := prog_10_method_25_code
def yX8_isFar : MethodName := ⟨RX8, "isFar", "(I)Z"⟩
abbrev cX8_hang : ByteArray := prog_10_method_26_code
def yX8_hang : MethodName := ⟨RX8, "hang", "(II)I"⟩
abbrev cX8_swing : ByteArray := prog_10_method_27_code
def yX8_swing : MethodName := ⟨RX8, "swing", "(II)I"⟩
abbrev cX8_still : ByteArray := prog_10_method_28_code
def yX8_still : MethodName := ⟨RX8, "still", "(I)I"⟩
abbrev cX8_driftOf : ByteArray := prog_10_method_29_code
def yX8_driftOf : MethodName := ⟨RX8, "driftOf", "(I)I"⟩
abbrev cX8_troubleOfWire : ByteArray := prog_10_method_30_code
def yX8_troubleOfWire : MethodName := ⟨RX8, "troubleOfWire", "(I)I"⟩
abbrev cX8_restOf : ByteArray := prog_10_method_31_code
def yX8_restOf : MethodName := ⟨RX8, "restOf", "(I)I"⟩
abbrev cX8_wireOf : ByteArray := prog_10_method_32_code
def yX8_wireOf : MethodName := ⟨RX8, "wireOf", "(II)I"⟩
abbrev cX8_wire : ByteArray := prog_10_method_33_code
def yX8_wire : MethodName := ⟨RX8, "wire", "(II)I"⟩
abbrev cX8_isAngle : ByteArray := prog_10_method_34_code
def yX8_isAngle : MethodName := ⟨RX8, "isAngle", "(I)Z"⟩
abbrev cX8_isSmall : ByteArray := prog_10_method_35_code
def yX8_isSmall : MethodName := ⟨RX8, "isSmall", "(I)Z"⟩
abbrev cX8_join : ByteArray := prog_10_method_36_code
def yX8_join : MethodName := ⟨RX8, "join", "(IIIIII)I"⟩
abbrev cX8_measure : ByteArray := prog_10_method_37_code
def yX8_measure : MethodName := ⟨RX8, "measure", "(II)I"⟩
abbrev cX8_wiresOf : ByteArray := prog_10_method_38_code
def yX8_wiresOf : MethodName := ⟨RX8, "wiresOf", "(I)I"⟩
abbrev cX8_troubleOfJoin : ByteArray := prog_10_method_39_code
def yX8_troubleOfJoin : MethodName := ⟨RX8, "troubleOfJoin", "(I)I"⟩
abbrev cX8_startOf : ByteArray := prog_10_method_40_code
def yX8_startOf : MethodName := ⟨RX8, "startOf", "(I)I"⟩
abbrev cX8_joinTold : ByteArray := prog_10_method_41_code
def yX8_joinTold : MethodName := ⟨RX8, "joinTold", "(II)I"⟩
abbrev cX8_joinOf : ByteArray := prog_10_method_42_code
def yX8_joinOf : MethodName := ⟨RX8, "joinOf", "(II)I"⟩
abbrev cX8_begin : ByteArray := prog_10_method_43_code
def yX8_begin : MethodName := ⟨RX8, "begin", "(I)I"⟩
abbrev cX8_addLeg : ByteArray := prog_10_method_44_code
def yX8_addLeg : MethodName := ⟨RX8, "addLeg", "(III)I"⟩
abbrev cX8_dropLeg : ByteArray := prog_10_method_45_code
def yX8_dropLeg : MethodName := ⟨RX8, "dropLeg", "(I)I"⟩
abbrev cX8_bearing : ByteArray := prog_10_method_46_code
def yX8_bearing : MethodName := ⟨RX8, "bearing", "(II)I"⟩
abbrev cX8_gap : ByteArray := prog_10_method_47_code
def yX8_gap : MethodName := ⟨RX8, "gap", "(I)I"⟩
abbrev cX8_troubleOf : ByteArray := prog_10_method_48_code
def yX8_troubleOf : MethodName := ⟨RX8, "troubleOf", "(I)I"⟩
abbrev cX8_close : ByteArray := prog_10_method_49_code
def yX8_close : MethodName := ⟨RX8, "close", "(III)I"⟩
abbrev cX8_turns : ByteArray := prog_10_method_50_code
def yX8_turns : MethodName := ⟨RX8, "turns", "(II)V"⟩
abbrev cX8_adjust : ByteArray := prog_10_method_51_code
def yX8_adjust : MethodName := ⟨RX8, "adjust", "(I)I"⟩
abbrev cX8_end : ByteArray := prog_10_method_52_code
def yX8_end : MethodName := ⟨RX8, "end", "(IIZ)I"⟩
abbrev cX8_miss : ByteArray := prog_10_method_53_code
def yX8_miss : MethodName := ⟨RX8, "miss", "(IZ)I"⟩
abbrev cX8_isWhole : ByteArray := prog_10_method_54_code
def yX8_isWhole : MethodName := ⟨RX8, "isWhole", "(I)Z"⟩
abbrev cX8_far : ByteArray := prog_10_method_55_code
def yX8_far : MethodName := ⟨RX8, "far", "(JJ)I"⟩
abbrev cX8_traverseOf : ByteArray := prog_10_method_56_code
def yX8_traverseOf : MethodName := ⟨RX8, "traverseOf", "(II)I"⟩
abbrev cX8_traverse : ByteArray := prog_10_method_57_code
def yX8_traverse : MethodName := ⟨RX8, "traverse", "(II)I"⟩
abbrev cX8_legOf : ByteArray := prog_10_method_58_code
def yX8_legOf : MethodName := ⟨RX8, "legOf", "(III)I"⟩
abbrev cX8_leg : ByteArray := prog_10_method_59_code
def yX8_leg : MethodName := ⟨RX8, "leg", "(III)I"⟩
abbrev cX8_troubleAt : ByteArray := prog_10_method_60_code
def yX8_troubleAt : MethodName := ⟨RX8, "troubleAt", "(II)I"⟩
abbrev cX8_trouble : ByteArray := prog_10_method_61_code
def yX8_trouble : MethodName := ⟨RX8, "trouble", "(II)I"⟩
abbrev cX8_hasEnd : ByteArray := prog_10_method_62_code
def yX8_hasEnd : MethodName := ⟨RX8, "hasEnd", "(I)Z"⟩
abbrev cX8_between : ByteArray := prog_10_method_63_code
def yX8_between : MethodName := ⟨RX8, "between", "(II)I"⟩
abbrev cX8_apart : ByteArray := prog_10_method_64_code
def yX8_apart : MethodName := ⟨RX8, "apart", "(II)I"⟩
abbrev cX8_meets : ByteArray := prog_10_method_65_code
def yX8_meets : MethodName := ⟨RX8, "meets", "(II)Z"⟩
abbrev cX8_sine : ByteArray := prog_10_method_66_code
def yX8_sine : MethodName := ⟨RX8, "sine", "(I)I"⟩
abbrev cX8_suspectOf : ByteArray := prog_10_method_67_code
def yX8_suspectOf : MethodName := ⟨RX8, "suspectOf", "(I)I"⟩
abbrev cX8_suspect : ByteArray := prog_10_method_68_code
def yX8_suspect : MethodName := ⟨RX8, "suspect", "(I)I"⟩
abbrev cX8_angleFor : ByteArray := prog_10_method_69_code
def yX8_angleFor : MethodName := ⟨RX8, "angleFor", "(III)I"⟩
abbrev cX8_reachBy : ByteArray := prog_10_method_70_code
def yX8_reachBy : MethodName := ⟨RX8, "reachBy", "(IIII)I"⟩
abbrev cX8_type : ByteArray := prog_10_method_71_code
def yX8_type : MethodName := ⟨RX8, "type", "(I)I"⟩
abbrev cX8_clearText : ByteArray := prog_10_method_72_code
def yX8_clearText : MethodName := ⟨RX8, "clearText", "()I"⟩
abbrev cX8_isAt : ByteArray := prog_10_method_73_code
def yX8_isAt : MethodName := ⟨RX8, "isAt", "(II)Z"⟩
abbrev cX8_number : ByteArray := prog_10_method_74_code
def yX8_number : MethodName := ⟨RX8, "number", "(II)Z"⟩
abbrev cX8_numbers : ByteArray := prog_10_method_75_code
def yX8_numbers : MethodName := ⟨RX8, "numbers", "(I)I"⟩
abbrev cX8_reads : ByteArray := prog_10_method_76_code
def yX8_reads : MethodName := ⟨RX8, "reads", "()Z"⟩
abbrev cX8_faultAt : ByteArray := prog_10_method_77_code
def yX8_faultAt : MethodName := ⟨RX8, "faultAt", "()I"⟩
abbrev cX8_fault : ByteArray := prog_10_method_78_code
def yX8_fault : MethodName := ⟨RX8, "fault", "()I"⟩
abbrev cX8_does : ByteArray := prog_10_method_79_code
def yX8_does : MethodName := ⟨RX8, "does", "(I)V"⟩
abbrev cX8_run : ByteArray := prog_10_method_80_code
def yX8_run : MethodName := ⟨RX8, "run", "()I"⟩
abbrev cX8_undo : ByteArray := prog_10_method_81_code
def yX8_undo : MethodName := ⟨RX8, "undo", "()I"⟩
abbrev cX8_say : ByteArray := prog_10_method_82_code
def yX8_say : MethodName := ⟨RX8, "say", "(J)V"⟩
abbrev cX8_checksum : ByteArray := prog_10_method_83_code
def yX8_checksum : MethodName := ⟨RX8, "checksum", "()J"⟩
def RL : String := "ShaftPlumbLaw"
abbrev cL_set : ByteArray := method_3_code
def yL_set : MethodName := ⟨RL, "set", "(LShaftPlumb;II[J)I"⟩
abbrev cL_info : ByteArray := method_4_code
def yL_info : MethodName := ⟨RL, "info", "(LShaftPlumb;I[J)I"⟩
abbrev cL_hang : ByteArray := method_5_code
def yL_hang : MethodName := ⟨RL, "hang", "(LShaftPlumb;II[J)I"⟩
abbrev cL_swing : ByteArray := method_6_code
def yL_swing : MethodName := ⟨RL, "swing", "(LShaftPlumb;II[J)I"⟩
abbrev cL_still : ByteArray := method_7_code
def yL_still : MethodName := ⟨RL, "still", "(LShaftPlumb;I[J)I"⟩
abbrev cL_wire : ByteArray := method_8_code
def yL_wire : MethodName := ⟨RL, "wire", "(LShaftPlumb;II[J)I"⟩
abbrev cL_join : ByteArray := method_9_code
def yL_join : MethodName := ⟨RL, "join", "(LShaftPlumb;IIIIII[J)I"⟩
abbrev cL_measure : ByteArray := method_10_code
def yL_measure : MethodName := ⟨RL, "measure", "(LShaftPlumb;II[J)I"⟩
abbrev cL_joinOf : ByteArray := method_11_code
def yL_joinOf : MethodName := ⟨RL, "joinOf", "(LShaftPlumb;II[J)I"⟩
abbrev cL_begin : ByteArray := method_12_code
def yL_begin : MethodName := ⟨RL, "begin", "(LShaftPlumb;I[J)I"⟩
abbrev cL_addLeg : ByteArray := method_13_code
def yL_addLeg : MethodName := ⟨RL, "addLeg", "(LShaftPlumb;III[J)I"⟩
abbrev cL_dropLeg : ByteArray := method_14_code
def yL_dropLeg : MethodName := ⟨RL, "dropLeg", "(LShaftPlumb;I[J)I"⟩
abbrev cL_close : ByteArray := method_15_code
def yL_close : MethodName := ⟨RL, "close", "(LShaftPlumb;III[J)I"⟩
abbrev cL_adjust : ByteArray := method_16_code
def yL_adjust : MethodName := ⟨RL, "adjust", "(LShaftPlumb;I[J)I"⟩
abbrev cL_traverse : ByteArray := method_17_code
def yL_traverse : MethodName := ⟨RL, "traverse", "(LShaftPlumb;II[J)I"⟩
abbrev cL_leg : ByteArray := method_18_code
def yL_leg : MethodName := ⟨RL, "leg", "(LShaftPlumb;III[J)I"⟩
abbrev cL_trouble : ByteArray := method_19_code
def yL_trouble : MethodName := ⟨RL, "trouble", "(LShaftPlumb;II[J)I"⟩
abbrev cL_apart : ByteArray := method_20_code
def yL_apart : MethodName := ⟨RL, "apart", "(LShaftPlumb;II[J)I"⟩
abbrev cL_meets : ByteArray := method_21_code
def yL_meets : MethodName := ⟨RL, "meets", "(LShaftPlumb;II[J)I"⟩
abbrev cL_sine : ByteArray := method_22_code
def yL_sine : MethodName := ⟨RL, "sine", "(LShaftPlumb;I[J)I"⟩
abbrev cL_suspect : ByteArray := method_23_code
def yL_suspect : MethodName := ⟨RL, "suspect", "(LShaftPlumb;I[J)I"⟩
abbrev cL_angleFor : ByteArray := method_24_code
def yL_angleFor : MethodName := ⟨RL, "angleFor", "(LShaftPlumb;III[J)I"⟩
abbrev cL_reachBy : ByteArray := method_25_code
def yL_reachBy : MethodName := ⟨RL, "reachBy", "(LShaftPlumb;IIII[J)I"⟩
abbrev cL_type : ByteArray := method_26_code
def yL_type : MethodName := ⟨RL, "type", "(LShaftPlumb;I[J)I"⟩
abbrev cL_run : ByteArray := method_27_code
def yL_run : MethodName := ⟨RL, "run", "(LShaftPlumb;[J)I"⟩
abbrev cL_undo : ByteArray := method_28_code
def yL_undo : MethodName := ⟨RL, "undo", "(LShaftPlumb;[J)I"⟩
abbrev cL_law : ByteArray := code
def yL_law : MethodName := ⟨RL, "law", "([I)Z"⟩
abbrev vwCl : List vw_C := [(RX0, TX0, 3), (RX1, TX1, 12), (RX2, TX2, 7), (RX4, TX4, 5), (RX5, TX5, 15), (RX6, TX6, 7), (RX7, TX7, 3), (RX8, TX8, 10)]
end
section
def GA : List Cond := lw_tbl.filter goodWord
theorem ga_mem {w : Cond} (i : Nat) (h : lw_tbl[i]? = some w) (hg : goodWord w = true) : w ∈ GA := List.mem_filter.mpr ⟨List.mem_of_getElem? h, hg⟩
theorem ga_in {ws : List Cond} (ps : List Nat) (hp : ws = ps.filterMap (fun i => lw_tbl[i]?)) (hg : ws.all goodWord = true) : ∀ w ∈ ws, w ∈ GA := fun w hw => List.mem_filter.mpr ⟨by
  rw [hp] at hw
  obtain ⟨i, -, hi⟩ := List.mem_filterMap.mp hw
  exact List.mem_of_getElem? hi, List.all_eq_true.mp hg w hw⟩
def gN : Nat → Nat := fun c => match c with
  | 0 => 3
  | 1 => 12
  | 2 => 7
  | 3 => 5
  | 4 => 15
  | 5 => 7
  | 6 => 3
  | _ => 10
/-- 0 an int, 1 a long, 2 a reference -/
def gK : Nat → Nat → Nat := fun c j => match c with
  | 0 => [0, 0, 2].getD j 2
  | 1 => [0, 0, 0, 0, 0, 0, 0, 0, 0, 0, 0, 0].getD j 2
  | 2 => [2, 0, 0, 0, 2, 2, 2].getD j 2
  | 3 => [0, 0, 2, 0, 2].getD j 2
  | 4 => [0, 0, 0, 0, 0, 0, 0, 0, 0, 0, 2, 2, 2, 2, 2].getD j 2
  | 5 => [0, 0, 0, 0, 0, 0, 2].getD j 2
  | 6 => [2, 2, 2].getD j 2
  | _ => [2, 2, 0, 0, 2, 0, 0, 0, 2, 1].getD j 2
def gNM : List (String × Nat × MethodName × String) := [(RX2, 33, yX6_init, "ShaftPlumb"), (RX2, 34, yX1_init, "ShaftPlumb"), (RX2, 35, yX5_init, "ShaftPlumb"), (RX7, 25, yX4_init, "ShaftPlumb"), (RX2, 92, yX7_isIn, "ShaftPlumb"), (RX0, 22, yX7_isIn, "ShaftPlumb")]
def gNF : List (String × Nat × String × String × String × String) := [(RX2, 96, "ShaftPlumb", "LEAST_SETTINGS", "[I", "ShaftPlumb"), (RX2, 99, "ShaftPlumb", "GREATEST_SETTINGS", "[I", "ShaftPlumb")]
def gStr : List (String × Nat × String) := [(RX7, 36, "no such setting, or a value out of its range"), (RX7, 56, "what is 0 to 7"), (RX7, 64, "a coordinate is out of range"), (RX7, 72, "there are 6 wires"), (RX7, 278, "no such wire or traverse"), (RX7, 280, "an argument is out of range"), (RX7, 282, "not as things stand"), (RX7, 88, "no such wire"), (RX7, 97, "what is 0 to 5"), (RX7, 108, "the same wire twice, or an argument out of range"), (RX7, 113, "there are 4 joins"), (RX7, 123, "no such join"), (RX7, 125, "the small angle is out of range"), (RX7, 136, "there are 4 traverses"), (RX7, 145, "no such traverse or join"), (RX7, 152, "the first join, or an angle out of range"), (RX7, 157, "the traverse has no legs"), (RX7, 166, "no such traverse"), (RX7, 168, "what is 0 to 9"), (RX7, 174, "no such traverse or leg"), (RX7, 176, "what is 0 to 4"), (RX7, 196, "the angle is out of range"), (RX7, 206, "the size is out of range"), (RX7, 212, "the angle is no bearing, or most is out of range"), (RX7, 218, "the code is out of range"), (RX7, 223, "the text has 90 characters"), (RX7, 235, "the text has a fault"), (RX7, 254, "there is no copy")]
def gCast : List (String × String) := [("java/lang/IllegalArgumentException", "java/lang/IllegalArgumentException"), ("java/lang/IllegalStateException", "java/lang/IllegalStateException"), ("java/lang/IndexOutOfBoundsException", "java/lang/IndexOutOfBoundsException")]
def gNCast : List (String × String) := [("java/lang/IllegalArgumentException", "java/lang/IllegalStateException"), ("java/lang/IllegalArgumentException", "java/lang/IndexOutOfBoundsException"), ("java/lang/IllegalStateException", "java/lang/IllegalArgumentException"), ("java/lang/IllegalStateException", "java/lang/IndexOutOfBoundsException"), ("java/lang/IndexOutOfBoundsException", "java/lang/IllegalArgumentException"), ("java/lang/IndexOutOfBoundsException", "java/lang/IllegalStateException")]
def gAO : List String := ["ShaftPlumb$Wire", "ShaftPlumb$Join", "ShaftPlumb$Traverse", "ShaftPlumb$Mine"]
theorem kL_8 : Cond.classLink RL 8 RX7 ∈ GA := ga_mem 75 (by decide +kernel) rfl
theorem kL_100 : Cond.methodLink RL 100 yX7_init ∈ GA := ga_mem 77 (by decide +kernel) rfl
theorem kX7_1 : Cond.methodLink RX7 1 objectInit ∈ GA := ga_mem 80 (by decide +kernel) rfl
theorem kX7_7 : Cond.classLink RX7 7 RX2 ∈ GA := ga_mem 83 (by decide +kernel) rfl
theorem kX7_9 : Cond.methodLink RX7 9 yX2_init ∈ GA := ga_mem 85 (by decide +kernel) rfl
theorem kX2_3 : Cond.methodLink RX2 3 objectInit ∈ GA := ga_mem 88 (by decide +kernel) rfl
theorem kX2_15 : Cond.classLink RX2 15 RX6 ∈ GA := ga_mem 89 (by decide +kernel) rfl
theorem kX2_21 : Cond.classLink RX2 21 RX1 ∈ GA := ga_mem 91 (by decide +kernel) rfl
theorem kX2_27 : Cond.classLink RX2 27 RX5 ∈ GA := ga_mem 93 (by decide +kernel) rfl
theorem kX6_3 : Cond.methodLink RX6 3 objectInit ∈ GA := ga_mem 99 (by decide +kernel) rfl
theorem kX6_15 : Cond.fieldLink RX6 15 "ShaftPlumb$Wire" "east" "I" ∈ GA := ga_mem 100 (by decide +kernel) rfl
theorem kX1_30 : Cond.fieldLink RX1 30 "ShaftPlumb$Wire" "east" "I" ∈ GA := ga_mem 101 (by decide +kernel) rfl
theorem kX6_19 : Cond.fieldLink RX6 19 "ShaftPlumb$Wire" "north" "I" ∈ GA := ga_mem 102 (by decide +kernel) rfl
theorem kX1_36 : Cond.fieldLink RX1 36 "ShaftPlumb$Wire" "north" "I" ∈ GA := ga_mem 103 (by decide +kernel) rfl
theorem kX6_22 : Cond.fieldLink RX6 22 "ShaftPlumb$Wire" "turnCount" "I" ∈ GA := ga_mem 104 (by decide +kernel) rfl
theorem kX2_113 : Cond.fieldLink RX2 113 "ShaftPlumb$Wire" "turnCount" "I" ∈ GA := ga_mem 105 (by decide +kernel) rfl
theorem kX7_298 : Cond.fieldLink RX7 298 "ShaftPlumb$Wire" "turnCount" "I" ∈ GA := ga_mem 106 (by decide +kernel) rfl
theorem kX1_47 : Cond.fieldLink RX1 47 "ShaftPlumb$Wire" "rest" "I" ∈ GA := ga_mem 107 (by decide +kernel) rfl
theorem kX6_35 : Cond.fieldLink RX6 35 "ShaftPlumb$Wire" "rest" "I" ∈ GA := ga_mem 108 (by decide +kernel) rfl
theorem kX6_41 : Cond.fieldLink RX6 41 "ShaftPlumb$Wire" "spread" "I" ∈ GA := ga_mem 109 (by decide +kernel) rfl
theorem kX1_40 : Cond.fieldLink RX1 40 "ShaftPlumb$Wire" "trouble" "I" ∈ GA := ga_mem 110 (by decide +kernel) rfl
theorem kX6_44 : Cond.fieldLink RX6 44 "ShaftPlumb$Wire" "trouble" "I" ∈ GA := ga_mem 111 (by decide +kernel) rfl
theorem kX6_9 : Cond.fieldLink RX6 9 "ShaftPlumb$Wire" "turns" "[I" ∈ GA := ga_mem 112 (by decide +kernel) rfl
theorem kX1_3 : Cond.methodLink RX1 3 objectInit ∈ GA := ga_mem 133 (by decide +kernel) rfl
theorem kX1_9 : Cond.fieldLink RX1 9 "ShaftPlumb$Join" "near" "I" ∈ GA := ga_mem 134 (by decide +kernel) rfl
theorem kX2_66 : Cond.fieldLink RX2 66 "ShaftPlumb$Join" "near" "I" ∈ GA := ga_mem 135 (by decide +kernel) rfl
theorem kX1_15 : Cond.fieldLink RX1 15 "ShaftPlumb$Join" "far" "I" ∈ GA := ga_mem 136 (by decide +kernel) rfl
theorem kX2_73 : Cond.fieldLink RX2 73 "ShaftPlumb$Join" "far" "I" ∈ GA := ga_mem 137 (by decide +kernel) rfl
theorem kX1_27 : Cond.fieldLink RX1 27 "ShaftPlumb$Join" "g" "I" ∈ GA := ga_mem 138 (by decide +kernel) rfl
theorem kX7_127 : Cond.fieldLink RX7 127 "ShaftPlumb$Join" "g" "I" ∈ GA := ga_mem 139 (by decide +kernel) rfl
theorem kX1_35 : Cond.fieldLink RX1 35 "ShaftPlumb$Join" "east" "I" ∈ GA := ga_mem 140 (by decide +kernel) rfl
theorem kX5_103 : Cond.fieldLink RX5 103 "ShaftPlumb$Join" "east" "I" ∈ GA := ga_mem 141 (by decide +kernel) rfl
theorem kX1_39 : Cond.fieldLink RX1 39 "ShaftPlumb$Join" "north" "I" ∈ GA := ga_mem 142 (by decide +kernel) rfl
theorem kX5_112 : Cond.fieldLink RX5 112 "ShaftPlumb$Join" "north" "I" ∈ GA := ga_mem 143 (by decide +kernel) rfl
theorem kX1_43 : Cond.fieldLink RX1 43 "ShaftPlumb$Join" "cause" "I" ∈ GA := ga_mem 144 (by decide +kernel) rfl
theorem kX2_131 : Cond.fieldLink RX2 131 "ShaftPlumb$Join" "cause" "I" ∈ GA := ga_mem 145 (by decide +kernel) rfl
theorem kX1_46 : Cond.fieldLink RX1 46 "ShaftPlumb$Join" "trouble" "I" ∈ GA := ga_mem 146 (by decide +kernel) rfl
theorem kX5_86 : Cond.fieldLink RX5 86 "ShaftPlumb$Join" "trouble" "I" ∈ GA := ga_mem 147 (by decide +kernel) rfl
theorem kX2_130 : Cond.fieldLink RX2 130 "ShaftPlumb$Join" "trouble" "I" ∈ GA := ga_mem 148 (by decide +kernel) rfl
theorem kX1_66 : Cond.fieldLink RX1 66 "ShaftPlumb$Join" "start" "I" ∈ GA := ga_mem 149 (by decide +kernel) rfl
theorem kX5_94 : Cond.fieldLink RX5 94 "ShaftPlumb$Join" "start" "I" ∈ GA := ga_mem 150 (by decide +kernel) rfl
theorem kX1_18 : Cond.fieldLink RX1 18 "ShaftPlumb$Join" "bearing" "I" ∈ GA := ga_mem 151 (by decide +kernel) rfl
theorem kX1_21 : Cond.fieldLink RX1 21 "ShaftPlumb$Join" "c" "I" ∈ GA := ga_mem 152 (by decide +kernel) rfl
theorem kX1_24 : Cond.fieldLink RX1 24 "ShaftPlumb$Join" "a" "I" ∈ GA := ga_mem 153 (by decide +kernel) rfl
theorem kX1_58 : Cond.fieldLink RX1 58 "ShaftPlumb$Join" "swung" "I" ∈ GA := ga_mem 154 (by decide +kernel) rfl
theorem kX5_3 : Cond.methodLink RX5 3 objectInit ∈ GA := ga_mem 184 (by decide +kernel) rfl
theorem kX5_27 : Cond.fieldLink RX5 27 "ShaftPlumb$Traverse" "firstJoin" "I" ∈ GA := ga_mem 185 (by decide +kernel) rfl
theorem kX2_79 : Cond.fieldLink RX2 79 "ShaftPlumb$Traverse" "firstJoin" "I" ∈ GA := ga_mem 186 (by decide +kernel) rfl
theorem kX7_147 : Cond.fieldLink RX7 147 "ShaftPlumb$Traverse" "firstJoin" "I" ∈ GA := ga_mem 187 (by decide +kernel) rfl
theorem kX5_31 : Cond.fieldLink RX5 31 "ShaftPlumb$Traverse" "lastJoin" "I" ∈ GA := ga_mem 188 (by decide +kernel) rfl
theorem kX2_86 : Cond.fieldLink RX2 86 "ShaftPlumb$Traverse" "lastJoin" "I" ∈ GA := ga_mem 189 (by decide +kernel) rfl
theorem kX5_37 : Cond.fieldLink RX5 37 "ShaftPlumb$Traverse" "legCount" "I" ∈ GA := ga_mem 190 (by decide +kernel) rfl
theorem kX2_110 : Cond.fieldLink RX2 110 "ShaftPlumb$Traverse" "legCount" "I" ∈ GA := ga_mem 191 (by decide +kernel) rfl
theorem kX7_154 : Cond.fieldLink RX7 154 "ShaftPlumb$Traverse" "legCount" "I" ∈ GA := ga_mem 192 (by decide +kernel) rfl
theorem kX5_51 : Cond.fieldLink RX5 51 "ShaftPlumb$Traverse" "trouble" "I" ∈ GA := ga_mem 193 (by decide +kernel) rfl
theorem kX7_163 : Cond.fieldLink RX7 163 "ShaftPlumb$Traverse" "trouble" "I" ∈ GA := ga_mem 194 (by decide +kernel) rfl
theorem kX2_127 : Cond.fieldLink RX2 127 "ShaftPlumb$Traverse" "trouble" "I" ∈ GA := ga_mem 195 (by decide +kernel) rfl
theorem kX5_34 : Cond.fieldLink RX5 34 "ShaftPlumb$Traverse" "closingAngle" "I" ∈ GA := ga_mem 196 (by decide +kernel) rfl
theorem kX5_61 : Cond.fieldLink RX5 61 "ShaftPlumb$Traverse" "gap" "I" ∈ GA := ga_mem 197 (by decide +kernel) rfl
theorem kX5_100 : Cond.fieldLink RX5 100 "ShaftPlumb$Traverse" "eastAtEnd" "I" ∈ GA := ga_mem 198 (by decide +kernel) rfl
theorem kX5_109 : Cond.fieldLink RX5 109 "ShaftPlumb$Traverse" "northAtEnd" "I" ∈ GA := ga_mem 199 (by decide +kernel) rfl
theorem kX5_106 : Cond.fieldLink RX5 106 "ShaftPlumb$Traverse" "missEast" "I" ∈ GA := ga_mem 200 (by decide +kernel) rfl
theorem kX5_115 : Cond.fieldLink RX5 115 "ShaftPlumb$Traverse" "missNorth" "I" ∈ GA := ga_mem 201 (by decide +kernel) rfl
theorem kX5_9 : Cond.fieldLink RX5 9 "ShaftPlumb$Traverse" "angles" "[I" ∈ GA := ga_mem 202 (by decide +kernel) rfl
theorem kX5_15 : Cond.fieldLink RX5 15 "ShaftPlumb$Traverse" "lengths" "[I" ∈ GA := ga_mem 203 (by decide +kernel) rfl
theorem kX5_18 : Cond.fieldLink RX5 18 "ShaftPlumb$Traverse" "bearings" "[I" ∈ GA := ga_mem 204 (by decide +kernel) rfl
theorem kX5_21 : Cond.fieldLink RX5 21 "ShaftPlumb$Traverse" "easts" "[I" ∈ GA := ga_mem 205 (by decide +kernel) rfl
theorem kX5_24 : Cond.fieldLink RX5 24 "ShaftPlumb$Traverse" "norths" "[I" ∈ GA := ga_mem 206 (by decide +kernel) rfl
theorem kX2_9 : Cond.fieldLink RX2 9 "ShaftPlumb$Mine" "settings" "[I" ∈ GA := ga_mem 238 (by decide +kernel) rfl
theorem kX7_190 : Cond.fieldLink RX7 190 "ShaftPlumb$Mine" "settings" "[I" ∈ GA := ga_mem 239 (by decide +kernel) rfl
theorem kX2_42 : Cond.fieldLink RX2 42 "ShaftPlumb$Mine" "wireCount" "I" ∈ GA := ga_mem 240 (by decide +kernel) rfl
theorem kX7_66 : Cond.fieldLink RX7 66 "ShaftPlumb$Mine" "wireCount" "I" ∈ GA := ga_mem 241 (by decide +kernel) rfl
theorem kX2_46 : Cond.fieldLink RX2 46 "ShaftPlumb$Mine" "joinCount" "I" ∈ GA := ga_mem 242 (by decide +kernel) rfl
theorem kX7_110 : Cond.fieldLink RX7 110 "ShaftPlumb$Mine" "joinCount" "I" ∈ GA := ga_mem 243 (by decide +kernel) rfl
theorem kX2_49 : Cond.fieldLink RX2 49 "ShaftPlumb$Mine" "traverseCount" "I" ∈ GA := ga_mem 244 (by decide +kernel) rfl
theorem kX7_133 : Cond.fieldLink RX7 133 "ShaftPlumb$Mine" "traverseCount" "I" ∈ GA := ga_mem 245 (by decide +kernel) rfl
theorem kX2_17 : Cond.fieldLink RX2 17 "ShaftPlumb$Mine" "wires" "[LShaftPlumb$Wire;" ∈ GA := ga_mem 246 (by decide +kernel) rfl
theorem kX2_23 : Cond.fieldLink RX2 23 "ShaftPlumb$Mine" "joins" "[LShaftPlumb$Join;" ∈ GA := ga_mem 247 (by decide +kernel) rfl
theorem kX2_29 : Cond.fieldLink RX2 29 "ShaftPlumb$Mine" "traverses" "[LShaftPlumb$Traverse;" ∈ GA := ga_mem 248 (by decide +kernel) rfl
theorem kX7_16 : Cond.classLink RX7 16 RX0 ∈ GA := ga_mem 264 (by decide +kernel) rfl
theorem kX7_18 : Cond.methodLink RX7 18 yX0_init ∈ GA := ga_mem 266 (by decide +kernel) rfl
theorem kX0_3 : Cond.methodLink RX0 3 objectInit ∈ GA := ga_mem 269 (by decide +kernel) rfl
theorem kX0_9 : Cond.classLink RX0 9 RX2 ∈ GA := ga_mem 270 (by decide +kernel) rfl
theorem kX0_17 : Cond.methodLink RX0 17 yX2_init ∈ GA := ga_mem 272 (by decide +kernel) rfl
theorem kX0_30 : Cond.fieldLink RX0 30 "ShaftPlumb$Copies" "count" "I" ∈ GA := ga_mem 273 (by decide +kernel) rfl
theorem kX7_251 : Cond.fieldLink RX7 251 "ShaftPlumb$Copies" "count" "I" ∈ GA := ga_mem 274 (by decide +kernel) rfl
theorem kX0_18 : Cond.fieldLink RX0 18 "ShaftPlumb$Copies" "latest" "I" ∈ GA := ga_mem 275 (by decide +kernel) rfl
theorem kX0_11 : Cond.fieldLink RX0 11 "ShaftPlumb$Copies" "kept" "[LShaftPlumb$Mine;" ∈ GA := ga_mem 276 (by decide +kernel) rfl
theorem kX7_23 : Cond.classLink RX7 23 RX4 ∈ GA := ga_mem 284 (by decide +kernel) rfl
theorem kX4_3 : Cond.methodLink RX4 3 objectInit ∈ GA := ga_mem 289 (by decide +kernel) rfl
theorem kX4_19 : Cond.fieldLink RX4 19 "ShaftPlumb$Script" "length" "I" ∈ GA := ga_mem 290 (by decide +kernel) rfl
theorem kX7_220 : Cond.fieldLink RX7 220 "ShaftPlumb$Script" "length" "I" ∈ GA := ga_mem 291 (by decide +kernel) rfl
theorem kX4_39 : Cond.fieldLink RX4 39 "ShaftPlumb$Script" "letter" "C" ∈ GA := ga_mem 292 (by decide +kernel) rfl
theorem kX7_240 : Cond.fieldLink RX7 240 "ShaftPlumb$Script" "letter" "C" ∈ GA := ga_mem 293 (by decide +kernel) rfl
theorem kX4_9 : Cond.fieldLink RX4 9 "ShaftPlumb$Script" "numbers" "[I" ∈ GA := ga_mem 294 (by decide +kernel) rfl
theorem kX7_244 : Cond.fieldLink RX7 244 "ShaftPlumb$Script" "numbers" "[I" ∈ GA := ga_mem 295 (by decide +kernel) rfl
theorem kX4_32 : Cond.fieldLink RX4 32 "ShaftPlumb$Script" "numberAt" "I" ∈ GA := ga_mem 296 (by decide +kernel) rfl
theorem kX4_15 : Cond.fieldLink RX4 15 "ShaftPlumb$Script" "text" "[C" ∈ GA := ga_mem 297 (by decide +kernel) rfl
theorem kX7_10 : Cond.fieldLink RX7 10 "ShaftPlumb" "mine" "LShaftPlumb$Mine;" ∈ GA := ga_mem 310 (by decide +kernel) rfl
theorem kX7_19 : Cond.fieldLink RX7 19 "ShaftPlumb" "copies" "LShaftPlumb$Copies;" ∈ GA := ga_mem 311 (by decide +kernel) rfl
theorem kX7_26 : Cond.fieldLink RX7 26 "ShaftPlumb" "script" "LShaftPlumb$Script;" ∈ GA := ga_mem 312 (by decide +kernel) rfl
theorem kL_186 : Cond.methodLink RL 186 yX7_clearText ∈ GA := ga_mem 320 (by decide +kernel) rfl
theorem kX7_229 : Cond.methodLink RX7 229 yX4_empty ∈ GA := ga_mem 324 (by decide +kernel) rfl
theorem kL_190 : Cond.methodLink RL 190 yX7_fault ∈ GA := ga_mem 328 (by decide +kernel) rfl
theorem kX7_232 : Cond.methodLink RX7 232 yX4_firstFault ∈ GA := ga_mem 332 (by decide +kernel) rfl
theorem kX4_23 : Cond.methodLink RX4 23 yX4_numbersOf ∈ GA := ga_mem 336 (by decide +kernel) rfl
theorem kX4_27 : Cond.methodLink RX4 27 yX4_isDigit ∈ GA := ga_mem 339 (by decide +kernel) rfl
theorem kX4_31 : Cond.constant RX4 31 (-2000000000) ∈ GA := ga_mem 342 (by decide +kernel) rfl
theorem kL_201 : Cond.methodLink RL 201 yX7_checksum ∈ GA := ga_mem 343 (by decide +kernel) rfl
theorem kX7_260 : Cond.constantLong RX7 260 (12946) ∈ GA := ga_mem 347 (by decide +kernel) rfl
theorem kX7_262 : Cond.constantLong RX7 262 (31) ∈ GA := ga_mem 348 (by decide +kernel) rfl
theorem kX7_58 : Cond.methodLink RX7 58 yX2_number ∈ GA := ga_mem 349 (by decide +kernel) rfl
theorem kX2_103 : Cond.methodLink RX2 103 yX2_legsOfAll ∈ GA := ga_mem 353 (by decide +kernel) rfl
theorem kX2_107 : Cond.methodLink RX2 107 yX2_turnsOfAll ∈ GA := ga_mem 357 (by decide +kernel) rfl
theorem kX2_102 : Cond.constant RX2 102 (-2000000000) ∈ GA := ga_mem 364 (by decide +kernel) rfl
theorem kX7_264 : Cond.methodLink RX7 264 yX7_checkWires ∈ GA := ga_mem 365 (by decide +kernel) rfl
theorem kX7_82 : Cond.methodLink RX7 82 yX2_wireAt ∈ GA := ga_mem 369 (by decide +kernel) rfl
theorem kX7_99 : Cond.methodLink RX7 99 yX6_number ∈ GA := ga_mem 373 (by decide +kernel) rfl
theorem kX7_268 : Cond.methodLink RX7 268 yX7_checkJoins ∈ GA := ga_mem 377 (by decide +kernel) rfl
theorem kX7_119 : Cond.methodLink RX7 119 yX2_joinAt ∈ GA := ga_mem 381 (by decide +kernel) rfl
theorem kX7_132 : Cond.methodLink RX7 132 yX1_number ∈ GA := ga_mem 385 (by decide +kernel) rfl
theorem kX7_141 : Cond.methodLink RX7 141 yX2_traverseAt ∈ GA := ga_mem 389 (by decide +kernel) rfl
theorem kX7_271 : Cond.methodLink RX7 271 yX7_checkTraverse ∈ GA := ga_mem 393 (by decide +kernel) rfl
theorem kX7_170 : Cond.methodLink RX7 170 yX5_number ∈ GA := ga_mem 397 (by decide +kernel) rfl
theorem kX5_132 : Cond.methodLink RX5 132 yX5_sumOfLengths ∈ GA := ga_mem 401 (by decide +kernel) rfl
theorem kX5_136 : Cond.methodLink RX5 136 yX5_hasGap ∈ GA := ga_mem 405 (by decide +kernel) rfl
theorem kX5_54 : Cond.methodLink RX5 54 yX5_isClosed ∈ GA := ga_mem 409 (by decide +kernel) rfl
theorem kX5_46 : Cond.constant RX5 46 (-2000000000) ∈ GA := ga_mem 413 (by decide +kernel) rfl
theorem kX5_58 : Cond.methodLink RX5 58 yX5_hasEnd ∈ GA := ga_mem 414 (by decide +kernel) rfl
theorem kX5_139 : Cond.methodLink RX5 139 yX5_numberOfClosing ∈ GA := ga_mem 418 (by decide +kernel) rfl
theorem kX5_142 : Cond.methodLink RX5 142 yX3_lengthOf ∈ GA := ga_mem 422 (by decide +kernel) rfl
theorem kX3_27 : Cond.methodLink RX3 27 yX3_squareOf ∈ GA := ga_mem 425 (by decide +kernel) rfl
theorem kX3_31 : Cond.methodLink RX3 31 yX3_rootOf ∈ GA := ga_mem 428 (by decide +kernel) rfl
theorem kX7_178 : Cond.methodLink RX7 178 yX5_numberOfLeg ∈ GA := ga_mem 431 (by decide +kernel) rfl
theorem kX5_82 : Cond.methodLink RX5 82 yX5_hasLeg ∈ GA := ga_mem 435 (by decide +kernel) rfl
theorem kX7_203 : Cond.methodLink RX7 203 yX5_suspectedLeg ∈ GA := ga_mem 439 (by decide +kernel) rfl
theorem kX5_129 : Cond.constant RX5 129 (324000) ∈ GA := ga_mem 443 (by decide +kernel) rfl
theorem kX5_122 : Cond.methodLink RX5 122 yX3_sineOf ∈ GA := ga_mem 444 (by decide +kernel) rfl
theorem kX3_11 : Cond.methodLink RX3 11 yX3_norm ∈ GA := ga_mem 447 (by decide +kernel) rfl
theorem kX3_9 : Cond.constant RX3 9 (1296000) ∈ GA := ga_mem 450 (by decide +kernel) rfl
theorem kX3_10 : Cond.constant RX3 10 (648000) ∈ GA := ga_mem 451 (by decide +kernel) rfl
theorem kX3_17 : Cond.constantLong RX3 17 (648000) ∈ GA := ga_mem 452 (by decide +kernel) rfl
theorem kX3_19 : Cond.constantLong RX3 19 (40000) ∈ GA := ga_mem 453 (by decide +kernel) rfl
theorem kX3_21 : Cond.constantLong RX3 21 (524880000000) ∈ GA := ga_mem 454 (by decide +kernel) rfl
theorem kX3_23 : Cond.methodLink RX3 23 yX3_quotient ∈ GA := ga_mem 455 (by decide +kernel) rfl
theorem kX5_145 : Cond.methodLink RX5 145 Lib.MathLoose.abs_long.x ∈ GA := ga_mem 458 (by decide +kernel) rfl
theorem kX7_181 : Cond.methodLink RX7 181 yX2_troubleOf ∈ GA := ga_mem 461 (by decide +kernel) rfl
theorem kX2_82 : Cond.methodLink RX2 82 yX2_joinAt ∈ GA := ga_mem 465 (by decide +kernel) rfl
theorem kL_104 : Cond.methodLink RL 104 yL_set ∈ GA := ga_mem 466 (by decide +kernel) rfl
theorem kL_13 : Cond.classLink RL 13 "java/lang/IllegalArgumentException" ∈ GA := ga_mem 469 (by decide +kernel) rfl
theorem kL_7 : Cond.methodLink RL 7 yX7_set ∈ GA := ga_mem 470 (by decide +kernel) rfl
theorem kX7_30 : Cond.methodLink RX7 30 yX2_takesSetting ∈ GA := ga_mem 474 (by decide +kernel) rfl
theorem kX7_34 : Cond.classLink RX7 34 "java/lang/IllegalArgumentException" ∈ GA := ga_mem 482 (by decide +kernel) rfl
theorem kX7_38 : Cond.methodLink RX7 38 ⟨"java/lang/IllegalArgumentException", "<init>", "(Ljava/lang/String;)V"⟩ ∈ GA := ga_mem 524 (by decide +kernel) rfl
theorem kX7_41 : Cond.methodLink RX7 41 yX0_keep ∈ GA := ga_mem 550 (by decide +kernel) rfl
theorem kX0_26 : Cond.methodLink RX0 26 yX2_copyFrom ∈ GA := ga_mem 555 (by decide +kernel) rfl
theorem kX2_36 : Cond.methodLink RX2 36 arraycopyName ∈ GA := ga_mem 559 (by decide +kernel) rfl
theorem kX2_52 : Cond.methodLink RX2 52 yX6_copyFrom ∈ GA := ga_mem 562 (by decide +kernel) rfl
theorem kX6_25 : Cond.methodLink RX6 25 arraycopyName ∈ GA := ga_mem 566 (by decide +kernel) rfl
theorem kX2_56 : Cond.methodLink RX2 56 yX1_copyFrom ∈ GA := ga_mem 567 (by decide +kernel) rfl
theorem kX2_59 : Cond.methodLink RX2 59 yX5_copyFrom ∈ GA := ga_mem 571 (by decide +kernel) rfl
theorem kX5_40 : Cond.methodLink RX5 40 arraycopyName ∈ GA := ga_mem 575 (by decide +kernel) rfl
theorem kX0_33 : Cond.methodLink RX0 33 Lib.Math.min.name ∈ GA := ga_mem 576 (by decide +kernel) rfl
theorem kX7_45 : Cond.methodLink RX7 45 yX2_changeSetting ∈ GA := ga_mem 579 (by decide +kernel) rfl
theorem kX7_49 : Cond.methodLink RX7 49 yX2_judge ∈ GA := ga_mem 583 (by decide +kernel) rfl
theorem kX2_62 : Cond.methodLink RX2 62 yX6_judge ∈ GA := ga_mem 587 (by decide +kernel) rfl
theorem kX6_31 : Cond.methodLink RX6 31 yX6_meanOfTurns ∈ GA := ga_mem 591 (by decide +kernel) rfl
theorem kX6_47 : Cond.constant RX6 47 (-2000000000) ∈ GA := ga_mem 595 (by decide +kernel) rfl
theorem kX6_48 : Cond.methodLink RX6 48 yX3_quotient ∈ GA := ga_mem 596 (by decide +kernel) rfl
theorem kX6_38 : Cond.methodLink RX6 38 yX6_greatestDifference ∈ GA := ga_mem 597 (by decide +kernel) rfl
theorem kX6_54 : Cond.methodLink RX6 54 Lib.Math.abs.name ∈ GA := ga_mem 601 (by decide +kernel) rfl
theorem kX6_60 : Cond.methodLink RX6 60 Lib.Math.max.name ∈ GA := ga_mem 604 (by decide +kernel) rfl
theorem kX2_69 : Cond.methodLink RX2 69 yX2_wireAt ∈ GA := ga_mem 607 (by decide +kernel) rfl
theorem kX2_76 : Cond.methodLink RX2 76 yX1_judge ∈ GA := ga_mem 608 (by decide +kernel) rfl
theorem kX1_50 : Cond.constantLong RX1 50 (20626) ∈ GA := ga_mem 612 (by decide +kernel) rfl
theorem kX1_52 : Cond.methodLink RX1 52 yX3_quotient ∈ GA := ga_mem 613 (by decide +kernel) rfl
theorem kX1_61 : Cond.constant RX1 61 (-2000000000) ∈ GA := ga_mem 614 (by decide +kernel) rfl
theorem kX1_62 : Cond.methodLink RX1 62 yX1_startWith ∈ GA := ga_mem 615 (by decide +kernel) rfl
theorem kX1_69 : Cond.methodLink RX1 69 yX3_norm ∈ GA := ga_mem 619 (by decide +kernel) rfl
theorem kX2_89 : Cond.methodLink RX2 89 yX5_judge ∈ GA := ga_mem 620 (by decide +kernel) rfl
theorem kX5_89 : Cond.methodLink RX5 89 yX5_layOut ∈ GA := ga_mem 624 (by decide +kernel) rfl
theorem kX5_93 : Cond.constant RX5 93 (648000) ∈ GA := ga_mem 628 (by decide +kernel) rfl
theorem kX5_79 : Cond.methodLink RX5 79 yX3_norm ∈ GA := ga_mem 629 (by decide +kernel) rfl
theorem kX5_125 : Cond.methodLink RX5 125 yX5_step ∈ GA := ga_mem 630 (by decide +kernel) rfl
theorem kX5_130 : Cond.constantLong RX5 130 (10000) ∈ GA := ga_mem 633 (by decide +kernel) rfl
theorem kX5_64 : Cond.methodLink RX5 64 yX3_quotient ∈ GA := ga_mem 634 (by decide +kernel) rfl
theorem kX5_97 : Cond.methodLink RX5 97 yX3_centre ∈ GA := ga_mem 635 (by decide +kernel) rfl
theorem kX5_74 : Cond.methodLink RX5 74 Lib.Math.abs.name ∈ GA := ga_mem 638 (by decide +kernel) rfl
theorem kX5_118 : Cond.methodLink RX5 118 yX3_rootOf ∈ GA := ga_mem 639 (by decide +kernel) rfl
theorem kL_113 : Cond.methodLink RL 113 yL_info ∈ GA := ga_mem 640 (by decide +kernel) rfl
theorem kL_15 : Cond.methodLink RL 15 yX7_info ∈ GA := ga_mem 643 (by decide +kernel) rfl
theorem kX7_52 : Cond.methodLink RX7 52 yX7_isIn ∈ GA := ga_mem 647 (by decide +kernel) rfl
theorem kL_117 : Cond.methodLink RL 117 yL_hang ∈ GA := ga_mem 649 (by decide +kernel) rfl
theorem kL_22 : Cond.classLink RL 22 "java/lang/IllegalStateException" ∈ GA := ga_mem 652 (by decide +kernel) rfl
theorem kL_19 : Cond.methodLink RL 19 yX7_hang ∈ GA := ga_mem 653 (by decide +kernel) rfl
theorem kX7_62 : Cond.constant RX7 62 (-1000000) ∈ GA := ga_mem 657 (by decide +kernel) rfl
theorem kX7_63 : Cond.constant RX7 63 (1000000) ∈ GA := ga_mem 658 (by decide +kernel) rfl
theorem kX7_70 : Cond.classLink RX7 70 "java/lang/IllegalStateException" ∈ GA := ga_mem 660 (by decide +kernel) rfl
theorem kX7_74 : Cond.methodLink RX7 74 ⟨"java/lang/IllegalStateException", "<init>", "(Ljava/lang/String;)V"⟩ ∈ GA := ga_mem 670 (by decide +kernel) rfl
theorem kX7_75 : Cond.methodLink RX7 75 yX2_addWire ∈ GA := ga_mem 676 (by decide +kernel) rfl
theorem kX2_116 : Cond.methodLink RX2 116 yX6_hangAt ∈ GA := ga_mem 680 (by decide +kernel) rfl
theorem kL_120 : Cond.methodLink RL 120 yL_swing ∈ GA := ga_mem 684 (by decide +kernel) rfl
theorem kL_27 : Cond.classLink RL 27 "java/lang/IndexOutOfBoundsException" ∈ GA := ga_mem 687 (by decide +kernel) rfl
theorem kL_24 : Cond.methodLink RL 24 yX7_swing ∈ GA := ga_mem 688 (by decide +kernel) rfl
theorem kX7_78 : Cond.methodLink RX7 78 yX7_order ∈ GA := ga_mem 692 (by decide +kernel) rfl
theorem kX7_275 : Cond.methodLink RX7 275 yX7_refusalOf ∈ GA := ga_mem 696 (by decide +kernel) rfl
theorem kX7_287 : Cond.methodLink RX7 287 yX7_refusalOfTurn ∈ GA := ga_mem 700 (by decide +kernel) rfl
theorem kX7_291 : Cond.methodLink RX7 291 yX7_refusalOfLeg ∈ GA := ga_mem 703 (by decide +kernel) rfl
theorem kX7_100 : Cond.methodLink RX7 100 yX7_isBearing ∈ GA := ga_mem 706 (by decide +kernel) rfl
theorem kX7_313 : Cond.constant RX7 313 (1295999) ∈ GA := ga_mem 709 (by decide +kernel) rfl
theorem kX7_301 : Cond.constant RX7 301 (200000) ∈ GA := ga_mem 710 (by decide +kernel) rfl
theorem kX7_294 : Cond.methodLink RX7 294 yX5_isClosed ∈ GA := ga_mem 711 (by decide +kernel) rfl
theorem kX7_86 : Cond.classLink RX7 86 "java/lang/IndexOutOfBoundsException" ∈ GA := ga_mem 712 (by decide +kernel) rfl
theorem kX7_90 : Cond.methodLink RX7 90 ⟨"java/lang/IndexOutOfBoundsException", "<init>", "(Ljava/lang/String;)V"⟩ ∈ GA := ga_mem 722 (by decide +kernel) rfl
theorem kX7_284 : Cond.methodLink RX7 284 yX7_carryOut ∈ GA := ga_mem 730 (by decide +kernel) rfl
theorem kX7_189 : Cond.constant RX7 189 (-2000000000) ∈ GA := ga_mem 734 (by decide +kernel) rfl
theorem kX7_302 : Cond.methodLink RX7 302 yX6_addTurn ∈ GA := ga_mem 735 (by decide +kernel) rfl
theorem kX7_305 : Cond.methodLink RX7 305 yX5_append ∈ GA := ga_mem 739 (by decide +kernel) rfl
theorem kX7_307 : Cond.methodLink RX7 307 yX5_shorten ∈ GA := ga_mem 743 (by decide +kernel) rfl
theorem kX5_47 : Cond.methodLink RX5 47 yX5_closeOn ∈ GA := ga_mem 747 (by decide +kernel) rfl
theorem kX7_310 : Cond.methodLink RX7 310 yX5_takeGapAway ∈ GA := ga_mem 751 (by decide +kernel) rfl
theorem kX5_70 : Cond.methodLink RX5 70 yX5_legsBefore ∈ GA := ga_mem 755 (by decide +kernel) rfl
theorem kL_123 : Cond.methodLink RL 123 yL_still ∈ GA := ga_mem 759 (by decide +kernel) rfl
theorem kL_29 : Cond.methodLink RL 29 yX7_still ∈ GA := ga_mem 762 (by decide +kernel) rfl
theorem kX7_91 : Cond.methodLink RX7 91 yX6_dropTurns ∈ GA := ga_mem 767 (by decide +kernel) rfl
theorem kL_126 : Cond.methodLink RL 126 yL_wire ∈ GA := ga_mem 771 (by decide +kernel) rfl
theorem kL_32 : Cond.methodLink RL 32 yX7_wire ∈ GA := ga_mem 774 (by decide +kernel) rfl
theorem kL_129 : Cond.methodLink RL 129 yL_join ∈ GA := ga_mem 779 (by decide +kernel) rfl
theorem kL_35 : Cond.methodLink RL 35 yX7_join ∈ GA := ga_mem 782 (by decide +kernel) rfl
theorem kX7_104 : Cond.constant RX7 104 (50000) ∈ GA := ga_mem 786 (by decide +kernel) rfl
theorem kX7_105 : Cond.methodLink RX7 105 yX7_isSmall ∈ GA := ga_mem 787 (by decide +kernel) rfl
theorem kX7_115 : Cond.methodLink RX7 115 yX2_addJoin ∈ GA := ga_mem 792 (by decide +kernel) rfl
theorem kX2_120 : Cond.methodLink RX2 120 yX1_lay ∈ GA := ga_mem 796 (by decide +kernel) rfl
theorem kL_133 : Cond.methodLink RL 133 yL_measure ∈ GA := ga_mem 800 (by decide +kernel) rfl
theorem kL_39 : Cond.methodLink RL 39 yX7_measure ∈ GA := ga_mem 803 (by decide +kernel) rfl
theorem kL_136 : Cond.methodLink RL 136 yL_joinOf ∈ GA := ga_mem 809 (by decide +kernel) rfl
theorem kL_42 : Cond.methodLink RL 42 yX7_joinOf ∈ GA := ga_mem 812 (by decide +kernel) rfl
theorem kL_139 : Cond.methodLink RL 139 yL_begin ∈ GA := ga_mem 816 (by decide +kernel) rfl
theorem kL_45 : Cond.methodLink RL 45 yX7_begin ∈ GA := ga_mem 819 (by decide +kernel) rfl
theorem kX7_138 : Cond.methodLink RX7 138 yX2_addTraverse ∈ GA := ga_mem 824 (by decide +kernel) rfl
theorem kX2_124 : Cond.methodLink RX2 124 yX5_startAt ∈ GA := ga_mem 828 (by decide +kernel) rfl
theorem kL_142 : Cond.methodLink RL 142 yL_addLeg ∈ GA := ga_mem 832 (by decide +kernel) rfl
theorem kL_48 : Cond.methodLink RL 48 yX7_addLeg ∈ GA := ga_mem 835 (by decide +kernel) rfl
theorem kL_146 : Cond.methodLink RL 146 yL_dropLeg ∈ GA := ga_mem 839 (by decide +kernel) rfl
theorem kL_52 : Cond.methodLink RL 52 yX7_dropLeg ∈ GA := ga_mem 842 (by decide +kernel) rfl
theorem kL_149 : Cond.methodLink RL 149 yL_close ∈ GA := ga_mem 846 (by decide +kernel) rfl
theorem kL_55 : Cond.methodLink RL 55 yX7_close ∈ GA := ga_mem 849 (by decide +kernel) rfl
theorem kX7_159 : Cond.methodLink RX7 159 yX5_closeOn ∈ GA := ga_mem 856 (by decide +kernel) rfl
theorem kL_152 : Cond.methodLink RL 152 yL_adjust ∈ GA := ga_mem 857 (by decide +kernel) rfl
theorem kL_58 : Cond.methodLink RL 58 yX7_adjust ∈ GA := ga_mem 860 (by decide +kernel) rfl
theorem kL_155 : Cond.methodLink RL 155 yL_traverse ∈ GA := ga_mem 864 (by decide +kernel) rfl
theorem kL_61 : Cond.methodLink RL 61 yX7_traverse ∈ GA := ga_mem 867 (by decide +kernel) rfl
theorem kL_158 : Cond.methodLink RL 158 yL_leg ∈ GA := ga_mem 873 (by decide +kernel) rfl
theorem kL_64 : Cond.methodLink RL 64 yX7_leg ∈ GA := ga_mem 876 (by decide +kernel) rfl
theorem kX7_171 : Cond.methodLink RX7 171 yX5_hasLeg ∈ GA := ga_mem 880 (by decide +kernel) rfl
theorem kL_161 : Cond.methodLink RL 161 yL_trouble ∈ GA := ga_mem 883 (by decide +kernel) rfl
theorem kL_67 : Cond.methodLink RL 67 yX7_trouble ∈ GA := ga_mem 886 (by decide +kernel) rfl
theorem kL_164 : Cond.methodLink RL 164 yL_apart ∈ GA := ga_mem 890 (by decide +kernel) rfl
theorem kL_70 : Cond.methodLink RL 70 yX7_apart ∈ GA := ga_mem 893 (by decide +kernel) rfl
theorem kX7_185 : Cond.methodLink RX7 185 yX5_distanceTo ∈ GA := ga_mem 897 (by decide +kernel) rfl
theorem kL_167 : Cond.methodLink RL 167 yL_meets ∈ GA := ga_mem 901 (by decide +kernel) rfl
theorem kL_73 : Cond.methodLink RL 73 yX7_meets ∈ GA := ga_mem 904 (by decide +kernel) rfl
theorem kL_170 : Cond.methodLink RL 170 yL_sine ∈ GA := ga_mem 908 (by decide +kernel) rfl
theorem kL_77 : Cond.methodLink RL 77 yX7_sine ∈ GA := ga_mem 911 (by decide +kernel) rfl
theorem kX7_194 : Cond.constant RX7 194 (-10000000) ∈ GA := ga_mem 915 (by decide +kernel) rfl
theorem kX7_195 : Cond.constant RX7 195 (10000000) ∈ GA := ga_mem 916 (by decide +kernel) rfl
theorem kX7_198 : Cond.methodLink RX7 198 yX3_sineOf ∈ GA := ga_mem 918 (by decide +kernel) rfl
theorem kL_173 : Cond.methodLink RL 173 yL_suspect ∈ GA := ga_mem 919 (by decide +kernel) rfl
theorem kL_80 : Cond.methodLink RL 80 yX7_suspect ∈ GA := ga_mem 922 (by decide +kernel) rfl
theorem kL_176 : Cond.methodLink RL 176 yL_angleFor ∈ GA := ga_mem 926 (by decide +kernel) rfl
theorem kL_83 : Cond.methodLink RL 83 yX7_angleFor ∈ GA := ga_mem 929 (by decide +kernel) rfl
theorem kX7_208 : Cond.methodLink RX7 208 yX5_smallAngleFor ∈ GA := ga_mem 934 (by decide +kernel) rfl
theorem kX5_148 : Cond.methodLink RX5 148 yX1_startWith ∈ GA := ga_mem 938 (by decide +kernel) rfl
theorem kL_179 : Cond.methodLink RL 179 yL_reachBy ∈ GA := ga_mem 939 (by decide +kernel) rfl
theorem kL_86 : Cond.methodLink RL 86 yX7_reachBy ∈ GA := ga_mem 942 (by decide +kernel) rfl
theorem kX7_214 : Cond.methodLink RX7 214 yX5_lengthTowards ∈ GA := ga_mem 947 (by decide +kernel) rfl
theorem kX5_151 : Cond.methodLink RX5 151 yX3_squareOf ∈ GA := ga_mem 951 (by decide +kernel) rfl
theorem kL_183 : Cond.methodLink RL 183 yL_type ∈ GA := ga_mem 952 (by decide +kernel) rfl
theorem kL_90 : Cond.methodLink RL 90 yX7_type ∈ GA := ga_mem 955 (by decide +kernel) rfl
theorem kX7_225 : Cond.methodLink RX7 225 yX4_append ∈ GA := ga_mem 961 (by decide +kernel) rfl
theorem kL_194 : Cond.methodLink RL 194 yL_run ∈ GA := ga_mem 965 (by decide +kernel) rfl
theorem kL_93 : Cond.methodLink RL 93 yX7_run ∈ GA := ga_mem 968 (by decide +kernel) rfl
theorem kX7_237 : Cond.methodLink RX7 237 yX4_endsCommand ∈ GA := ga_mem 973 (by decide +kernel) rfl
theorem kX4_35 : Cond.methodLink RX4 35 yX4_startCommand ∈ GA := ga_mem 977 (by decide +kernel) rfl
theorem kX7_247 : Cond.methodLink RX7 247 yX7_obey ∈ GA := ga_mem 981 (by decide +kernel) rfl
theorem kL_198 : Cond.methodLink RL 198 yL_undo ∈ GA := ga_mem 985 (by decide +kernel) rfl
theorem kL_97 : Cond.methodLink RL 97 yX7_undo ∈ GA := ga_mem 988 (by decide +kernel) rfl
theorem kX7_256 : Cond.methodLink RX7 256 yX0_giveBack ∈ GA := ga_mem 993 (by decide +kernel) rfl
theorem kL_101 : Cond.classLink RL 101 RX8 ∈ GA := ga_mem 997 (by decide +kernel) rfl
theorem kL_103 : Cond.methodLink RL 103 yX8_init ∈ GA := ga_mem 999 (by decide +kernel) rfl
theorem kX8_1 : Cond.methodLink RX8 1 objectInit ∈ GA := ga_mem 1002 (by decide +kernel) rfl
theorem kX8_7 : Cond.fieldLink RX8 7 "ShaftPlumbModel" "s" "[I" ∈ GA := ga_mem 1003 (by decide +kernel) rfl
theorem kX8_13 : Cond.fieldLink RX8 13 "ShaftPlumbModel" "past" "[I" ∈ GA := ga_mem 1004 (by decide +kernel) rfl
theorem kX8_30 : Cond.fieldLink RX8 30 "ShaftPlumbModel" "pasts" "I" ∈ GA := ga_mem 1005 (by decide +kernel) rfl
theorem kX8_26 : Cond.fieldLink RX8 26 "ShaftPlumbModel" "runs" "Z" ∈ GA := ga_mem 1006 (by decide +kernel) rfl
theorem kX8_16 : Cond.fieldLink RX8 16 "ShaftPlumbModel" "text" "[I" ∈ GA := ga_mem 1007 (by decide +kernel) rfl
theorem kX8_241 : Cond.fieldLink RX8 241 "ShaftPlumbModel" "typed" "I" ∈ GA := ga_mem 1008 (by decide +kernel) rfl
theorem kX8_22 : Cond.fieldLink RX8 22 "ShaftPlumbModel" "refused" "I" ∈ GA := ga_mem 1009 (by decide +kernel) rfl
theorem kX8_244 : Cond.fieldLink RX8 244 "ShaftPlumbModel" "spot" "I" ∈ GA := ga_mem 1010 (by decide +kernel) rfl
theorem kX8_19 : Cond.fieldLink RX8 19 "ShaftPlumbModel" "told" "[I" ∈ GA := ga_mem 1011 (by decide +kernel) rfl
theorem kX8_283 : Cond.fieldLink RX8 283 "ShaftPlumbModel" "hash" "J" ∈ GA := ga_mem 1012 (by decide +kernel) rfl
theorem kL_110 : Cond.methodLink RL 110 yX8_thrown ∈ GA := ga_mem 1034 (by decide +kernel) rfl
theorem kL_109 : Cond.methodLink RL 109 yX8_set ∈ GA := ga_mem 1038 (by decide +kernel) rfl
theorem kX8_60 : Cond.constantLong RX8 60 (999) ∈ GA := ga_mem 1042 (by decide +kernel) rfl
theorem kX8_62 : Cond.methodLink RX8 62 yX8_in ∈ GA := ga_mem 1043 (by decide +kernel) rfl
theorem kX8_66 : Cond.constantLong RX8 66 (600) ∈ GA := ga_mem 1046 (by decide +kernel) rfl
theorem kX8_68 : Cond.constantLong RX8 68 (999999) ∈ GA := ga_mem 1047 (by decide +kernel) rfl
theorem kX8_70 : Cond.methodLink RX8 70 yX8_throwsAt ∈ GA := ga_mem 1048 (by decide +kernel) rfl
theorem kX8_74 : Cond.methodLink RX8 74 yX8_saves ∈ GA := ga_mem 1052 (by decide +kernel) rfl
theorem kL_116 : Cond.methodLink RL 116 yX8_info ∈ GA := ga_mem 1056 (by decide +kernel) rfl
theorem kX8_84 : Cond.constantLong RX8 84 (7) ∈ GA := ga_mem 1060 (by decide +kernel) rfl
theorem kX8_86 : Cond.methodLink RX8 86 yX8_infoOf ∈ GA := ga_mem 1061 (by decide +kernel) rfl
theorem kX8_77 : Cond.methodLink RX8 77 yX8_legs ∈ GA := ga_mem 1065 (by decide +kernel) rfl
theorem kX8_33 : Cond.methodLink RX8 33 yX8_of ∈ GA := ga_mem 1069 (by decide +kernel) rfl
theorem kX8_81 : Cond.methodLink RX8 81 yX8_ofWire ∈ GA := ga_mem 1073 (by decide +kernel) rfl
theorem kL_119 : Cond.methodLink RL 119 yX8_hang ∈ GA := ga_mem 1077 (by decide +kernel) rfl
theorem kX8_93 : Cond.methodLink RX8 93 yX8_isFar ∈ GA := ga_mem 1081 (by decide +kernel) rfl
theorem kX8_89 : Cond.constantLong RX8 89 (-1000000) ∈ GA := ga_mem 1084 (by decide +kernel) rfl
theorem kX8_91 : Cond.constantLong RX8 91 (1000000) ∈ GA := ga_mem 1085 (by decide +kernel) rfl
theorem kL_122 : Cond.methodLink RL 122 yX8_swing ∈ GA := ga_mem 1086 (by decide +kernel) rfl
theorem kX8_96 : Cond.methodLink RX8 96 yX8_isWire ∈ GA := ga_mem 1090 (by decide +kernel) rfl
theorem kL_125 : Cond.methodLink RL 125 yX8_still ∈ GA := ga_mem 1094 (by decide +kernel) rfl
theorem kL_128 : Cond.methodLink RL 128 yX8_wire ∈ GA := ga_mem 1098 (by decide +kernel) rfl
theorem kX8_112 : Cond.constantLong RX8 112 (5) ∈ GA := ga_mem 1102 (by decide +kernel) rfl
theorem kX8_114 : Cond.methodLink RX8 114 yX8_wireOf ∈ GA := ga_mem 1103 (by decide +kernel) rfl
theorem kX8_106 : Cond.methodLink RX8 106 yX8_restOf ∈ GA := ga_mem 1107 (by decide +kernel) rfl
theorem kX8_105 : Cond.constant RX8 105 (-2000000000) ∈ GA := ga_mem 1111 (by decide +kernel) rfl
theorem kX8_109 : Cond.methodLink RX8 109 yX8_troubleOfWire ∈ GA := ga_mem 1112 (by decide +kernel) rfl
theorem kX8_102 : Cond.methodLink RX8 102 yX8_driftOf ∈ GA := ga_mem 1116 (by decide +kernel) rfl
theorem kX8_99 : Cond.methodLink RX8 99 yX8_size ∈ GA := ga_mem 1120 (by decide +kernel) rfl
theorem kL_132 : Cond.methodLink RL 132 yX8_join ∈ GA := ga_mem 1123 (by decide +kernel) rfl
theorem kX8_123 : Cond.methodLink RX8 123 yX8_isAngle ∈ GA := ga_mem 1127 (by decide +kernel) rfl
theorem kX8_117 : Cond.constantLong RX8 117 (1295999) ∈ GA := ga_mem 1130 (by decide +kernel) rfl
theorem kX8_126 : Cond.constantLong RX8 126 (100) ∈ GA := ga_mem 1131 (by decide +kernel) rfl
theorem kX8_128 : Cond.constantLong RX8 128 (20000) ∈ GA := ga_mem 1132 (by decide +kernel) rfl
theorem kX8_130 : Cond.constantLong RX8 130 (50000) ∈ GA := ga_mem 1133 (by decide +kernel) rfl
theorem kX8_132 : Cond.methodLink RX8 132 yX8_isSmall ∈ GA := ga_mem 1134 (by decide +kernel) rfl
theorem kX8_119 : Cond.constantLong RX8 119 (-3600) ∈ GA := ga_mem 1137 (by decide +kernel) rfl
theorem kX8_121 : Cond.constantLong RX8 121 (3600) ∈ GA := ga_mem 1138 (by decide +kernel) rfl
theorem kL_135 : Cond.methodLink RL 135 yX8_measure ∈ GA := ga_mem 1139 (by decide +kernel) rfl
theorem kX8_135 : Cond.methodLink RX8 135 yX8_isJoin ∈ GA := ga_mem 1143 (by decide +kernel) rfl
theorem kX8_138 : Cond.methodLink RX8 138 yX8_ofJoin ∈ GA := ga_mem 1147 (by decide +kernel) rfl
theorem kL_138 : Cond.methodLink RL 138 yX8_joinOf ∈ GA := ga_mem 1151 (by decide +kernel) rfl
theorem kX8_150 : Cond.methodLink RX8 150 yX8_joinTold ∈ GA := ga_mem 1155 (by decide +kernel) rfl
theorem kX8_144 : Cond.methodLink RX8 144 yX8_troubleOfJoin ∈ GA := ga_mem 1159 (by decide +kernel) rfl
theorem kX8_141 : Cond.methodLink RX8 141 yX8_wiresOf ∈ GA := ga_mem 1163 (by decide +kernel) rfl
theorem kX8_147 : Cond.methodLink RX8 147 yX8_startOf ∈ GA := ga_mem 1167 (by decide +kernel) rfl
theorem kX8_39 : Cond.methodLink RX8 39 yX8_normed ∈ GA := ga_mem 1171 (by decide +kernel) rfl
theorem kX8_37 : Cond.constantLong RX8 37 (1296000) ∈ GA := ga_mem 1174 (by decide +kernel) rfl
theorem kL_141 : Cond.methodLink RL 141 yX8_begin ∈ GA := ga_mem 1175 (by decide +kernel) rfl
theorem kL_145 : Cond.methodLink RL 145 yX8_addLeg ∈ GA := ga_mem 1179 (by decide +kernel) rfl
theorem kX8_153 : Cond.constantLong RX8 153 (200000) ∈ GA := ga_mem 1183 (by decide +kernel) rfl
theorem kX8_155 : Cond.methodLink RX8 155 yX8_isTraverse ∈ GA := ga_mem 1184 (by decide +kernel) rfl
theorem kX8_158 : Cond.methodLink RX8 158 yX8_isClosed ∈ GA := ga_mem 1188 (by decide +kernel) rfl
theorem kL_148 : Cond.methodLink RL 148 yX8_dropLeg ∈ GA := ga_mem 1192 (by decide +kernel) rfl
theorem kL_151 : Cond.methodLink RL 151 yX8_close ∈ GA := ga_mem 1196 (by decide +kernel) rfl
theorem kX8_176 : Cond.methodLink RX8 176 yX8_troubleOf ∈ GA := ga_mem 1200 (by decide +kernel) rfl
theorem kX8_170 : Cond.methodLink RX8 170 yX8_gap ∈ GA := ga_mem 1204 (by decide +kernel) rfl
theorem kX8_164 : Cond.methodLink RX8 164 yX8_bearing ∈ GA := ga_mem 1208 (by decide +kernel) rfl
theorem kX8_161 : Cond.methodLink RX8 161 yX8_angle ∈ GA := ga_mem 1212 (by decide +kernel) rfl
theorem kX8_45 : Cond.constantLong RX8 45 (648000) ∈ GA := ga_mem 1216 (by decide +kernel) rfl
theorem kX8_167 : Cond.methodLink RX8 167 yX8_centred ∈ GA := ga_mem 1217 (by decide +kernel) rfl
theorem kX8_43 : Cond.constant RX8 43 (648000) ∈ GA := ga_mem 1220 (by decide +kernel) rfl
theorem kX8_44 : Cond.constant RX8 44 (1296000) ∈ GA := ga_mem 1221 (by decide +kernel) rfl
theorem kX8_173 : Cond.methodLink RX8 173 yX8_root ∈ GA := ga_mem 1222 (by decide +kernel) rfl
theorem kX8_56 : Cond.constantLong RX8 56 (100000000) ∈ GA := ga_mem 1225 (by decide +kernel) rfl
theorem kX8_58 : Cond.constantLong RX8 58 (2) ∈ GA := ga_mem 1226 (by decide +kernel) rfl
theorem kL_154 : Cond.methodLink RL 154 yX8_adjust ∈ GA := ga_mem 1227 (by decide +kernel) rfl
theorem kX8_179 : Cond.methodLink RX8 179 yX8_turns ∈ GA := ga_mem 1231 (by decide +kernel) rfl
theorem kX8_183 : Cond.methodLink RX8 183 yX8_length ∈ GA := ga_mem 1235 (by decide +kernel) rfl
theorem kL_157 : Cond.methodLink RL 157 yX8_traverse ∈ GA := ga_mem 1239 (by decide +kernel) rfl
theorem kX8_206 : Cond.constantLong RX8 206 (9) ∈ GA := ga_mem 1243 (by decide +kernel) rfl
theorem kX8_208 : Cond.methodLink RX8 208 yX8_traverseOf ∈ GA := ga_mem 1244 (by decide +kernel) rfl
theorem kX8_195 : Cond.methodLink RX8 195 yX8_isWhole ∈ GA := ga_mem 1248 (by decide +kernel) rfl
theorem kX8_198 : Cond.methodLink RX8 198 yX8_miss ∈ GA := ga_mem 1252 (by decide +kernel) rfl
theorem kX8_191 : Cond.methodLink RX8 191 yX8_end ∈ GA := ga_mem 1256 (by decide +kernel) rfl
theorem kX8_53 : Cond.methodLink RX8 53 yX8_sineOf ∈ GA := ga_mem 1260 (by decide +kernel) rfl
theorem kX8_47 : Cond.constantLong RX8 47 (40000) ∈ GA := ga_mem 1263 (by decide +kernel) rfl
theorem kX8_49 : Cond.constantLong RX8 49 (524880000000) ∈ GA := ga_mem 1264 (by decide +kernel) rfl
theorem kX8_186 : Cond.methodLink RX8 186 yX8_cosineOf ∈ GA := ga_mem 1265 (by decide +kernel) rfl
theorem kX8_51 : Cond.constantLong RX8 51 (324000) ∈ GA := ga_mem 1268 (by decide +kernel) rfl
theorem kX8_189 : Cond.constantLong RX8 189 (10000) ∈ GA := ga_mem 1269 (by decide +kernel) rfl
theorem kX8_202 : Cond.methodLink RX8 202 yX8_far ∈ GA := ga_mem 1270 (by decide +kernel) rfl
theorem kL_160 : Cond.methodLink RL 160 yX8_leg ∈ GA := ga_mem 1273 (by decide +kernel) rfl
theorem kX8_211 : Cond.constantLong RX8 211 (4) ∈ GA := ga_mem 1277 (by decide +kernel) rfl
theorem kX8_213 : Cond.methodLink RX8 213 yX8_legOf ∈ GA := ga_mem 1278 (by decide +kernel) rfl
theorem kL_163 : Cond.methodLink RL 163 yX8_trouble ∈ GA := ga_mem 1282 (by decide +kernel) rfl
theorem kX8_217 : Cond.methodLink RX8 217 yX8_troubleAt ∈ GA := ga_mem 1286 (by decide +kernel) rfl
theorem kL_166 : Cond.methodLink RL 166 yX8_apart ∈ GA := ga_mem 1290 (by decide +kernel) rfl
theorem kX8_223 : Cond.methodLink RX8 223 yX8_between ∈ GA := ga_mem 1294 (by decide +kernel) rfl
theorem kX8_220 : Cond.methodLink RX8 220 yX8_hasEnd ∈ GA := ga_mem 1298 (by decide +kernel) rfl
theorem kL_169 : Cond.methodLink RL 169 yX8_meets ∈ GA := ga_mem 1302 (by decide +kernel) rfl
theorem kL_172 : Cond.methodLink RL 172 yX8_sine ∈ GA := ga_mem 1306 (by decide +kernel) rfl
theorem kX8_226 : Cond.constantLong RX8 226 (-10000000) ∈ GA := ga_mem 1310 (by decide +kernel) rfl
theorem kX8_228 : Cond.constantLong RX8 228 (10000000) ∈ GA := ga_mem 1311 (by decide +kernel) rfl
theorem kL_175 : Cond.methodLink RL 175 yX8_suspect ∈ GA := ga_mem 1312 (by decide +kernel) rfl
theorem kX8_232 : Cond.methodLink RX8 232 yX8_suspectOf ∈ GA := ga_mem 1316 (by decide +kernel) rfl
theorem kX8_230 : Cond.constantLong RX8 230 (-1) ∈ GA := ga_mem 1320 (by decide +kernel) rfl
theorem kL_178 : Cond.methodLink RL 178 yX8_angleFor ∈ GA := ga_mem 1321 (by decide +kernel) rfl
theorem kL_182 : Cond.methodLink RL 182 yX8_reachBy ∈ GA := ga_mem 1325 (by decide +kernel) rfl
theorem kX8_235 : Cond.constantLong RX8 235 (2000) ∈ GA := ga_mem 1329 (by decide +kernel) rfl
theorem kL_185 : Cond.methodLink RL 185 yX8_type ∈ GA := ga_mem 1330 (by decide +kernel) rfl
theorem kX8_237 : Cond.constantLong RX8 237 (32) ∈ GA := ga_mem 1334 (by decide +kernel) rfl
theorem kX8_239 : Cond.constantLong RX8 239 (126) ∈ GA := ga_mem 1335 (by decide +kernel) rfl
theorem kL_189 : Cond.methodLink RL 189 yX8_clearText ∈ GA := ga_mem 1336 (by decide +kernel) rfl
theorem kL_193 : Cond.methodLink RL 193 yX8_fault ∈ GA := ga_mem 1340 (by decide +kernel) rfl
theorem kX8_261 : Cond.methodLink RX8 261 yX8_faultAt ∈ GA := ga_mem 1344 (by decide +kernel) rfl
theorem kX8_257 : Cond.methodLink RX8 257 yX8_reads ∈ GA := ga_mem 1348 (by decide +kernel) rfl
theorem kX8_251 : Cond.methodLink RX8 251 yX8_numbers ∈ GA := ga_mem 1352 (by decide +kernel) rfl
theorem kX8_254 : Cond.methodLink RX8 254 yX8_number ∈ GA := ga_mem 1355 (by decide +kernel) rfl
theorem kX8_247 : Cond.methodLink RX8 247 yX8_isAt ∈ GA := ga_mem 1359 (by decide +kernel) rfl
theorem kL_197 : Cond.methodLink RL 197 yX8_run ∈ GA := ga_mem 1363 (by decide +kernel) rfl
theorem kX8_277 : Cond.methodLink RX8 277 yX8_does ∈ GA := ga_mem 1367 (by decide +kernel) rfl
theorem kX8_265 : Cond.methodLink RX8 265 yX8_swing ∈ GA := ga_mem 1371 (by decide +kernel) rfl
theorem kX8_268 : Cond.methodLink RX8 268 yX8_addLeg ∈ GA := ga_mem 1372 (by decide +kernel) rfl
theorem kX8_271 : Cond.methodLink RX8 271 yX8_dropLeg ∈ GA := ga_mem 1373 (by decide +kernel) rfl
theorem kX8_274 : Cond.methodLink RX8 274 yX8_adjust ∈ GA := ga_mem 1374 (by decide +kernel) rfl
theorem kL_200 : Cond.methodLink RL 200 yX8_undo ∈ GA := ga_mem 1375 (by decide +kernel) rfl
theorem kL_205 : Cond.methodLink RL 205 yX8_checksum ∈ GA := ga_mem 1379 (by decide +kernel) rfl
theorem kX8_287 : Cond.constantLong RX8 287 (12946) ∈ GA := ga_mem 1383 (by decide +kernel) rfl
theorem kX8_289 : Cond.methodLink RX8 289 yX8_say ∈ GA := ga_mem 1384 (by decide +kernel) rfl
theorem kX8_281 : Cond.constantLong RX8 281 (31) ∈ GA := ga_mem 1388 (by decide +kernel) rfl
theorem fX0 : ∀ w ∈ wsX00, w ∈ GA := ga_in [277, 279, 281] (by decide +kernel) (by decide +kernel)
theorem fX1 : ∀ w ∈ wsX10, w ∈ GA := ga_in [155, 157, 159, 161, 163, 165, 167, 169, 171, 173, 175, 177] (by decide +kernel) (by decide +kernel)
theorem fX2 : ∀ w ∈ wsX20, w ∈ GA := ga_in [249, 251, 253, 255, 257, 259, 261] (by decide +kernel) (by decide +kernel)
theorem fX4 : ∀ w ∈ wsX40, w ∈ GA := ga_in [298, 300, 302, 304, 306] (by decide +kernel) (by decide +kernel)
theorem fX5 : ∀ w ∈ wsX50, w ∈ GA := ga_in [207, 209, 211, 213, 215, 217, 219, 221, 223, 225, 227, 229, 231, 233, 235] (by decide +kernel) (by decide +kernel)
theorem fX6 : ∀ w ∈ wsX60, w ∈ GA := ga_in [113, 115, 117, 119, 121, 123, 125] (by decide +kernel) (by decide +kernel)
theorem fX7 : ∀ w ∈ wsX70, w ∈ GA := ga_in [313, 315, 317] (by decide +kernel) (by decide +kernel)
theorem fX8 : ∀ w ∈ wsX80, w ∈ GA := ga_in [1013, 1015, 1017, 1019, 1021, 1023, 1025, 1027, 1029, 1031] (by decide +kernel) (by decide +kernel)
theorem nX0 : Cond.initialized RX0 ∈ GA := ga_mem 63 (by decide +kernel) rfl
theorem mX0 : Cond.instantiable RX0 3 ∈ GA := ga_mem 265 (by decide +kernel) rfl
theorem nX1 : Cond.initialized RX1 ∈ GA := ga_mem 61 (by decide +kernel) rfl
theorem mX1 : Cond.instantiable RX1 12 ∈ GA := ga_mem 129 (by decide +kernel) rfl
theorem nX2 : Cond.initialized RX2 ∈ GA := ga_mem 59 (by decide +kernel) rfl
theorem mX2 : Cond.instantiable RX2 7 ∈ GA := ga_mem 84 (by decide +kernel) rfl
theorem nX3 : Cond.initialized RX3 ∈ GA := ga_mem 72 (by decide +kernel) rfl
theorem nX4 : Cond.initialized RX4 ∈ GA := ga_mem 64 (by decide +kernel) rfl
theorem mX4 : Cond.instantiable RX4 5 ∈ GA := ga_mem 285 (by decide +kernel) rfl
theorem nX5 : Cond.initialized RX5 ∈ GA := ga_mem 62 (by decide +kernel) rfl
theorem mX5 : Cond.instantiable RX5 15 ∈ GA := ga_mem 180 (by decide +kernel) rfl
theorem nX6 : Cond.initialized RX6 ∈ GA := ga_mem 60 (by decide +kernel) rfl
theorem mX6 : Cond.instantiable RX6 7 ∈ GA := ga_mem 95 (by decide +kernel) rfl
theorem nX7 : Cond.initialized RX7 ∈ GA := ga_mem 58 (by decide +kernel) rfl
theorem mX7 : Cond.instantiable RX7 3 ∈ GA := ga_mem 76 (by decide +kernel) rfl
theorem nX8 : Cond.initialized RX8 ∈ GA := ga_mem 65 (by decide +kernel) rfl
theorem mX8 : Cond.instantiable RX8 10 ∈ GA := ga_mem 998 (by decide +kernel) rfl
theorem nL : Cond.initialized RL ∈ GA := ga_mem 57 (by decide +kernel) rfl
theorem qX0_init : ∀ w ∈ [Cond.code yX0_init cX0_init 2 none, Cond.initialized RX0, Cond.instanceMethod yX0_init], w ∈ GA := ga_in [268, 63, 267] (by decide +kernel) (by decide +kernel)
theorem qX0_keep : ∀ w ∈ [Cond.code yX0_keep cX0_keep 2 none, Cond.initialized RX0, Cond.instanceMethod yX0_keep, Cond.selects RX0 yX0_keep yX0_keep], w ∈ GA := ga_in [553, 63, 551, 552] (by decide +kernel) (by decide +kernel)
theorem qX0_giveBack : ∀ w ∈ [Cond.code yX0_giveBack cX0_giveBack 2 (some .int), Cond.initialized RX0, Cond.instanceMethod yX0_giveBack, Cond.selects RX0 yX0_giveBack yX0_giveBack], w ∈ GA := ga_in [996, 63, 994, 995] (by decide +kernel) (by decide +kernel)
theorem qX1_init : ∀ w ∈ [Cond.code yX1_init cX1_init 1 none, Cond.initialized RX1, Cond.instanceMethod yX1_init], w ∈ GA := ga_in [132, 61, 131] (by decide +kernel) (by decide +kernel)
theorem qX1_copyFrom : ∀ w ∈ [Cond.code yX1_copyFrom cX1_copyFrom 2 none, Cond.initialized RX1, Cond.instanceMethod yX1_copyFrom, Cond.selects RX1 yX1_copyFrom yX1_copyFrom], w ∈ GA := ga_in [570, 61, 568, 569] (by decide +kernel) (by decide +kernel)
theorem qX1_lay : ∀ w ∈ [Cond.code yX1_lay cX1_lay 7 none, Cond.initialized RX1, Cond.instanceMethod yX1_lay, Cond.selects RX1 yX1_lay yX1_lay], w ∈ GA := ga_in [799, 61, 797, 798] (by decide +kernel) (by decide +kernel)
theorem qX1_judge : ∀ w ∈ [Cond.code yX1_judge cX1_judge 3 none, Cond.initialized RX1, Cond.instanceMethod yX1_judge, Cond.selects RX1 yX1_judge yX1_judge], w ∈ GA := ga_in [611, 61, 609, 610] (by decide +kernel) (by decide +kernel)
theorem qX1_startWith : ∀ w ∈ [Cond.code yX1_startWith cX1_startWith 2 (some .int), Cond.initialized RX1, Cond.instanceMethod yX1_startWith, Cond.selects RX1 yX1_startWith yX1_startWith], w ∈ GA := ga_in [618, 61, 616, 617] (by decide +kernel) (by decide +kernel)
theorem qX1_number : ∀ w ∈ [Cond.code yX1_number cX1_number 2 (some .int), Cond.initialized RX1, Cond.instanceMethod yX1_number, Cond.selects RX1 yX1_number yX1_number], w ∈ GA := ga_in [388, 61, 386, 387] (by decide +kernel) (by decide +kernel)
theorem qX2_init : ∀ w ∈ [Cond.code yX2_init cX2_init 2 none, Cond.initialized RX2, Cond.instanceMethod yX2_init], w ∈ GA := ga_in [87, 59, 86] (by decide +kernel) (by decide +kernel)
theorem qX2_copyFrom : ∀ w ∈ [Cond.code yX2_copyFrom cX2_copyFrom 3 none, Cond.initialized RX2, Cond.instanceMethod yX2_copyFrom, Cond.selects RX2 yX2_copyFrom yX2_copyFrom], w ∈ GA := ga_in [558, 59, 556, 557] (by decide +kernel) (by decide +kernel)
theorem qX2_judge : ∀ w ∈ [Cond.code yX2_judge cX2_judge 4 none, Cond.initialized RX2, Cond.instanceMethod yX2_judge, Cond.selects RX2 yX2_judge yX2_judge], w ∈ GA := ga_in [586, 59, 584, 585] (by decide +kernel) (by decide +kernel)
theorem qX2_takesSetting : ∀ w ∈ [Cond.code yX2_takesSetting cX2_takesSetting 3 (some .boolean), Cond.initialized RX2, Cond.instanceMethod yX2_takesSetting, Cond.selects RX2 yX2_takesSetting yX2_takesSetting], w ∈ GA := ga_in [477, 59, 475, 476] (by decide +kernel) (by decide +kernel)
theorem qX2_changeSetting : ∀ w ∈ [Cond.code yX2_changeSetting cX2_changeSetting 4 (some .int), Cond.initialized RX2, Cond.instanceMethod yX2_changeSetting, Cond.selects RX2 yX2_changeSetting yX2_changeSetting], w ∈ GA := ga_in [582, 59, 580, 581] (by decide +kernel) (by decide +kernel)
theorem qX2_number : ∀ w ∈ [Cond.code yX2_number cX2_number 2 (some .int), Cond.initialized RX2, Cond.instanceMethod yX2_number, Cond.selects RX2 yX2_number yX2_number], w ∈ GA := ga_in [352, 59, 350, 351] (by decide +kernel) (by decide +kernel)
theorem qX2_legsOfAll : ∀ w ∈ [Cond.code yX2_legsOfAll cX2_legsOfAll 3 (some .int), Cond.initialized RX2, Cond.instanceMethod yX2_legsOfAll, Cond.selects RX2 yX2_legsOfAll yX2_legsOfAll], w ∈ GA := ga_in [356, 59, 355, 0] (by decide +kernel) (by decide +kernel)
theorem qX2_turnsOfAll : ∀ w ∈ [Cond.code yX2_turnsOfAll cX2_turnsOfAll 3 (some .int), Cond.initialized RX2, Cond.instanceMethod yX2_turnsOfAll, Cond.selects RX2 yX2_turnsOfAll yX2_turnsOfAll], w ∈ GA := ga_in [360, 59, 359, 1] (by decide +kernel) (by decide +kernel)
theorem qX2_wireAt : ∀ w ∈ [Cond.code yX2_wireAt cX2_wireAt 2 (some (.object "ShaftPlumb$Wire")), Cond.initialized RX2, Cond.instanceMethod yX2_wireAt, Cond.selects RX2 yX2_wireAt yX2_wireAt], w ∈ GA := ga_in [372, 59, 370, 371] (by decide +kernel) (by decide +kernel)
theorem qX2_joinAt : ∀ w ∈ [Cond.code yX2_joinAt cX2_joinAt 2 (some (.object "ShaftPlumb$Join")), Cond.initialized RX2, Cond.instanceMethod yX2_joinAt, Cond.selects RX2 yX2_joinAt yX2_joinAt], w ∈ GA := ga_in [384, 59, 382, 383] (by decide +kernel) (by decide +kernel)
theorem qX2_traverseAt : ∀ w ∈ [Cond.code yX2_traverseAt cX2_traverseAt 2 (some (.object "ShaftPlumb$Traverse")), Cond.initialized RX2, Cond.instanceMethod yX2_traverseAt, Cond.selects RX2 yX2_traverseAt yX2_traverseAt], w ∈ GA := ga_in [392, 59, 390, 391] (by decide +kernel) (by decide +kernel)
theorem qX2_addWire : ∀ w ∈ [Cond.code yX2_addWire cX2_addWire 3 (some .int), Cond.initialized RX2, Cond.instanceMethod yX2_addWire, Cond.selects RX2 yX2_addWire yX2_addWire], w ∈ GA := ga_in [679, 59, 677, 678] (by decide +kernel) (by decide +kernel)
theorem qX2_addJoin : ∀ w ∈ [Cond.code yX2_addJoin cX2_addJoin 7 (some .int), Cond.initialized RX2, Cond.instanceMethod yX2_addJoin, Cond.selects RX2 yX2_addJoin yX2_addJoin], w ∈ GA := ga_in [795, 59, 793, 794] (by decide +kernel) (by decide +kernel)
theorem qX2_addTraverse : ∀ w ∈ [Cond.code yX2_addTraverse cX2_addTraverse 2 (some .int), Cond.initialized RX2, Cond.instanceMethod yX2_addTraverse, Cond.selects RX2 yX2_addTraverse yX2_addTraverse], w ∈ GA := ga_in [827, 59, 825, 826] (by decide +kernel) (by decide +kernel)
theorem qX2_troubleOf : ∀ w ∈ [Cond.code yX2_troubleOf cX2_troubleOf 4 (some .int), Cond.initialized RX2, Cond.instanceMethod yX2_troubleOf, Cond.selects RX2 yX2_troubleOf yX2_troubleOf], w ∈ GA := ga_in [464, 59, 462, 463] (by decide +kernel) (by decide +kernel)
theorem qX3_norm : ∀ w ∈ [Cond.code yX3_norm cX3_norm 2 (some .int), Cond.initialized RX3, Cond.static yX3_norm], w ∈ GA := ga_in [449, 72, 448] (by decide +kernel) (by decide +kernel)
theorem qX3_centre : ∀ w ∈ [Cond.code yX3_centre cX3_centre 1 (some .int), Cond.initialized RX3, Cond.static yX3_centre], w ∈ GA := ga_in [637, 72, 636] (by decide +kernel) (by decide +kernel)
theorem qX3_sineOf : ∀ w ∈ [Cond.code yX3_sineOf cX3_sineOf 7 (some .int), Cond.initialized RX3, Cond.static yX3_sineOf], w ∈ GA := ga_in [446, 72, 445] (by decide +kernel) (by decide +kernel)
theorem qX3_quotient : ∀ w ∈ [Cond.code yX3_quotient cX3_quotient 4 (some .int), Cond.initialized RX3, Cond.static yX3_quotient], w ∈ GA := ga_in [457, 72, 456] (by decide +kernel) (by decide +kernel)
theorem qX3_lengthOf : ∀ w ∈ [Cond.code yX3_lengthOf cX3_lengthOf 4 (some .int), Cond.initialized RX3, Cond.static yX3_lengthOf], w ∈ GA := ga_in [424, 72, 423] (by decide +kernel) (by decide +kernel)
theorem qX3_squareOf : ∀ w ∈ [Cond.code yX3_squareOf cX3_squareOf 4 (some .long), Cond.initialized RX3, Cond.static yX3_squareOf], w ∈ GA := ga_in [427, 72, 426] (by decide +kernel) (by decide +kernel)
theorem qX3_rootOf : ∀ w ∈ [Cond.code yX3_rootOf cX3_rootOf 7 (some .int), Cond.initialized RX3, Cond.static yX3_rootOf], w ∈ GA := ga_in [430, 72, 429] (by decide +kernel) (by decide +kernel)
theorem qX4_init : ∀ w ∈ [Cond.code yX4_init cX4_init 1 none, Cond.initialized RX4, Cond.instanceMethod yX4_init], w ∈ GA := ga_in [288, 64, 287] (by decide +kernel) (by decide +kernel)
theorem qX4_append : ∀ w ∈ [Cond.code yX4_append cX4_append 2 (some .int), Cond.initialized RX4, Cond.instanceMethod yX4_append, Cond.selects RX4 yX4_append yX4_append], w ∈ GA := ga_in [964, 64, 962, 963] (by decide +kernel) (by decide +kernel)
theorem qX4_empty : ∀ w ∈ [Cond.code yX4_empty cX4_empty 2 (some .int), Cond.initialized RX4, Cond.instanceMethod yX4_empty, Cond.selects RX4 yX4_empty yX4_empty], w ∈ GA := ga_in [327, 64, 325, 326] (by decide +kernel) (by decide +kernel)
theorem qX4_firstFault : ∀ w ∈ [Cond.code yX4_firstFault cX4_firstFault 5 (some .int), Cond.initialized RX4, Cond.instanceMethod yX4_firstFault, Cond.selects RX4 yX4_firstFault yX4_firstFault], w ∈ GA := ga_in [335, 64, 333, 334] (by decide +kernel) (by decide +kernel)
theorem qX4_endsCommand : ∀ w ∈ [Cond.code yX4_endsCommand cX4_endsCommand 3 (some .boolean), Cond.initialized RX4, Cond.instanceMethod yX4_endsCommand, Cond.selects RX4 yX4_endsCommand yX4_endsCommand], w ∈ GA := ga_in [976, 64, 974, 975] (by decide +kernel) (by decide +kernel)
theorem qX4_startCommand : ∀ w ∈ [Cond.code yX4_startCommand cX4_startCommand 3 none, Cond.initialized RX4, Cond.instanceMethod yX4_startCommand, Cond.selects RX4 yX4_startCommand yX4_startCommand], w ∈ GA := ga_in [980, 64, 979, 15] (by decide +kernel) (by decide +kernel)
theorem qX4_numbersOf : ∀ w ∈ [Cond.code yX4_numbersOf cX4_numbersOf 1 (some .int), Cond.initialized RX4, Cond.static yX4_numbersOf], w ∈ GA := ga_in [338, 64, 337] (by decide +kernel) (by decide +kernel)
theorem qX4_isDigit : ∀ w ∈ [Cond.code yX4_isDigit cX4_isDigit 1 (some .boolean), Cond.initialized RX4, Cond.static yX4_isDigit], w ∈ GA := ga_in [341, 64, 340] (by decide +kernel) (by decide +kernel)
theorem qX5_init : ∀ w ∈ [Cond.code yX5_init cX5_init 1 none, Cond.initialized RX5, Cond.instanceMethod yX5_init], w ∈ GA := ga_in [183, 62, 182] (by decide +kernel) (by decide +kernel)
theorem qX5_copyFrom : ∀ w ∈ [Cond.code yX5_copyFrom cX5_copyFrom 2 none, Cond.initialized RX5, Cond.instanceMethod yX5_copyFrom, Cond.selects RX5 yX5_copyFrom yX5_copyFrom], w ∈ GA := ga_in [574, 62, 572, 573] (by decide +kernel) (by decide +kernel)
theorem qX5_startAt : ∀ w ∈ [Cond.code yX5_startAt cX5_startAt 2 none, Cond.initialized RX5, Cond.instanceMethod yX5_startAt, Cond.selects RX5 yX5_startAt yX5_startAt], w ∈ GA := ga_in [831, 62, 829, 830] (by decide +kernel) (by decide +kernel)
theorem qX5_closeOn : ∀ w ∈ [Cond.code yX5_closeOn cX5_closeOn 3 none, Cond.initialized RX5, Cond.instanceMethod yX5_closeOn, Cond.selects RX5 yX5_closeOn yX5_closeOn], w ∈ GA := ga_in [750, 62, 748, 749] (by decide +kernel) (by decide +kernel)
theorem qX5_isClosed : ∀ w ∈ [Cond.code yX5_isClosed cX5_isClosed 1 (some .boolean), Cond.initialized RX5, Cond.instanceMethod yX5_isClosed, Cond.selects RX5 yX5_isClosed yX5_isClosed], w ∈ GA := ga_in [412, 62, 410, 411] (by decide +kernel) (by decide +kernel)
theorem qX5_hasLeg : ∀ w ∈ [Cond.code yX5_hasLeg cX5_hasLeg 2 (some .boolean), Cond.initialized RX5, Cond.instanceMethod yX5_hasLeg, Cond.selects RX5 yX5_hasLeg yX5_hasLeg], w ∈ GA := ga_in [438, 62, 436, 437] (by decide +kernel) (by decide +kernel)
theorem qX5_hasEnd : ∀ w ∈ [Cond.code yX5_hasEnd cX5_hasEnd 1 (some .boolean), Cond.initialized RX5, Cond.instanceMethod yX5_hasEnd, Cond.selects RX5 yX5_hasEnd yX5_hasEnd], w ∈ GA := ga_in [417, 62, 415, 416] (by decide +kernel) (by decide +kernel)
theorem qX5_hasGap : ∀ w ∈ [Cond.code yX5_hasGap cX5_hasGap 1 (some .boolean), Cond.initialized RX5, Cond.instanceMethod yX5_hasGap, Cond.selects RX5 yX5_hasGap yX5_hasGap], w ∈ GA := ga_in [408, 62, 406, 407] (by decide +kernel) (by decide +kernel)
theorem qX5_append : ∀ w ∈ [Cond.code yX5_append cX5_append 3 (some .int), Cond.initialized RX5, Cond.instanceMethod yX5_append, Cond.selects RX5 yX5_append yX5_append], w ∈ GA := ga_in [742, 62, 740, 741] (by decide +kernel) (by decide +kernel)
theorem qX5_shorten : ∀ w ∈ [Cond.code yX5_shorten cX5_shorten 1 (some .int), Cond.initialized RX5, Cond.instanceMethod yX5_shorten, Cond.selects RX5 yX5_shorten yX5_shorten], w ∈ GA := ga_in [746, 62, 744, 745] (by decide +kernel) (by decide +kernel)
theorem qX5_takeGapAway : ∀ w ∈ [Cond.code yX5_takeGapAway cX5_takeGapAway 7 (some .int), Cond.initialized RX5, Cond.instanceMethod yX5_takeGapAway, Cond.selects RX5 yX5_takeGapAway yX5_takeGapAway], w ∈ GA := ga_in [754, 62, 752, 753] (by decide +kernel) (by decide +kernel)
theorem qX5_legsBefore : ∀ w ∈ [Cond.code yX5_legsBefore cX5_legsBefore 4 (some .int), Cond.initialized RX5, Cond.instanceMethod yX5_legsBefore, Cond.selects RX5 yX5_legsBefore yX5_legsBefore], w ∈ GA := ga_in [758, 62, 757, 14] (by decide +kernel) (by decide +kernel)
theorem qX5_judge : ∀ w ∈ [Cond.code yX5_judge cX5_judge 5 none, Cond.initialized RX5, Cond.instanceMethod yX5_judge, Cond.selects RX5 yX5_judge yX5_judge], w ∈ GA := ga_in [623, 62, 621, 622] (by decide +kernel) (by decide +kernel)
theorem qX5_layOut : ∀ w ∈ [Cond.code yX5_layOut cX5_layOut 4 (some .int), Cond.initialized RX5, Cond.instanceMethod yX5_layOut, Cond.selects RX5 yX5_layOut yX5_layOut], w ∈ GA := ga_in [627, 62, 626, 10] (by decide +kernel) (by decide +kernel)
theorem qX5_step : ∀ w ∈ [Cond.code yX5_step cX5_step 3 (some .int), Cond.initialized RX5, Cond.static yX5_step], w ∈ GA := ga_in [632, 62, 631] (by decide +kernel) (by decide +kernel)
theorem qX5_number : ∀ w ∈ [Cond.code yX5_number cX5_number 2 (some .int), Cond.initialized RX5, Cond.instanceMethod yX5_number, Cond.selects RX5 yX5_number yX5_number], w ∈ GA := ga_in [400, 62, 398, 399] (by decide +kernel) (by decide +kernel)
theorem qX5_numberOfClosing : ∀ w ∈ [Cond.code yX5_numberOfClosing cX5_numberOfClosing 2 (some .int), Cond.initialized RX5, Cond.instanceMethod yX5_numberOfClosing, Cond.selects RX5 yX5_numberOfClosing yX5_numberOfClosing], w ∈ GA := ga_in [421, 62, 420, 6] (by decide +kernel) (by decide +kernel)
theorem qX5_sumOfLengths : ∀ w ∈ [Cond.code yX5_sumOfLengths cX5_sumOfLengths 3 (some .int), Cond.initialized RX5, Cond.instanceMethod yX5_sumOfLengths, Cond.selects RX5 yX5_sumOfLengths yX5_sumOfLengths], w ∈ GA := ga_in [404, 62, 403, 5] (by decide +kernel) (by decide +kernel)
theorem qX5_numberOfLeg : ∀ w ∈ [Cond.code yX5_numberOfLeg cX5_numberOfLeg 3 (some .int), Cond.initialized RX5, Cond.instanceMethod yX5_numberOfLeg, Cond.selects RX5 yX5_numberOfLeg yX5_numberOfLeg], w ∈ GA := ga_in [434, 62, 432, 433] (by decide +kernel) (by decide +kernel)
theorem qX5_suspectedLeg : ∀ w ∈ [Cond.code yX5_suspectedLeg cX5_suspectedLeg 9 (some .int), Cond.initialized RX5, Cond.instanceMethod yX5_suspectedLeg, Cond.selects RX5 yX5_suspectedLeg yX5_suspectedLeg], w ∈ GA := ga_in [442, 62, 440, 441] (by decide +kernel) (by decide +kernel)
theorem qX5_distanceTo : ∀ w ∈ [Cond.code yX5_distanceTo cX5_distanceTo 2 (some .int), Cond.initialized RX5, Cond.instanceMethod yX5_distanceTo, Cond.selects RX5 yX5_distanceTo yX5_distanceTo], w ∈ GA := ga_in [900, 62, 898, 899] (by decide +kernel) (by decide +kernel)
theorem qX5_smallAngleFor : ∀ w ∈ [Cond.code yX5_smallAngleFor cX5_smallAngleFor 7 (some .int), Cond.initialized RX5, Cond.instanceMethod yX5_smallAngleFor, Cond.selects RX5 yX5_smallAngleFor yX5_smallAngleFor], w ∈ GA := ga_in [937, 62, 935, 936] (by decide +kernel) (by decide +kernel)
theorem qX5_lengthTowards : ∀ w ∈ [Cond.code yX5_lengthTowards cX5_lengthTowards 14 (some .int), Cond.initialized RX5, Cond.instanceMethod yX5_lengthTowards, Cond.selects RX5 yX5_lengthTowards yX5_lengthTowards], w ∈ GA := ga_in [950, 62, 948, 949] (by decide +kernel) (by decide +kernel)
theorem qX6_init : ∀ w ∈ [Cond.code yX6_init cX6_init 1 none, Cond.initialized RX6, Cond.instanceMethod yX6_init], w ∈ GA := ga_in [98, 60, 97] (by decide +kernel) (by decide +kernel)
theorem qX6_copyFrom : ∀ w ∈ [Cond.code yX6_copyFrom cX6_copyFrom 2 none, Cond.initialized RX6, Cond.instanceMethod yX6_copyFrom, Cond.selects RX6 yX6_copyFrom yX6_copyFrom], w ∈ GA := ga_in [565, 60, 563, 564] (by decide +kernel) (by decide +kernel)
theorem qX6_hangAt : ∀ w ∈ [Cond.code yX6_hangAt cX6_hangAt 3 none, Cond.initialized RX6, Cond.instanceMethod yX6_hangAt, Cond.selects RX6 yX6_hangAt yX6_hangAt], w ∈ GA := ga_in [683, 60, 681, 682] (by decide +kernel) (by decide +kernel)
theorem qX6_addTurn : ∀ w ∈ [Cond.code yX6_addTurn cX6_addTurn 2 (some .int), Cond.initialized RX6, Cond.instanceMethod yX6_addTurn, Cond.selects RX6 yX6_addTurn yX6_addTurn], w ∈ GA := ga_in [738, 60, 736, 737] (by decide +kernel) (by decide +kernel)
theorem qX6_dropTurns : ∀ w ∈ [Cond.code yX6_dropTurns cX6_dropTurns 2 (some .int), Cond.initialized RX6, Cond.instanceMethod yX6_dropTurns, Cond.selects RX6 yX6_dropTurns yX6_dropTurns], w ∈ GA := ga_in [770, 60, 768, 769] (by decide +kernel) (by decide +kernel)
theorem qX6_judge : ∀ w ∈ [Cond.code yX6_judge cX6_judge 2 none, Cond.initialized RX6, Cond.instanceMethod yX6_judge, Cond.selects RX6 yX6_judge yX6_judge], w ∈ GA := ga_in [590, 60, 588, 589] (by decide +kernel) (by decide +kernel)
theorem qX6_number : ∀ w ∈ [Cond.code yX6_number cX6_number 2 (some .int), Cond.initialized RX6, Cond.instanceMethod yX6_number, Cond.selects RX6 yX6_number yX6_number], w ∈ GA := ga_in [376, 60, 374, 375] (by decide +kernel) (by decide +kernel)
theorem qX6_meanOfTurns : ∀ w ∈ [Cond.code yX6_meanOfTurns cX6_meanOfTurns 3 (some .int), Cond.initialized RX6, Cond.instanceMethod yX6_meanOfTurns, Cond.selects RX6 yX6_meanOfTurns yX6_meanOfTurns], w ∈ GA := ga_in [594, 60, 593, 8] (by decide +kernel) (by decide +kernel)
theorem qX6_greatestDifference : ∀ w ∈ [Cond.code yX6_greatestDifference cX6_greatestDifference 3 (some .int), Cond.initialized RX6, Cond.instanceMethod yX6_greatestDifference, Cond.selects RX6 yX6_greatestDifference yX6_greatestDifference], w ∈ GA := ga_in [600, 60, 599, 9] (by decide +kernel) (by decide +kernel)
theorem qX7_init : ∀ w ∈ [Cond.code yX7_init cX7_init 1 none, Cond.initialized RX7, Cond.instanceMethod yX7_init], w ∈ GA := ga_in [79, 58, 78] (by decide +kernel) (by decide +kernel)
theorem qX7_set : ∀ w ∈ [Cond.code yX7_set cX7_set 4 (some .int), Cond.initialized RX7, Cond.instanceMethod yX7_set, Cond.selects RX7 yX7_set yX7_set], w ∈ GA := ga_in [473, 58, 471, 472] (by decide +kernel) (by decide +kernel)
theorem qX7_info : ∀ w ∈ [Cond.code yX7_info cX7_info 2 (some .int), Cond.initialized RX7, Cond.instanceMethod yX7_info, Cond.selects RX7 yX7_info yX7_info], w ∈ GA := ga_in [646, 58, 644, 645] (by decide +kernel) (by decide +kernel)
theorem qX7_hang : ∀ w ∈ [Cond.code yX7_hang cX7_hang 4 (some .int), Cond.initialized RX7, Cond.instanceMethod yX7_hang, Cond.selects RX7 yX7_hang yX7_hang], w ∈ GA := ga_in [656, 58, 654, 655] (by decide +kernel) (by decide +kernel)
theorem qX7_swing : ∀ w ∈ [Cond.code yX7_swing cX7_swing 3 (some .int), Cond.initialized RX7, Cond.instanceMethod yX7_swing, Cond.selects RX7 yX7_swing yX7_swing], w ∈ GA := ga_in [691, 58, 689, 690] (by decide +kernel) (by decide +kernel)
theorem qX7_still : ∀ w ∈ [Cond.code yX7_still cX7_still 4 (some .int), Cond.initialized RX7, Cond.instanceMethod yX7_still, Cond.selects RX7 yX7_still yX7_still], w ∈ GA := ga_in [765, 58, 763, 764] (by decide +kernel) (by decide +kernel)
theorem qX7_wire : ∀ w ∈ [Cond.code yX7_wire cX7_wire 4 (some .int), Cond.initialized RX7, Cond.instanceMethod yX7_wire, Cond.selects RX7 yX7_wire yX7_wire], w ∈ GA := ga_in [777, 58, 775, 776] (by decide +kernel) (by decide +kernel)
theorem qX7_join : ∀ w ∈ [Cond.code yX7_join cX7_join 8 (some .int), Cond.initialized RX7, Cond.instanceMethod yX7_join, Cond.selects RX7 yX7_join yX7_join], w ∈ GA := ga_in [785, 58, 783, 784] (by decide +kernel) (by decide +kernel)
theorem qX7_measure : ∀ w ∈ [Cond.code yX7_measure cX7_measure 5 (some .int), Cond.initialized RX7, Cond.instanceMethod yX7_measure, Cond.selects RX7 yX7_measure yX7_measure], w ∈ GA := ga_in [806, 58, 804, 805] (by decide +kernel) (by decide +kernel)
theorem qX7_joinOf : ∀ w ∈ [Cond.code yX7_joinOf cX7_joinOf 4 (some .int), Cond.initialized RX7, Cond.instanceMethod yX7_joinOf, Cond.selects RX7 yX7_joinOf yX7_joinOf], w ∈ GA := ga_in [815, 58, 813, 814] (by decide +kernel) (by decide +kernel)
theorem qX7_begin : ∀ w ∈ [Cond.code yX7_begin cX7_begin 3 (some .int), Cond.initialized RX7, Cond.instanceMethod yX7_begin, Cond.selects RX7 yX7_begin yX7_begin], w ∈ GA := ga_in [822, 58, 820, 821] (by decide +kernel) (by decide +kernel)
theorem qX7_addLeg : ∀ w ∈ [Cond.code yX7_addLeg cX7_addLeg 4 (some .int), Cond.initialized RX7, Cond.instanceMethod yX7_addLeg, Cond.selects RX7 yX7_addLeg yX7_addLeg], w ∈ GA := ga_in [838, 58, 836, 837] (by decide +kernel) (by decide +kernel)
theorem qX7_dropLeg : ∀ w ∈ [Cond.code yX7_dropLeg cX7_dropLeg 2 (some .int), Cond.initialized RX7, Cond.instanceMethod yX7_dropLeg, Cond.selects RX7 yX7_dropLeg yX7_dropLeg], w ∈ GA := ga_in [845, 58, 843, 844] (by decide +kernel) (by decide +kernel)
theorem qX7_close : ∀ w ∈ [Cond.code yX7_close cX7_close 5 (some .int), Cond.initialized RX7, Cond.instanceMethod yX7_close, Cond.selects RX7 yX7_close yX7_close], w ∈ GA := ga_in [852, 58, 850, 851] (by decide +kernel) (by decide +kernel)
theorem qX7_adjust : ∀ w ∈ [Cond.code yX7_adjust cX7_adjust 2 (some .int), Cond.initialized RX7, Cond.instanceMethod yX7_adjust, Cond.selects RX7 yX7_adjust yX7_adjust], w ∈ GA := ga_in [863, 58, 861, 862] (by decide +kernel) (by decide +kernel)
theorem qX7_traverse : ∀ w ∈ [Cond.code yX7_traverse cX7_traverse 4 (some .int), Cond.initialized RX7, Cond.instanceMethod yX7_traverse, Cond.selects RX7 yX7_traverse yX7_traverse], w ∈ GA := ga_in [870, 58, 868, 869] (by decide +kernel) (by decide +kernel)
theorem qX7_leg : ∀ w ∈ [Cond.code yX7_leg cX7_leg 5 (some .int), Cond.initialized RX7, Cond.instanceMethod yX7_leg, Cond.selects RX7 yX7_leg yX7_leg], w ∈ GA := ga_in [879, 58, 877, 878] (by decide +kernel) (by decide +kernel)
theorem qX7_trouble : ∀ w ∈ [Cond.code yX7_trouble cX7_trouble 4 (some .int), Cond.initialized RX7, Cond.instanceMethod yX7_trouble, Cond.selects RX7 yX7_trouble yX7_trouble], w ∈ GA := ga_in [889, 58, 887, 888] (by decide +kernel) (by decide +kernel)
theorem qX7_apart : ∀ w ∈ [Cond.code yX7_apart cX7_apart 5 (some .int), Cond.initialized RX7, Cond.instanceMethod yX7_apart, Cond.selects RX7 yX7_apart yX7_apart], w ∈ GA := ga_in [896, 58, 894, 895] (by decide +kernel) (by decide +kernel)
theorem qX7_meets : ∀ w ∈ [Cond.code yX7_meets cX7_meets 6 (some .boolean), Cond.initialized RX7, Cond.instanceMethod yX7_meets, Cond.selects RX7 yX7_meets yX7_meets], w ∈ GA := ga_in [907, 58, 905, 906] (by decide +kernel) (by decide +kernel)
theorem qX7_sine : ∀ w ∈ [Cond.code yX7_sine cX7_sine 2 (some .int), Cond.initialized RX7, Cond.instanceMethod yX7_sine, Cond.selects RX7 yX7_sine yX7_sine], w ∈ GA := ga_in [914, 58, 912, 913] (by decide +kernel) (by decide +kernel)
theorem qX7_suspect : ∀ w ∈ [Cond.code yX7_suspect cX7_suspect 3 (some .int), Cond.initialized RX7, Cond.instanceMethod yX7_suspect, Cond.selects RX7 yX7_suspect yX7_suspect], w ∈ GA := ga_in [925, 58, 923, 924] (by decide +kernel) (by decide +kernel)
theorem qX7_angleFor : ∀ w ∈ [Cond.code yX7_angleFor cX7_angleFor 6 (some .int), Cond.initialized RX7, Cond.instanceMethod yX7_angleFor, Cond.selects RX7 yX7_angleFor yX7_angleFor], w ∈ GA := ga_in [932, 58, 930, 931] (by decide +kernel) (by decide +kernel)
theorem qX7_reachBy : ∀ w ∈ [Cond.code yX7_reachBy cX7_reachBy 7 (some .int), Cond.initialized RX7, Cond.instanceMethod yX7_reachBy, Cond.selects RX7 yX7_reachBy yX7_reachBy], w ∈ GA := ga_in [945, 58, 943, 944] (by decide +kernel) (by decide +kernel)
theorem qX7_type : ∀ w ∈ [Cond.code yX7_type cX7_type 2 (some .int), Cond.initialized RX7, Cond.instanceMethod yX7_type, Cond.selects RX7 yX7_type yX7_type], w ∈ GA := ga_in [958, 58, 956, 957] (by decide +kernel) (by decide +kernel)
theorem qX7_clearText : ∀ w ∈ [Cond.code yX7_clearText cX7_clearText 1 (some .int), Cond.initialized RX7, Cond.instanceMethod yX7_clearText, Cond.selects RX7 yX7_clearText yX7_clearText], w ∈ GA := ga_in [323, 58, 321, 322] (by decide +kernel) (by decide +kernel)
theorem qX7_fault : ∀ w ∈ [Cond.code yX7_fault cX7_fault 1 (some .int), Cond.initialized RX7, Cond.instanceMethod yX7_fault, Cond.selects RX7 yX7_fault yX7_fault], w ∈ GA := ga_in [331, 58, 329, 330] (by decide +kernel) (by decide +kernel)
theorem qX7_run : ∀ w ∈ [Cond.code yX7_run cX7_run 3 (some .int), Cond.initialized RX7, Cond.instanceMethod yX7_run, Cond.selects RX7 yX7_run yX7_run], w ∈ GA := ga_in [971, 58, 969, 970] (by decide +kernel) (by decide +kernel)
theorem qX7_undo : ∀ w ∈ [Cond.code yX7_undo cX7_undo 2 (some .int), Cond.initialized RX7, Cond.instanceMethod yX7_undo, Cond.selects RX7 yX7_undo yX7_undo], w ∈ GA := ga_in [991, 58, 989, 990] (by decide +kernel) (by decide +kernel)
theorem qX7_checksum : ∀ w ∈ [Cond.code yX7_checksum cX7_checksum 4 (some .long), Cond.initialized RX7, Cond.instanceMethod yX7_checksum, Cond.selects RX7 yX7_checksum yX7_checksum], w ∈ GA := ga_in [346, 58, 344, 345] (by decide +kernel) (by decide +kernel)
theorem qX7_checkWires : ∀ w ∈ [Cond.code yX7_checkWires cX7_checkWires 8 (some .long), Cond.initialized RX7, Cond.instanceMethod yX7_checkWires, Cond.selects RX7 yX7_checkWires yX7_checkWires], w ∈ GA := ga_in [368, 58, 367, 2] (by decide +kernel) (by decide +kernel)
theorem qX7_checkJoins : ∀ w ∈ [Cond.code yX7_checkJoins cX7_checkJoins 8 (some .long), Cond.initialized RX7, Cond.instanceMethod yX7_checkJoins, Cond.selects RX7 yX7_checkJoins yX7_checkJoins], w ∈ GA := ga_in [380, 58, 379, 3] (by decide +kernel) (by decide +kernel)
theorem qX7_checkTraverse : ∀ w ∈ [Cond.code yX7_checkTraverse cX7_checkTraverse 8 (some .long), Cond.initialized RX7, Cond.instanceMethod yX7_checkTraverse, Cond.selects RX7 yX7_checkTraverse yX7_checkTraverse], w ∈ GA := ga_in [396, 58, 395, 4] (by decide +kernel) (by decide +kernel)
theorem qX7_order : ∀ w ∈ [Cond.code yX7_order cX7_order 7 (some .int), Cond.initialized RX7, Cond.instanceMethod yX7_order, Cond.selects RX7 yX7_order yX7_order], w ∈ GA := ga_in [695, 58, 694, 11] (by decide +kernel) (by decide +kernel)
theorem qX7_obey : ∀ w ∈ [Cond.code yX7_obey cX7_obey 3 (some .boolean), Cond.initialized RX7, Cond.instanceMethod yX7_obey, Cond.selects RX7 yX7_obey yX7_obey], w ∈ GA := ga_in [984, 58, 983, 16] (by decide +kernel) (by decide +kernel)
theorem qX7_refusalOf : ∀ w ∈ [Cond.code yX7_refusalOf cX7_refusalOf 6 (some .int), Cond.initialized RX7, Cond.instanceMethod yX7_refusalOf, Cond.selects RX7 yX7_refusalOf yX7_refusalOf], w ∈ GA := ga_in [699, 58, 698, 12] (by decide +kernel) (by decide +kernel)
theorem qX7_refusalOfTurn : ∀ w ∈ [Cond.code yX7_refusalOfTurn cX7_refusalOfTurn 2 (some .int), Cond.initialized RX7, Cond.static yX7_refusalOfTurn], w ∈ GA := ga_in [702, 58, 701] (by decide +kernel) (by decide +kernel)
theorem qX7_refusalOfLeg : ∀ w ∈ [Cond.code yX7_refusalOfLeg cX7_refusalOfLeg 3 (some .int), Cond.initialized RX7, Cond.static yX7_refusalOfLeg], w ∈ GA := ga_in [705, 58, 704] (by decide +kernel) (by decide +kernel)
theorem qX7_carryOut : ∀ w ∈ [Cond.code yX7_carryOut cX7_carryOut 6 (some .int), Cond.initialized RX7, Cond.instanceMethod yX7_carryOut, Cond.selects RX7 yX7_carryOut yX7_carryOut], w ∈ GA := ga_in [733, 58, 732, 13] (by decide +kernel) (by decide +kernel)
theorem qX7_isIn : ∀ w ∈ [Cond.code yX7_isIn cX7_isIn 3 (some .boolean), Cond.initialized RX7, Cond.static yX7_isIn], w ∈ GA := ga_in [363, 58, 362] (by decide +kernel) (by decide +kernel)
theorem qX7_isBearing : ∀ w ∈ [Cond.code yX7_isBearing cX7_isBearing 1 (some .boolean), Cond.initialized RX7, Cond.static yX7_isBearing], w ∈ GA := ga_in [708, 58, 707] (by decide +kernel) (by decide +kernel)
theorem qX7_isSmall : ∀ w ∈ [Cond.code yX7_isSmall cX7_isSmall 1 (some .boolean), Cond.initialized RX7, Cond.static yX7_isSmall], w ∈ GA := ga_in [789, 58, 788] (by decide +kernel) (by decide +kernel)
theorem qX8_init : ∀ w ∈ [Cond.code yX8_init cX8_init 1 none, Cond.initialized RX8, Cond.instanceMethod yX8_init], w ∈ GA := ga_in [1001, 65, 1000] (by decide +kernel) (by decide +kernel)
theorem qX8_thrown : ∀ w ∈ [Cond.code yX8_thrown cX8_thrown 1 (some .int), Cond.initialized RX8, Cond.instanceMethod yX8_thrown, Cond.selects RX8 yX8_thrown yX8_thrown], w ∈ GA := ga_in [1037, 65, 1035, 1036] (by decide +kernel) (by decide +kernel)
theorem qX8_in : ∀ w ∈ [Cond.code yX8_in cX8_in 6 (some .boolean), Cond.initialized RX8, Cond.static yX8_in], w ∈ GA := ga_in [1045, 65, 1044] (by decide +kernel) (by decide +kernel)
theorem qX8_throwsAt : ∀ w ∈ [Cond.code yX8_throwsAt cX8_throwsAt 2 (some .boolean), Cond.initialized RX8, Cond.instanceMethod yX8_throwsAt, Cond.selects RX8 yX8_throwsAt yX8_throwsAt], w ∈ GA := ga_in [1051, 65, 1050, 17] (by decide +kernel) (by decide +kernel)
theorem qX8_saves : ∀ w ∈ [Cond.code yX8_saves cX8_saves 2 none, Cond.initialized RX8, Cond.instanceMethod yX8_saves, Cond.selects RX8 yX8_saves yX8_saves], w ∈ GA := ga_in [1055, 65, 1054, 18] (by decide +kernel) (by decide +kernel)
theorem qX8_isWire : ∀ w ∈ [Cond.code yX8_isWire cX8_isWire 2 (some .boolean), Cond.initialized RX8, Cond.instanceMethod yX8_isWire, Cond.selects RX8 yX8_isWire yX8_isWire], w ∈ GA := ga_in [1093, 65, 1092, 23] (by decide +kernel) (by decide +kernel)
theorem qX8_isJoin : ∀ w ∈ [Cond.code yX8_isJoin cX8_isJoin 2 (some .boolean), Cond.initialized RX8, Cond.instanceMethod yX8_isJoin, Cond.selects RX8 yX8_isJoin yX8_isJoin], w ∈ GA := ga_in [1146, 65, 1145, 28] (by decide +kernel) (by decide +kernel)
theorem qX8_isTraverse : ∀ w ∈ [Cond.code yX8_isTraverse cX8_isTraverse 2 (some .boolean), Cond.initialized RX8, Cond.instanceMethod yX8_isTraverse, Cond.selects RX8 yX8_isTraverse yX8_isTraverse], w ∈ GA := ga_in [1187, 65, 1186, 34] (by decide +kernel) (by decide +kernel)
theorem qX8_ofWire : ∀ w ∈ [Cond.code yX8_ofWire cX8_ofWire 3 (some .int), Cond.initialized RX8, Cond.instanceMethod yX8_ofWire, Cond.selects RX8 yX8_ofWire yX8_ofWire], w ∈ GA := ga_in [1076, 65, 1075, 22] (by decide +kernel) (by decide +kernel)
theorem qX8_ofJoin : ∀ w ∈ [Cond.code yX8_ofJoin cX8_ofJoin 3 (some .int), Cond.initialized RX8, Cond.instanceMethod yX8_ofJoin, Cond.selects RX8 yX8_ofJoin yX8_ofJoin], w ∈ GA := ga_in [1150, 65, 1149, 29] (by decide +kernel) (by decide +kernel)
theorem qX8_of : ∀ w ∈ [Cond.code yX8_of cX8_of 3 (some .int), Cond.initialized RX8, Cond.instanceMethod yX8_of, Cond.selects RX8 yX8_of yX8_of], w ∈ GA := ga_in [1072, 65, 1071, 21] (by decide +kernel) (by decide +kernel)
theorem qX8_legs : ∀ w ∈ [Cond.code yX8_legs cX8_legs 2 (some .int), Cond.initialized RX8, Cond.instanceMethod yX8_legs, Cond.selects RX8 yX8_legs yX8_legs], w ∈ GA := ga_in [1068, 65, 1067, 20] (by decide +kernel) (by decide +kernel)
theorem qX8_isClosed : ∀ w ∈ [Cond.code yX8_isClosed cX8_isClosed 2 (some .boolean), Cond.initialized RX8, Cond.instanceMethod yX8_isClosed, Cond.selects RX8 yX8_isClosed yX8_isClosed], w ∈ GA := ga_in [1191, 65, 1190, 35] (by decide +kernel) (by decide +kernel)
theorem qX8_angle : ∀ w ∈ [Cond.code yX8_angle cX8_angle 3 (some .int), Cond.initialized RX8, Cond.instanceMethod yX8_angle, Cond.selects RX8 yX8_angle yX8_angle], w ∈ GA := ga_in [1215, 65, 1214, 39] (by decide +kernel) (by decide +kernel)
theorem qX8_length : ∀ w ∈ [Cond.code yX8_length cX8_length 3 (some .int), Cond.initialized RX8, Cond.instanceMethod yX8_length, Cond.selects RX8 yX8_length yX8_length], w ∈ GA := ga_in [1238, 65, 1237, 41] (by decide +kernel) (by decide +kernel)
theorem qX8_normed : ∀ w ∈ [Cond.code yX8_normed cX8_normed 4 (some .int), Cond.initialized RX8, Cond.static yX8_normed], w ∈ GA := ga_in [1173, 65, 1172] (by decide +kernel) (by decide +kernel)
theorem qX8_centred : ∀ w ∈ [Cond.code yX8_centred cX8_centred 3 (some .int), Cond.initialized RX8, Cond.static yX8_centred], w ∈ GA := ga_in [1219, 65, 1218] (by decide +kernel) (by decide +kernel)
theorem qX8_sineOf : ∀ w ∈ [Cond.code yX8_sineOf cX8_sineOf 9 (some .int), Cond.initialized RX8, Cond.static yX8_sineOf], w ∈ GA := ga_in [1262, 65, 1261] (by decide +kernel) (by decide +kernel)
theorem qX8_cosineOf : ∀ w ∈ [Cond.code yX8_cosineOf cX8_cosineOf 2 (some .int), Cond.initialized RX8, Cond.static yX8_cosineOf], w ∈ GA := ga_in [1267, 65, 1266] (by decide +kernel) (by decide +kernel)
theorem qX8_root : ∀ w ∈ [Cond.code yX8_root cX8_root 8 (some .int), Cond.initialized RX8, Cond.static yX8_root], w ∈ GA := ga_in [1224, 65, 1223] (by decide +kernel) (by decide +kernel)
theorem qX8_size : ∀ w ∈ [Cond.code yX8_size cX8_size 1 (some .int), Cond.initialized RX8, Cond.static yX8_size], w ∈ GA := ga_in [1122, 65, 1121] (by decide +kernel) (by decide +kernel)
theorem qX8_set : ∀ w ∈ [Cond.code yX8_set cX8_set 5 (some .int), Cond.initialized RX8, Cond.instanceMethod yX8_set, Cond.selects RX8 yX8_set yX8_set], w ∈ GA := ga_in [1041, 65, 1039, 1040] (by decide +kernel) (by decide +kernel)
theorem qX8_infoOf : ∀ w ∈ [Cond.code yX8_infoOf cX8_infoOf 4 (some .int), Cond.initialized RX8, Cond.instanceMethod yX8_infoOf, Cond.selects RX8 yX8_infoOf yX8_infoOf], w ∈ GA := ga_in [1064, 65, 1063, 19] (by decide +kernel) (by decide +kernel)
theorem qX8_info : ∀ w ∈ [Cond.code yX8_info cX8_info 2 (some .int), Cond.initialized RX8, Cond.instanceMethod yX8_info, Cond.selects RX8 yX8_info yX8_info], w ∈ GA := ga_in [1059, 65, 1057, 1058] (by decide +kernel) (by decide +kernel)
theorem qX8_isFar : ∀ w ∈ [Cond.code yX8_isFar cX8_isFar 1 (some .boolean), Cond.initialized RX8, Cond.static yX8_isFar], w ∈ GA := ga_in [1083, 65, 1082] (by decide +kernel) (by decide +kernel)
theorem qX8_hang : ∀ w ∈ [Cond.code yX8_hang cX8_hang 4 (some .int), Cond.initialized RX8, Cond.instanceMethod yX8_hang, Cond.selects RX8 yX8_hang yX8_hang], w ∈ GA := ga_in [1080, 65, 1078, 1079] (by decide +kernel) (by decide +kernel)
theorem qX8_swing : ∀ w ∈ [Cond.code yX8_swing cX8_swing 4 (some .int), Cond.initialized RX8, Cond.instanceMethod yX8_swing, Cond.selects RX8 yX8_swing yX8_swing], w ∈ GA := ga_in [1089, 65, 1087, 1088] (by decide +kernel) (by decide +kernel)
theorem qX8_still : ∀ w ∈ [Cond.code yX8_still cX8_still 3 (some .int), Cond.initialized RX8, Cond.instanceMethod yX8_still, Cond.selects RX8 yX8_still yX8_still], w ∈ GA := ga_in [1097, 65, 1095, 1096] (by decide +kernel) (by decide +kernel)
theorem qX8_driftOf : ∀ w ∈ [Cond.code yX8_driftOf cX8_driftOf 5 (some .int), Cond.initialized RX8, Cond.instanceMethod yX8_driftOf, Cond.selects RX8 yX8_driftOf yX8_driftOf], w ∈ GA := ga_in [1119, 65, 1118, 27] (by decide +kernel) (by decide +kernel)
theorem qX8_troubleOfWire : ∀ w ∈ [Cond.code yX8_troubleOfWire cX8_troubleOfWire 2 (some .int), Cond.initialized RX8, Cond.instanceMethod yX8_troubleOfWire, Cond.selects RX8 yX8_troubleOfWire yX8_troubleOfWire], w ∈ GA := ga_in [1115, 65, 1114, 26] (by decide +kernel) (by decide +kernel)
theorem qX8_restOf : ∀ w ∈ [Cond.code yX8_restOf cX8_restOf 5 (some .int), Cond.initialized RX8, Cond.instanceMethod yX8_restOf, Cond.selects RX8 yX8_restOf yX8_restOf], w ∈ GA := ga_in [1110, 65, 1109, 25] (by decide +kernel) (by decide +kernel)
theorem qX8_wireOf : ∀ w ∈ [Cond.code yX8_wireOf cX8_wireOf 3 (some .int), Cond.initialized RX8, Cond.instanceMethod yX8_wireOf, Cond.selects RX8 yX8_wireOf yX8_wireOf], w ∈ GA := ga_in [1106, 65, 1105, 24] (by decide +kernel) (by decide +kernel)
theorem qX8_wire : ∀ w ∈ [Cond.code yX8_wire cX8_wire 3 (some .int), Cond.initialized RX8, Cond.instanceMethod yX8_wire, Cond.selects RX8 yX8_wire yX8_wire], w ∈ GA := ga_in [1101, 65, 1099, 1100] (by decide +kernel) (by decide +kernel)
theorem qX8_isAngle : ∀ w ∈ [Cond.code yX8_isAngle cX8_isAngle 1 (some .boolean), Cond.initialized RX8, Cond.static yX8_isAngle], w ∈ GA := ga_in [1129, 65, 1128] (by decide +kernel) (by decide +kernel)
theorem qX8_isSmall : ∀ w ∈ [Cond.code yX8_isSmall cX8_isSmall 1 (some .boolean), Cond.initialized RX8, Cond.static yX8_isSmall], w ∈ GA := ga_in [1136, 65, 1135] (by decide +kernel) (by decide +kernel)
theorem qX8_join : ∀ w ∈ [Cond.code yX8_join cX8_join 9 (some .int), Cond.initialized RX8, Cond.instanceMethod yX8_join, Cond.selects RX8 yX8_join yX8_join], w ∈ GA := ga_in [1126, 65, 1124, 1125] (by decide +kernel) (by decide +kernel)
theorem qX8_measure : ∀ w ∈ [Cond.code yX8_measure cX8_measure 4 (some .int), Cond.initialized RX8, Cond.instanceMethod yX8_measure, Cond.selects RX8 yX8_measure yX8_measure], w ∈ GA := ga_in [1142, 65, 1140, 1141] (by decide +kernel) (by decide +kernel)
theorem qX8_wiresOf : ∀ w ∈ [Cond.code yX8_wiresOf cX8_wiresOf 3 (some .int), Cond.initialized RX8, Cond.instanceMethod yX8_wiresOf, Cond.selects RX8 yX8_wiresOf yX8_wiresOf], w ∈ GA := ga_in [1166, 65, 1165, 32] (by decide +kernel) (by decide +kernel)
theorem qX8_troubleOfJoin : ∀ w ∈ [Cond.code yX8_troubleOfJoin cX8_troubleOfJoin 2 (some .int), Cond.initialized RX8, Cond.instanceMethod yX8_troubleOfJoin, Cond.selects RX8 yX8_troubleOfJoin yX8_troubleOfJoin], w ∈ GA := ga_in [1162, 65, 1161, 31] (by decide +kernel) (by decide +kernel)
theorem qX8_startOf : ∀ w ∈ [Cond.code yX8_startOf cX8_startOf 4 (some .int), Cond.initialized RX8, Cond.instanceMethod yX8_startOf, Cond.selects RX8 yX8_startOf yX8_startOf], w ∈ GA := ga_in [1170, 65, 1169, 33] (by decide +kernel) (by decide +kernel)
theorem qX8_joinTold : ∀ w ∈ [Cond.code yX8_joinTold cX8_joinTold 4 (some .int), Cond.initialized RX8, Cond.instanceMethod yX8_joinTold, Cond.selects RX8 yX8_joinTold yX8_joinTold], w ∈ GA := ga_in [1158, 65, 1157, 30] (by decide +kernel) (by decide +kernel)
theorem qX8_joinOf : ∀ w ∈ [Cond.code yX8_joinOf cX8_joinOf 3 (some .int), Cond.initialized RX8, Cond.instanceMethod yX8_joinOf, Cond.selects RX8 yX8_joinOf yX8_joinOf], w ∈ GA := ga_in [1154, 65, 1152, 1153] (by decide +kernel) (by decide +kernel)
theorem qX8_begin : ∀ w ∈ [Cond.code yX8_begin cX8_begin 3 (some .int), Cond.initialized RX8, Cond.instanceMethod yX8_begin, Cond.selects RX8 yX8_begin yX8_begin], w ∈ GA := ga_in [1178, 65, 1176, 1177] (by decide +kernel) (by decide +kernel)
theorem qX8_addLeg : ∀ w ∈ [Cond.code yX8_addLeg cX8_addLeg 6 (some .int), Cond.initialized RX8, Cond.instanceMethod yX8_addLeg, Cond.selects RX8 yX8_addLeg yX8_addLeg], w ∈ GA := ga_in [1182, 65, 1180, 1181] (by decide +kernel) (by decide +kernel)
theorem qX8_dropLeg : ∀ w ∈ [Cond.code yX8_dropLeg cX8_dropLeg 3 (some .int), Cond.initialized RX8, Cond.instanceMethod yX8_dropLeg, Cond.selects RX8 yX8_dropLeg yX8_dropLeg], w ∈ GA := ga_in [1195, 65, 1193, 1194] (by decide +kernel) (by decide +kernel)
theorem qX8_bearing : ∀ w ∈ [Cond.code yX8_bearing cX8_bearing 6 (some .int), Cond.initialized RX8, Cond.instanceMethod yX8_bearing, Cond.selects RX8 yX8_bearing yX8_bearing], w ∈ GA := ga_in [1211, 65, 1210, 38] (by decide +kernel) (by decide +kernel)
theorem qX8_gap : ∀ w ∈ [Cond.code yX8_gap cX8_gap 2 (some .int), Cond.initialized RX8, Cond.instanceMethod yX8_gap, Cond.selects RX8 yX8_gap yX8_gap], w ∈ GA := ga_in [1207, 65, 1206, 37] (by decide +kernel) (by decide +kernel)
theorem qX8_troubleOf : ∀ w ∈ [Cond.code yX8_troubleOf cX8_troubleOf 2 (some .int), Cond.initialized RX8, Cond.instanceMethod yX8_troubleOf, Cond.selects RX8 yX8_troubleOf yX8_troubleOf], w ∈ GA := ga_in [1203, 65, 1202, 36] (by decide +kernel) (by decide +kernel)
theorem qX8_close : ∀ w ∈ [Cond.code yX8_close cX8_close 5 (some .int), Cond.initialized RX8, Cond.instanceMethod yX8_close, Cond.selects RX8 yX8_close yX8_close], w ∈ GA := ga_in [1199, 65, 1197, 1198] (by decide +kernel) (by decide +kernel)
theorem qX8_turns : ∀ w ∈ [Cond.code yX8_turns cX8_turns 3 none, Cond.initialized RX8, Cond.instanceMethod yX8_turns, Cond.selects RX8 yX8_turns yX8_turns], w ∈ GA := ga_in [1234, 65, 1233, 40] (by decide +kernel) (by decide +kernel)
theorem qX8_adjust : ∀ w ∈ [Cond.code yX8_adjust cX8_adjust 11 (some .int), Cond.initialized RX8, Cond.instanceMethod yX8_adjust, Cond.selects RX8 yX8_adjust yX8_adjust], w ∈ GA := ga_in [1230, 65, 1228, 1229] (by decide +kernel) (by decide +kernel)
theorem qX8_end : ∀ w ∈ [Cond.code yX8_end cX8_end 7 (some .int), Cond.initialized RX8, Cond.instanceMethod yX8_end, Cond.selects RX8 yX8_end yX8_end], w ∈ GA := ga_in [1259, 65, 1258, 45] (by decide +kernel) (by decide +kernel)
theorem qX8_miss : ∀ w ∈ [Cond.code yX8_miss cX8_miss 3 (some .int), Cond.initialized RX8, Cond.instanceMethod yX8_miss, Cond.selects RX8 yX8_miss yX8_miss], w ∈ GA := ga_in [1255, 65, 1254, 44] (by decide +kernel) (by decide +kernel)
theorem qX8_isWhole : ∀ w ∈ [Cond.code yX8_isWhole cX8_isWhole 2 (some .boolean), Cond.initialized RX8, Cond.instanceMethod yX8_isWhole, Cond.selects RX8 yX8_isWhole yX8_isWhole], w ∈ GA := ga_in [1251, 65, 1250, 43] (by decide +kernel) (by decide +kernel)
theorem qX8_far : ∀ w ∈ [Cond.code yX8_far cX8_far 4 (some .int), Cond.initialized RX8, Cond.static yX8_far], w ∈ GA := ga_in [1272, 65, 1271] (by decide +kernel) (by decide +kernel)
theorem qX8_traverseOf : ∀ w ∈ [Cond.code yX8_traverseOf cX8_traverseOf 5 (some .int), Cond.initialized RX8, Cond.instanceMethod yX8_traverseOf, Cond.selects RX8 yX8_traverseOf yX8_traverseOf], w ∈ GA := ga_in [1247, 65, 1246, 42] (by decide +kernel) (by decide +kernel)
theorem qX8_traverse : ∀ w ∈ [Cond.code yX8_traverse cX8_traverse 3 (some .int), Cond.initialized RX8, Cond.instanceMethod yX8_traverse, Cond.selects RX8 yX8_traverse yX8_traverse], w ∈ GA := ga_in [1242, 65, 1240, 1241] (by decide +kernel) (by decide +kernel)
theorem qX8_legOf : ∀ w ∈ [Cond.code yX8_legOf cX8_legOf 4 (some .int), Cond.initialized RX8, Cond.instanceMethod yX8_legOf, Cond.selects RX8 yX8_legOf yX8_legOf], w ∈ GA := ga_in [1281, 65, 1280, 46] (by decide +kernel) (by decide +kernel)
theorem qX8_leg : ∀ w ∈ [Cond.code yX8_leg cX8_leg 5 (some .int), Cond.initialized RX8, Cond.instanceMethod yX8_leg, Cond.selects RX8 yX8_leg yX8_leg], w ∈ GA := ga_in [1276, 65, 1274, 1275] (by decide +kernel) (by decide +kernel)
theorem qX8_troubleAt : ∀ w ∈ [Cond.code yX8_troubleAt cX8_troubleAt 8 (some .int), Cond.initialized RX8, Cond.instanceMethod yX8_troubleAt, Cond.selects RX8 yX8_troubleAt yX8_troubleAt], w ∈ GA := ga_in [1289, 65, 1288, 47] (by decide +kernel) (by decide +kernel)
theorem qX8_trouble : ∀ w ∈ [Cond.code yX8_trouble cX8_trouble 3 (some .int), Cond.initialized RX8, Cond.instanceMethod yX8_trouble, Cond.selects RX8 yX8_trouble yX8_trouble], w ∈ GA := ga_in [1285, 65, 1283, 1284] (by decide +kernel) (by decide +kernel)
theorem qX8_hasEnd : ∀ w ∈ [Cond.code yX8_hasEnd cX8_hasEnd 2 (some .boolean), Cond.initialized RX8, Cond.instanceMethod yX8_hasEnd, Cond.selects RX8 yX8_hasEnd yX8_hasEnd], w ∈ GA := ga_in [1301, 65, 1300, 49] (by decide +kernel) (by decide +kernel)
theorem qX8_between : ∀ w ∈ [Cond.code yX8_between cX8_between 4 (some .int), Cond.initialized RX8, Cond.instanceMethod yX8_between, Cond.selects RX8 yX8_between yX8_between], w ∈ GA := ga_in [1297, 65, 1296, 48] (by decide +kernel) (by decide +kernel)
theorem qX8_apart : ∀ w ∈ [Cond.code yX8_apart cX8_apart 3 (some .int), Cond.initialized RX8, Cond.instanceMethod yX8_apart, Cond.selects RX8 yX8_apart yX8_apart], w ∈ GA := ga_in [1293, 65, 1291, 1292] (by decide +kernel) (by decide +kernel)
theorem qX8_meets : ∀ w ∈ [Cond.code yX8_meets cX8_meets 3 (some .boolean), Cond.initialized RX8, Cond.instanceMethod yX8_meets, Cond.selects RX8 yX8_meets yX8_meets], w ∈ GA := ga_in [1305, 65, 1303, 1304] (by decide +kernel) (by decide +kernel)
theorem qX8_sine : ∀ w ∈ [Cond.code yX8_sine cX8_sine 2 (some .int), Cond.initialized RX8, Cond.instanceMethod yX8_sine, Cond.selects RX8 yX8_sine yX8_sine], w ∈ GA := ga_in [1309, 65, 1307, 1308] (by decide +kernel) (by decide +kernel)
theorem qX8_suspectOf : ∀ w ∈ [Cond.code yX8_suspectOf cX8_suspectOf 12 (some .int), Cond.initialized RX8, Cond.instanceMethod yX8_suspectOf, Cond.selects RX8 yX8_suspectOf yX8_suspectOf], w ∈ GA := ga_in [1319, 65, 1318, 50] (by decide +kernel) (by decide +kernel)
theorem qX8_suspect : ∀ w ∈ [Cond.code yX8_suspect cX8_suspect 2 (some .int), Cond.initialized RX8, Cond.instanceMethod yX8_suspect, Cond.selects RX8 yX8_suspect yX8_suspect], w ∈ GA := ga_in [1315, 65, 1313, 1314] (by decide +kernel) (by decide +kernel)
theorem qX8_angleFor : ∀ w ∈ [Cond.code yX8_angleFor cX8_angleFor 8 (some .int), Cond.initialized RX8, Cond.instanceMethod yX8_angleFor, Cond.selects RX8 yX8_angleFor yX8_angleFor], w ∈ GA := ga_in [1324, 65, 1322, 1323] (by decide +kernel) (by decide +kernel)
theorem qX8_reachBy : ∀ w ∈ [Cond.code yX8_reachBy cX8_reachBy 20 (some .int), Cond.initialized RX8, Cond.instanceMethod yX8_reachBy, Cond.selects RX8 yX8_reachBy yX8_reachBy], w ∈ GA := ga_in [1328, 65, 1326, 1327] (by decide +kernel) (by decide +kernel)
theorem qX8_type : ∀ w ∈ [Cond.code yX8_type cX8_type 2 (some .int), Cond.initialized RX8, Cond.instanceMethod yX8_type, Cond.selects RX8 yX8_type yX8_type], w ∈ GA := ga_in [1333, 65, 1331, 1332] (by decide +kernel) (by decide +kernel)
theorem qX8_clearText : ∀ w ∈ [Cond.code yX8_clearText cX8_clearText 2 (some .int), Cond.initialized RX8, Cond.instanceMethod yX8_clearText, Cond.selects RX8 yX8_clearText yX8_clearText], w ∈ GA := ga_in [1339, 65, 1337, 1338] (by decide +kernel) (by decide +kernel)
theorem qX8_isAt : ∀ w ∈ [Cond.code yX8_isAt cX8_isAt 3 (some .boolean), Cond.initialized RX8, Cond.instanceMethod yX8_isAt, Cond.selects RX8 yX8_isAt yX8_isAt], w ∈ GA := ga_in [1362, 65, 1361, 54] (by decide +kernel) (by decide +kernel)
theorem qX8_number : ∀ w ∈ [Cond.code yX8_number cX8_number 5 (some .boolean), Cond.initialized RX8, Cond.instanceMethod yX8_number, Cond.selects RX8 yX8_number yX8_number], w ∈ GA := ga_in [1358, 65, 1357, 53] (by decide +kernel) (by decide +kernel)
theorem qX8_numbers : ∀ w ∈ [Cond.code yX8_numbers cX8_numbers 1 (some .int), Cond.initialized RX8, Cond.static yX8_numbers], w ∈ GA := ga_in [1354, 65, 1353] (by decide +kernel) (by decide +kernel)
theorem qX8_reads : ∀ w ∈ [Cond.code yX8_reads cX8_reads 4 (some .boolean), Cond.initialized RX8, Cond.instanceMethod yX8_reads, Cond.selects RX8 yX8_reads yX8_reads], w ∈ GA := ga_in [1351, 65, 1350, 52] (by decide +kernel) (by decide +kernel)
theorem qX8_faultAt : ∀ w ∈ [Cond.code yX8_faultAt cX8_faultAt 2 (some .int), Cond.initialized RX8, Cond.instanceMethod yX8_faultAt, Cond.selects RX8 yX8_faultAt yX8_faultAt], w ∈ GA := ga_in [1347, 65, 1346, 51] (by decide +kernel) (by decide +kernel)
theorem qX8_fault : ∀ w ∈ [Cond.code yX8_fault cX8_fault 1 (some .int), Cond.initialized RX8, Cond.instanceMethod yX8_fault, Cond.selects RX8 yX8_fault yX8_fault], w ∈ GA := ga_in [1343, 65, 1341, 1342] (by decide +kernel) (by decide +kernel)
theorem qX8_does : ∀ w ∈ [Cond.code yX8_does cX8_does 2 none, Cond.initialized RX8, Cond.instanceMethod yX8_does, Cond.selects RX8 yX8_does yX8_does], w ∈ GA := ga_in [1370, 65, 1369, 55] (by decide +kernel) (by decide +kernel)
theorem qX8_run : ∀ w ∈ [Cond.code yX8_run cX8_run 4 (some .int), Cond.initialized RX8, Cond.instanceMethod yX8_run, Cond.selects RX8 yX8_run yX8_run], w ∈ GA := ga_in [1366, 65, 1364, 1365] (by decide +kernel) (by decide +kernel)
theorem qX8_undo : ∀ w ∈ [Cond.code yX8_undo cX8_undo 2 (some .int), Cond.initialized RX8, Cond.instanceMethod yX8_undo, Cond.selects RX8 yX8_undo yX8_undo], w ∈ GA := ga_in [1378, 65, 1376, 1377] (by decide +kernel) (by decide +kernel)
theorem qX8_say : ∀ w ∈ [Cond.code yX8_say cX8_say 3 none, Cond.initialized RX8, Cond.instanceMethod yX8_say, Cond.selects RX8 yX8_say yX8_say], w ∈ GA := ga_in [1387, 65, 1386, 56] (by decide +kernel) (by decide +kernel)
theorem qX8_checksum : ∀ w ∈ [Cond.code yX8_checksum cX8_checksum 3 (some .long), Cond.initialized RX8, Cond.instanceMethod yX8_checksum, Cond.selects RX8 yX8_checksum yX8_checksum], w ∈ GA := ga_in [1382, 65, 1380, 1381] (by decide +kernel) (by decide +kernel)
theorem qL_set : ∀ w ∈ [Cond.codeWith yL_set cL_set 5 (some .int) [(0, 10, 13, 13)], Cond.initialized RL, Cond.static yL_set], w ∈ GA := ga_in [468, 57, 467] (by decide +kernel) (by decide +kernel)
theorem qL_info : ∀ w ∈ [Cond.codeWith yL_info cL_info 4 (some .int) [(0, 9, 12, 13)], Cond.initialized RL, Cond.static yL_info], w ∈ GA := ga_in [642, 57, 641] (by decide +kernel) (by decide +kernel)
theorem qL_hang : ∀ w ∈ [Cond.codeWith yL_hang cL_hang 5 (some .int) [(0, 10, 13, 13), (0, 10, 17, 22)], Cond.initialized RL, Cond.static yL_hang], w ∈ GA := ga_in [651, 57, 650] (by decide +kernel) (by decide +kernel)
theorem qL_swing : ∀ w ∈ [Cond.codeWith yL_swing cL_swing 5 (some .int) [(0, 10, 13, 27), (0, 10, 17, 13), (0, 10, 21, 22)], Cond.initialized RL, Cond.static yL_swing], w ∈ GA := ga_in [686, 57, 685] (by decide +kernel) (by decide +kernel)
theorem qL_still : ∀ w ∈ [Cond.codeWith yL_still cL_still 4 (some .int) [(0, 9, 12, 27)], Cond.initialized RL, Cond.static yL_still], w ∈ GA := ga_in [761, 57, 760] (by decide +kernel) (by decide +kernel)
theorem qL_wire : ∀ w ∈ [Cond.codeWith yL_wire cL_wire 5 (some .int) [(0, 10, 13, 27), (0, 10, 17, 13)], Cond.initialized RL, Cond.static yL_wire], w ∈ GA := ga_in [773, 57, 772] (by decide +kernel) (by decide +kernel)
theorem qL_join : ∀ w ∈ [Cond.codeWith yL_join cL_join 9 (some .int) [(0, 18, 21, 27), (0, 18, 25, 13), (0, 18, 29, 22)], Cond.initialized RL, Cond.static yL_join], w ∈ GA := ga_in [781, 57, 780] (by decide +kernel) (by decide +kernel)
theorem qL_measure : ∀ w ∈ [Cond.codeWith yL_measure cL_measure 5 (some .int) [(0, 10, 13, 27), (0, 10, 17, 13)], Cond.initialized RL, Cond.static yL_measure], w ∈ GA := ga_in [802, 57, 801] (by decide +kernel) (by decide +kernel)
theorem qL_joinOf : ∀ w ∈ [Cond.codeWith yL_joinOf cL_joinOf 5 (some .int) [(0, 10, 13, 27), (0, 10, 17, 13)], Cond.initialized RL, Cond.static yL_joinOf], w ∈ GA := ga_in [811, 57, 810] (by decide +kernel) (by decide +kernel)
theorem qL_begin : ∀ w ∈ [Cond.codeWith yL_begin cL_begin 4 (some .int) [(0, 9, 12, 27), (0, 9, 15, 22)], Cond.initialized RL, Cond.static yL_begin], w ∈ GA := ga_in [818, 57, 817] (by decide +kernel) (by decide +kernel)
theorem qL_addLeg : ∀ w ∈ [Cond.codeWith yL_addLeg cL_addLeg 6 (some .int) [(0, 12, 15, 27), (0, 12, 19, 13), (0, 12, 23, 22)], Cond.initialized RL, Cond.static yL_addLeg], w ∈ GA := ga_in [834, 57, 833] (by decide +kernel) (by decide +kernel)
theorem qL_dropLeg : ∀ w ∈ [Cond.codeWith yL_dropLeg cL_dropLeg 4 (some .int) [(0, 9, 12, 27), (0, 9, 15, 22)], Cond.initialized RL, Cond.static yL_dropLeg], w ∈ GA := ga_in [841, 57, 840] (by decide +kernel) (by decide +kernel)
theorem qL_close : ∀ w ∈ [Cond.codeWith yL_close cL_close 6 (some .int) [(0, 12, 15, 27), (0, 12, 19, 13), (0, 12, 23, 22)], Cond.initialized RL, Cond.static yL_close], w ∈ GA := ga_in [848, 57, 847] (by decide +kernel) (by decide +kernel)
theorem qL_adjust : ∀ w ∈ [Cond.codeWith yL_adjust cL_adjust 4 (some .int) [(0, 9, 12, 27), (0, 9, 15, 22)], Cond.initialized RL, Cond.static yL_adjust], w ∈ GA := ga_in [859, 57, 858] (by decide +kernel) (by decide +kernel)
theorem qL_traverse : ∀ w ∈ [Cond.codeWith yL_traverse cL_traverse 5 (some .int) [(0, 10, 13, 27), (0, 10, 17, 13)], Cond.initialized RL, Cond.static yL_traverse], w ∈ GA := ga_in [866, 57, 865] (by decide +kernel) (by decide +kernel)
theorem qL_leg : ∀ w ∈ [Cond.codeWith yL_leg cL_leg 6 (some .int) [(0, 12, 15, 27), (0, 12, 19, 13)], Cond.initialized RL, Cond.static yL_leg], w ∈ GA := ga_in [875, 57, 874] (by decide +kernel) (by decide +kernel)
theorem qL_trouble : ∀ w ∈ [Cond.codeWith yL_trouble cL_trouble 5 (some .int) [(0, 10, 13, 27)], Cond.initialized RL, Cond.static yL_trouble], w ∈ GA := ga_in [885, 57, 884] (by decide +kernel) (by decide +kernel)
theorem qL_apart : ∀ w ∈ [Cond.codeWith yL_apart cL_apart 5 (some .int) [(0, 10, 13, 27)], Cond.initialized RL, Cond.static yL_apart], w ∈ GA := ga_in [892, 57, 891] (by decide +kernel) (by decide +kernel)
theorem qL_meets : ∀ w ∈ [Cond.codeWith yL_meets cL_meets 5 (some .int) [(0, 17, 20, 27)], Cond.initialized RL, Cond.static yL_meets], w ∈ GA := ga_in [903, 57, 902] (by decide +kernel) (by decide +kernel)
theorem qL_sine : ∀ w ∈ [Cond.codeWith yL_sine cL_sine 4 (some .int) [(0, 9, 12, 13)], Cond.initialized RL, Cond.static yL_sine], w ∈ GA := ga_in [910, 57, 909] (by decide +kernel) (by decide +kernel)
theorem qL_suspect : ∀ w ∈ [Cond.codeWith yL_suspect cL_suspect 4 (some .int) [(0, 9, 12, 27)], Cond.initialized RL, Cond.static yL_suspect], w ∈ GA := ga_in [921, 57, 920] (by decide +kernel) (by decide +kernel)
theorem qL_angleFor : ∀ w ∈ [Cond.codeWith yL_angleFor cL_angleFor 6 (some .int) [(0, 12, 15, 27), (0, 12, 19, 13)], Cond.initialized RL, Cond.static yL_angleFor], w ∈ GA := ga_in [928, 57, 927] (by decide +kernel) (by decide +kernel)
theorem qL_reachBy : ∀ w ∈ [Cond.codeWith yL_reachBy cL_reachBy 7 (some .int) [(0, 14, 17, 27), (0, 14, 21, 13)], Cond.initialized RL, Cond.static yL_reachBy], w ∈ GA := ga_in [941, 57, 940] (by decide +kernel) (by decide +kernel)
theorem qL_type : ∀ w ∈ [Cond.codeWith yL_type cL_type 4 (some .int) [(0, 9, 12, 13), (0, 9, 15, 22)], Cond.initialized RL, Cond.static yL_type], w ∈ GA := ga_in [954, 57, 953] (by decide +kernel) (by decide +kernel)
theorem qL_run : ∀ w ∈ [Cond.codeWith yL_run cL_run 3 (some .int) [(0, 8, 11, 13)], Cond.initialized RL, Cond.static yL_run], w ∈ GA := ga_in [967, 57, 966] (by decide +kernel) (by decide +kernel)
theorem qL_undo : ∀ w ∈ [Cond.codeWith yL_undo cL_undo 3 (some .int) [(0, 8, 11, 22)], Cond.initialized RL, Cond.static yL_undo], w ∈ GA := ga_in [987, 57, 986] (by decide +kernel) (by decide +kernel)
theorem qMabs : ∀ w ∈ [Cond.static Lib.Math.abs.name, Cond.initialized "java/lang/Math", Cond.code Lib.Math.abs.name Lib.Math.abs.code 1 (some .int)], w ∈ GA := ga_in [602, 71, 603] (by decide +kernel) (by decide +kernel)
theorem qMmax : ∀ w ∈ [Cond.static Lib.Math.max.name, Cond.initialized "java/lang/Math", Cond.code Lib.Math.max.name Lib.Math.max.code 2 (some .int)], w ∈ GA := ga_in [605, 71, 606] (by decide +kernel) (by decide +kernel)
theorem qMmin : ∀ w ∈ [Cond.static Lib.Math.min.name, Cond.initialized "java/lang/Math", Cond.code Lib.Math.min.name Lib.Math.min.code 2 (some .int)], w ∈ GA := ga_in [577, 71, 578] (by decide +kernel) (by decide +kernel)
theorem qMabsL : ∀ w ∈ [Cond.static Lib.MathLoose.abs_long.x, Cond.initialized "java/lang/Math", Cond.code Lib.MathLoose.abs_long.x Lib.MathLoose.abs_long.code 2 (some .long)], w ∈ GA := ga_in [459, 71, 460] (by decide +kernel) (by decide +kernel)
theorem qCopy : ∀ w ∈ [Cond.native arraycopyName, Cond.static arraycopyName, Cond.initialized "java/lang/System"], w ∈ GA := ga_in [561, 560, 70] (by decide +kernel) (by decide +kernel)
theorem qObj : ∀ w ∈ [Cond.instanceMethod objectInit, Cond.code objectInit ⟨#[0xb1]⟩ 1 none], w ∈ GA := ga_in [81, 82] (by decide +kernel) (by decide +kernel)
theorem n_Throwable : Cond.initialized "java/lang/Throwable" ∈ GA := ga_mem 66 (by decide +kernel) rfl
theorem n_Exception : Cond.initialized "java/lang/Exception" ∈ GA := ga_mem 67 (by decide +kernel) rfl
theorem n_RuntimeException : Cond.initialized "java/lang/RuntimeException" ∈ GA := ga_mem 68 (by decide +kernel) rfl
theorem n_IllegalArgumentException : Cond.initialized "java/lang/IllegalArgumentException" ∈ GA := ga_mem 69 (by decide +kernel) rfl
theorem n_System : Cond.initialized "java/lang/System" ∈ GA := ga_mem 70 (by decide +kernel) rfl
theorem n_Math : Cond.initialized "java/lang/Math" ∈ GA := ga_mem 71 (by decide +kernel) rfl
theorem n_IllegalStateException : Cond.initialized "java/lang/IllegalStateException" ∈ GA := ga_mem 73 (by decide +kernel) rfl
theorem n_IndexOutOfBoundsException : Cond.initialized "java/lang/IndexOutOfBoundsException" ∈ GA := ga_mem 74 (by decide +kernel) rfl
theorem a_int : Cond.arrayClass FieldType.int ∈ GA := ga_mem 128 (by decide +kernel) rfl
theorem a_char : Cond.arrayClass FieldType.char ∈ GA := ga_mem 309 (by decide +kernel) rfl
theorem a_byte : Cond.arrayClass FieldType.byte ∈ GA := ga_mem 549 (by decide +kernel) rfl
theorem a_long : Cond.arrayClass FieldType.long ∈ GA := ga_mem 1389 (by decide +kernel) rfl
end
section
theorem dX0_init_0 : decode cX0_init 0 = .ok (.aload_n 0, 1) := by decide +kernel
theorem dX0_init_1 : decode cX0_init 1 = .ok (.invokespecial 3, 3) := by decide +kernel
theorem dX0_init_4 : decode cX0_init 4 = .ok (.aload_n 0, 1) := by decide +kernel
theorem dX0_init_5 : decode cX0_init 5 = .ok (.iconst 4, 1) := by decide +kernel
theorem dX0_init_6 : decode cX0_init 6 = .ok (.anewarray 9, 3) := by decide +kernel
theorem dX0_init_9 : decode cX0_init 9 = .ok (.putfield 11, 3) := by decide +kernel
theorem dX0_init_12 : decode cX0_init 12 = .ok (.iconst 0, 1) := by decide +kernel
theorem dX0_init_13 : decode cX0_init 13 = .ok (.istore_n 1, 1) := by decide +kernel
theorem dX0_init_14 : decode cX0_init 14 = .ok (.iload_n 1, 1) := by decide +kernel
theorem dX0_init_15 : decode cX0_init 15 = .ok (.iconst 4, 1) := by decide +kernel
theorem dX0_init_16 : decode cX0_init 16 = .ok (.if_icmp .ge 22, 3) := by decide +kernel
theorem dX0_init_19 : decode cX0_init 19 = .ok (.aload_n 0, 1) := by decide +kernel
theorem dX0_init_20 : decode cX0_init 20 = .ok (.getfield 11, 3) := by decide +kernel
theorem dX0_init_23 : decode cX0_init 23 = .ok (.iload_n 1, 1) := by decide +kernel
theorem dX0_init_24 : decode cX0_init 24 = .ok (.new 9, 3) := by decide +kernel
theorem dX0_init_27 : decode cX0_init 27 = .ok (.dup, 1) := by decide +kernel
theorem dX0_init_28 : decode cX0_init 28 = .ok (.invokespecial 17, 3) := by decide +kernel
theorem dX0_init_31 : decode cX0_init 31 = .ok (.aastore, 1) := by decide +kernel
theorem dX0_init_32 : decode cX0_init 32 = .ok (.iinc 1 1, 3) := by decide +kernel
theorem dX0_init_35 : decode cX0_init 35 = .ok (.goto (-21), 3) := by decide +kernel
theorem dX0_init_38 : decode cX0_init 38 = .ok (.return_, 1) := by decide +kernel
theorem dX0_keep_0 : decode cX0_keep 0 = .ok (.aload_n 0, 1) := by decide +kernel
theorem dX0_keep_1 : decode cX0_keep 1 = .ok (.aload_n 0, 1) := by decide +kernel
theorem dX0_keep_2 : decode cX0_keep 2 = .ok (.getfield 18, 3) := by decide +kernel
theorem dX0_keep_5 : decode cX0_keep 5 = .ok (.iconst 0, 1) := by decide +kernel
theorem dX0_keep_6 : decode cX0_keep 6 = .ok (.iconst 2, 1) := by decide +kernel
theorem dX0_keep_7 : decode cX0_keep 7 = .ok (.invokestatic 22, 3) := by decide +kernel
theorem dX0_keep_10 : decode cX0_keep 10 = .ok (.ifCond .eq 12, 3) := by decide +kernel
theorem dX0_keep_13 : decode cX0_keep 13 = .ok (.aload_n 0, 1) := by decide +kernel
theorem dX0_keep_14 : decode cX0_keep 14 = .ok (.getfield 18, 3) := by decide +kernel
theorem dX0_keep_17 : decode cX0_keep 17 = .ok (.iconst 1, 1) := by decide +kernel
theorem dX0_keep_18 : decode cX0_keep 18 = .ok (.iadd, 1) := by decide +kernel
theorem dX0_keep_19 : decode cX0_keep 19 = .ok (.goto 4, 3) := by decide +kernel
theorem dX0_keep_22 : decode cX0_keep 22 = .ok (.iconst 0, 1) := by decide +kernel
theorem dX0_keep_23 : decode cX0_keep 23 = .ok (.putfield 18, 3) := by decide +kernel
theorem dX0_keep_26 : decode cX0_keep 26 = .ok (.aload_n 0, 1) := by decide +kernel
theorem dX0_keep_27 : decode cX0_keep 27 = .ok (.getfield 11, 3) := by decide +kernel
theorem dX0_keep_30 : decode cX0_keep 30 = .ok (.aload_n 0, 1) := by decide +kernel
theorem dX0_keep_31 : decode cX0_keep 31 = .ok (.getfield 18, 3) := by decide +kernel
theorem dX0_keep_34 : decode cX0_keep 34 = .ok (.aaload, 1) := by decide +kernel
theorem dX0_keep_35 : decode cX0_keep 35 = .ok (.aload_n 1, 1) := by decide +kernel
theorem dX0_keep_36 : decode cX0_keep 36 = .ok (.invokevirtual 26, 3) := by decide +kernel
theorem dX0_keep_39 : decode cX0_keep 39 = .ok (.aload_n 0, 1) := by decide +kernel
theorem dX0_keep_40 : decode cX0_keep 40 = .ok (.aload_n 0, 1) := by decide +kernel
theorem dX0_keep_41 : decode cX0_keep 41 = .ok (.getfield 30, 3) := by decide +kernel
theorem dX0_keep_44 : decode cX0_keep 44 = .ok (.iconst 1, 1) := by decide +kernel
theorem dX0_keep_45 : decode cX0_keep 45 = .ok (.iadd, 1) := by decide +kernel
theorem dX0_keep_46 : decode cX0_keep 46 = .ok (.iconst 4, 1) := by decide +kernel
theorem dX0_keep_47 : decode cX0_keep 47 = .ok (.invokestatic 33, 3) := by decide +kernel
theorem dX0_keep_50 : decode cX0_keep 50 = .ok (.putfield 30, 3) := by decide +kernel
theorem dX0_keep_53 : decode cX0_keep 53 = .ok (.return_, 1) := by decide +kernel
theorem dX0_giveBack_0 : decode cX0_giveBack 0 = .ok (.aload_n 0, 1) := by decide +kernel
theorem dX0_giveBack_1 : decode cX0_giveBack 1 = .ok (.getfield 18, 3) := by decide +kernel
theorem dX0_giveBack_4 : decode cX0_giveBack 4 = .ok (.iconst 0, 1) := by decide +kernel
theorem dX0_giveBack_5 : decode cX0_giveBack 5 = .ok (.iconst 3, 1) := by decide +kernel
theorem dX0_giveBack_6 : decode cX0_giveBack 6 = .ok (.invokestatic 22, 3) := by decide +kernel
theorem dX0_giveBack_9 : decode cX0_giveBack 9 = .ok (.ifCond .ne 8, 3) := by decide +kernel
theorem dX0_giveBack_12 : decode cX0_giveBack 12 = .ok (.aload_n 0, 1) := by decide +kernel
theorem dX0_giveBack_13 : decode cX0_giveBack 13 = .ok (.getfield 30, 3) := by decide +kernel
theorem dX0_giveBack_16 : decode cX0_giveBack 16 = .ok (.ireturn, 1) := by decide +kernel
theorem dX0_giveBack_17 : decode cX0_giveBack 17 = .ok (.aload_n 1, 1) := by decide +kernel
theorem dX0_giveBack_18 : decode cX0_giveBack 18 = .ok (.aload_n 0, 1) := by decide +kernel
theorem dX0_giveBack_19 : decode cX0_giveBack 19 = .ok (.getfield 11, 3) := by decide +kernel
theorem dX0_giveBack_22 : decode cX0_giveBack 22 = .ok (.aload_n 0, 1) := by decide +kernel
theorem dX0_giveBack_23 : decode cX0_giveBack 23 = .ok (.getfield 18, 3) := by decide +kernel
theorem dX0_giveBack_26 : decode cX0_giveBack 26 = .ok (.aaload, 1) := by decide +kernel
theorem dX0_giveBack_27 : decode cX0_giveBack 27 = .ok (.invokevirtual 26, 3) := by decide +kernel
theorem dX0_giveBack_30 : decode cX0_giveBack 30 = .ok (.aload_n 0, 1) := by decide +kernel
theorem dX0_giveBack_31 : decode cX0_giveBack 31 = .ok (.aload_n 0, 1) := by decide +kernel
theorem dX0_giveBack_32 : decode cX0_giveBack 32 = .ok (.getfield 18, 3) := by decide +kernel
theorem dX0_giveBack_35 : decode cX0_giveBack 35 = .ok (.ifCond .ne 7, 3) := by decide +kernel
theorem dX0_giveBack_38 : decode cX0_giveBack 38 = .ok (.iconst 3, 1) := by decide +kernel
theorem dX0_giveBack_39 : decode cX0_giveBack 39 = .ok (.goto 9, 3) := by decide +kernel
theorem dX0_giveBack_42 : decode cX0_giveBack 42 = .ok (.aload_n 0, 1) := by decide +kernel
theorem dX0_giveBack_43 : decode cX0_giveBack 43 = .ok (.getfield 18, 3) := by decide +kernel
theorem dX0_giveBack_46 : decode cX0_giveBack 46 = .ok (.iconst 1, 1) := by decide +kernel
theorem dX0_giveBack_47 : decode cX0_giveBack 47 = .ok (.isub, 1) := by decide +kernel
theorem dX0_giveBack_48 : decode cX0_giveBack 48 = .ok (.putfield 18, 3) := by decide +kernel
theorem dX0_giveBack_51 : decode cX0_giveBack 51 = .ok (.aload_n 0, 1) := by decide +kernel
theorem dX0_giveBack_52 : decode cX0_giveBack 52 = .ok (.dup, 1) := by decide +kernel
theorem dX0_giveBack_53 : decode cX0_giveBack 53 = .ok (.getfield 30, 3) := by decide +kernel
theorem dX0_giveBack_56 : decode cX0_giveBack 56 = .ok (.iconst 1, 1) := by decide +kernel
theorem dX0_giveBack_57 : decode cX0_giveBack 57 = .ok (.isub, 1) := by decide +kernel
theorem dX0_giveBack_58 : decode cX0_giveBack 58 = .ok (.putfield 30, 3) := by decide +kernel
theorem dX0_giveBack_61 : decode cX0_giveBack 61 = .ok (.aload_n 0, 1) := by decide +kernel
theorem dX0_giveBack_62 : decode cX0_giveBack 62 = .ok (.getfield 30, 3) := by decide +kernel
theorem dX0_giveBack_65 : decode cX0_giveBack 65 = .ok (.ireturn, 1) := by decide +kernel
theorem dX1_init_0 : decode cX1_init 0 = .ok (.aload_n 0, 1) := by decide +kernel
theorem dX1_init_1 : decode cX1_init 1 = .ok (.invokespecial 3, 3) := by decide +kernel
theorem dX1_init_4 : decode cX1_init 4 = .ok (.return_, 1) := by decide +kernel
theorem dX1_copyFrom_0 : decode cX1_copyFrom 0 = .ok (.aload_n 0, 1) := by decide +kernel
theorem dX1_copyFrom_1 : decode cX1_copyFrom 1 = .ok (.aload_n 1, 1) := by decide +kernel
theorem dX1_copyFrom_2 : decode cX1_copyFrom 2 = .ok (.getfield 9, 3) := by decide +kernel
theorem dX1_copyFrom_5 : decode cX1_copyFrom 5 = .ok (.putfield 9, 3) := by decide +kernel
theorem dX1_copyFrom_8 : decode cX1_copyFrom 8 = .ok (.aload_n 0, 1) := by decide +kernel
theorem dX1_copyFrom_9 : decode cX1_copyFrom 9 = .ok (.aload_n 1, 1) := by decide +kernel
theorem dX1_copyFrom_10 : decode cX1_copyFrom 10 = .ok (.getfield 15, 3) := by decide +kernel
theorem dX1_copyFrom_13 : decode cX1_copyFrom 13 = .ok (.putfield 15, 3) := by decide +kernel
theorem dX1_copyFrom_16 : decode cX1_copyFrom 16 = .ok (.aload_n 0, 1) := by decide +kernel
theorem dX1_copyFrom_17 : decode cX1_copyFrom 17 = .ok (.aload_n 1, 1) := by decide +kernel
theorem dX1_copyFrom_18 : decode cX1_copyFrom 18 = .ok (.getfield 18, 3) := by decide +kernel
theorem dX1_copyFrom_21 : decode cX1_copyFrom 21 = .ok (.putfield 18, 3) := by decide +kernel
theorem dX1_copyFrom_24 : decode cX1_copyFrom 24 = .ok (.aload_n 0, 1) := by decide +kernel
theorem dX1_copyFrom_25 : decode cX1_copyFrom 25 = .ok (.aload_n 1, 1) := by decide +kernel
theorem dX1_copyFrom_26 : decode cX1_copyFrom 26 = .ok (.getfield 21, 3) := by decide +kernel
theorem dX1_copyFrom_29 : decode cX1_copyFrom 29 = .ok (.putfield 21, 3) := by decide +kernel
theorem dX1_copyFrom_32 : decode cX1_copyFrom 32 = .ok (.aload_n 0, 1) := by decide +kernel
theorem dX1_copyFrom_33 : decode cX1_copyFrom 33 = .ok (.aload_n 1, 1) := by decide +kernel
theorem dX1_copyFrom_34 : decode cX1_copyFrom 34 = .ok (.getfield 24, 3) := by decide +kernel
theorem dX1_copyFrom_37 : decode cX1_copyFrom 37 = .ok (.putfield 24, 3) := by decide +kernel
theorem dX1_copyFrom_40 : decode cX1_copyFrom 40 = .ok (.aload_n 0, 1) := by decide +kernel
theorem dX1_copyFrom_41 : decode cX1_copyFrom 41 = .ok (.aload_n 1, 1) := by decide +kernel
theorem dX1_copyFrom_42 : decode cX1_copyFrom 42 = .ok (.getfield 27, 3) := by decide +kernel
theorem dX1_copyFrom_45 : decode cX1_copyFrom 45 = .ok (.putfield 27, 3) := by decide +kernel
theorem dX1_copyFrom_48 : decode cX1_copyFrom 48 = .ok (.return_, 1) := by decide +kernel
theorem dX1_lay_0 : decode cX1_lay 0 = .ok (.aload_n 0, 1) := by decide +kernel
theorem dX1_lay_1 : decode cX1_lay 1 = .ok (.iload_n 1, 1) := by decide +kernel
theorem dX1_lay_2 : decode cX1_lay 2 = .ok (.putfield 9, 3) := by decide +kernel
theorem dX1_lay_5 : decode cX1_lay 5 = .ok (.aload_n 0, 1) := by decide +kernel
theorem dX1_lay_6 : decode cX1_lay 6 = .ok (.iload_n 2, 1) := by decide +kernel
theorem dX1_lay_7 : decode cX1_lay 7 = .ok (.putfield 15, 3) := by decide +kernel
theorem dX1_lay_10 : decode cX1_lay 10 = .ok (.aload_n 0, 1) := by decide +kernel
theorem dX1_lay_11 : decode cX1_lay 11 = .ok (.iload_n 3, 1) := by decide +kernel
theorem dX1_lay_12 : decode cX1_lay 12 = .ok (.putfield 18, 3) := by decide +kernel
theorem dX1_lay_15 : decode cX1_lay 15 = .ok (.aload_n 0, 1) := by decide +kernel
theorem dX1_lay_16 : decode cX1_lay 16 = .ok (.iload 4, 2) := by decide +kernel
theorem dX1_lay_18 : decode cX1_lay 18 = .ok (.putfield 21, 3) := by decide +kernel
theorem dX1_lay_21 : decode cX1_lay 21 = .ok (.aload_n 0, 1) := by decide +kernel
theorem dX1_lay_22 : decode cX1_lay 22 = .ok (.iload 5, 2) := by decide +kernel
theorem dX1_lay_24 : decode cX1_lay 24 = .ok (.putfield 24, 3) := by decide +kernel
theorem dX1_lay_27 : decode cX1_lay 27 = .ok (.aload_n 0, 1) := by decide +kernel
theorem dX1_lay_28 : decode cX1_lay 28 = .ok (.iload 6, 2) := by decide +kernel
theorem dX1_lay_30 : decode cX1_lay 30 = .ok (.putfield 27, 3) := by decide +kernel
theorem dX1_lay_33 : decode cX1_lay 33 = .ok (.return_, 1) := by decide +kernel
theorem dX1_judge_0 : decode cX1_judge 0 = .ok (.aload_n 1, 1) := by decide +kernel
theorem dX1_judge_1 : decode cX1_judge 1 = .ok (.ifnull 7, 3) := by decide +kernel
theorem dX1_judge_4 : decode cX1_judge 4 = .ok (.aload_n 2, 1) := by decide +kernel
theorem dX1_judge_5 : decode cX1_judge 5 = .ok (.ifnonnull 4, 3) := by decide +kernel
theorem dX1_judge_8 : decode cX1_judge 8 = .ok (.return_, 1) := by decide +kernel
theorem dX1_judge_9 : decode cX1_judge 9 = .ok (.aload_n 0, 1) := by decide +kernel
theorem dX1_judge_10 : decode cX1_judge 10 = .ok (.aload_n 1, 1) := by decide +kernel
theorem dX1_judge_11 : decode cX1_judge 11 = .ok (.getfield 30, 3) := by decide +kernel
theorem dX1_judge_14 : decode cX1_judge 14 = .ok (.putfield 35, 3) := by decide +kernel
theorem dX1_judge_17 : decode cX1_judge 17 = .ok (.aload_n 0, 1) := by decide +kernel
theorem dX1_judge_18 : decode cX1_judge 18 = .ok (.aload_n 1, 1) := by decide +kernel
theorem dX1_judge_19 : decode cX1_judge 19 = .ok (.getfield 36, 3) := by decide +kernel
theorem dX1_judge_22 : decode cX1_judge 22 = .ok (.putfield 39, 3) := by decide +kernel
theorem dX1_judge_25 : decode cX1_judge 25 = .ok (.aload_n 0, 1) := by decide +kernel
theorem dX1_judge_26 : decode cX1_judge 26 = .ok (.aload_n 1, 1) := by decide +kernel
theorem dX1_judge_27 : decode cX1_judge 27 = .ok (.getfield 40, 3) := by decide +kernel
theorem dX1_judge_30 : decode cX1_judge 30 = .ok (.ifCond .eq 10, 3) := by decide +kernel
theorem dX1_judge_33 : decode cX1_judge 33 = .ok (.aload_n 1, 1) := by decide +kernel
theorem dX1_judge_34 : decode cX1_judge 34 = .ok (.getfield 40, 3) := by decide +kernel
theorem dX1_judge_37 : decode cX1_judge 37 = .ok (.goto 7, 3) := by decide +kernel
theorem dX1_judge_40 : decode cX1_judge 40 = .ok (.aload_n 2, 1) := by decide +kernel
theorem dX1_judge_41 : decode cX1_judge 41 = .ok (.getfield 40, 3) := by decide +kernel
theorem dX1_judge_44 : decode cX1_judge 44 = .ok (.putfield 43, 3) := by decide +kernel
theorem dX1_judge_47 : decode cX1_judge 47 = .ok (.aload_n 0, 1) := by decide +kernel
theorem dX1_judge_48 : decode cX1_judge 48 = .ok (.aload_n 0, 1) := by decide +kernel
theorem dX1_judge_49 : decode cX1_judge 49 = .ok (.getfield 43, 3) := by decide +kernel
theorem dX1_judge_52 : decode cX1_judge 52 = .ok (.ifCond .eq 7, 3) := by decide +kernel
theorem dX1_judge_55 : decode cX1_judge 55 = .ok (.iconst 3, 1) := by decide +kernel
theorem dX1_judge_56 : decode cX1_judge 56 = .ok (.goto 21, 3) := by decide +kernel
theorem dX1_judge_59 : decode cX1_judge 59 = .ok (.aload_n 0, 1) := by decide +kernel
theorem dX1_judge_60 : decode cX1_judge 60 = .ok (.getfield 24, 3) := by decide +kernel
theorem dX1_judge_63 : decode cX1_judge 63 = .ok (.iconst 3, 1) := by decide +kernel
theorem dX1_judge_64 : decode cX1_judge 64 = .ok (.aload_n 0, 1) := by decide +kernel
theorem dX1_judge_65 : decode cX1_judge 65 = .ok (.getfield 21, 3) := by decide +kernel
theorem dX1_judge_68 : decode cX1_judge 68 = .ok (.imul, 1) := by decide +kernel
theorem dX1_judge_69 : decode cX1_judge 69 = .ok (.if_icmp .le 7, 3) := by decide +kernel
theorem dX1_judge_72 : decode cX1_judge 72 = .ok (.iconst 4, 1) := by decide +kernel
theorem dX1_judge_73 : decode cX1_judge 73 = .ok (.goto 4, 3) := by decide +kernel
theorem dX1_judge_76 : decode cX1_judge 76 = .ok (.iconst 0, 1) := by decide +kernel
theorem dX1_judge_77 : decode cX1_judge 77 = .ok (.putfield 46, 3) := by decide +kernel
theorem dX1_judge_80 : decode cX1_judge 80 = .ok (.aload_n 0, 1) := by decide +kernel
theorem dX1_judge_81 : decode cX1_judge 81 = .ok (.aload_n 0, 1) := by decide +kernel
theorem dX1_judge_82 : decode cX1_judge 82 = .ok (.getfield 43, 3) := by decide +kernel
theorem dX1_judge_85 : decode cX1_judge 85 = .ok (.ifCond .eq 7, 3) := by decide +kernel
theorem dX1_judge_88 : decode cX1_judge 88 = .ok (.iconst 0, 1) := by decide +kernel
theorem dX1_judge_89 : decode cX1_judge 89 = .ok (.goto 25, 3) := by decide +kernel
theorem dX1_judge_92 : decode cX1_judge 92 = .ok (.aload_n 2, 1) := by decide +kernel
theorem dX1_judge_93 : decode cX1_judge 93 = .ok (.getfield 47, 3) := by decide +kernel
theorem dX1_judge_96 : decode cX1_judge 96 = .ok (.aload_n 1, 1) := by decide +kernel
theorem dX1_judge_97 : decode cX1_judge 97 = .ok (.getfield 47, 3) := by decide +kernel
theorem dX1_judge_100 : decode cX1_judge 100 = .ok (.isub, 1) := by decide +kernel
theorem dX1_judge_101 : decode cX1_judge 101 = .ok (.i2l, 1) := by decide +kernel
theorem dX1_judge_102 : decode cX1_judge 102 = .ok (.ldc2_w 50, 3) := by decide +kernel
theorem dX1_judge_105 : decode cX1_judge 105 = .ok (.lmul, 1) := by decide +kernel
theorem dX1_judge_106 : decode cX1_judge 106 = .ok (.aload_n 0, 1) := by decide +kernel
theorem dX1_judge_107 : decode cX1_judge 107 = .ok (.getfield 21, 3) := by decide +kernel
theorem dX1_judge_110 : decode cX1_judge 110 = .ok (.i2l, 1) := by decide +kernel
theorem dX1_judge_111 : decode cX1_judge 111 = .ok (.invokestatic 52, 3) := by decide +kernel
theorem dX1_judge_114 : decode cX1_judge 114 = .ok (.putfield 58, 3) := by decide +kernel
theorem dX1_judge_117 : decode cX1_judge 117 = .ok (.aload_n 0, 1) := by decide +kernel
theorem dX1_judge_118 : decode cX1_judge 118 = .ok (.aload_n 0, 1) := by decide +kernel
theorem dX1_judge_119 : decode cX1_judge 119 = .ok (.getfield 46, 3) := by decide +kernel
theorem dX1_judge_122 : decode cX1_judge 122 = .ok (.ifCond .eq 8, 3) := by decide +kernel
theorem dX1_judge_125 : decode cX1_judge 125 = .ok (.ldc 61, 2) := by decide +kernel
theorem dX1_judge_127 : decode cX1_judge 127 = .ok (.goto 11, 3) := by decide +kernel
theorem dX1_judge_130 : decode cX1_judge 130 = .ok (.aload_n 0, 1) := by decide +kernel
theorem dX1_judge_131 : decode cX1_judge 131 = .ok (.aload_n 0, 1) := by decide +kernel
theorem dX1_judge_132 : decode cX1_judge 132 = .ok (.getfield 27, 3) := by decide +kernel
theorem dX1_judge_135 : decode cX1_judge 135 = .ok (.invokevirtual 62, 3) := by decide +kernel
theorem dX1_judge_138 : decode cX1_judge 138 = .ok (.putfield 66, 3) := by decide +kernel
theorem dX1_judge_141 : decode cX1_judge 141 = .ok (.return_, 1) := by decide +kernel
theorem dX1_startWith_0 : decode cX1_startWith 0 = .ok (.aload_n 0, 1) := by decide +kernel
theorem dX1_startWith_1 : decode cX1_startWith 1 = .ok (.getfield 18, 3) := by decide +kernel
theorem dX1_startWith_4 : decode cX1_startWith 4 = .ok (.iload_n 1, 1) := by decide +kernel
theorem dX1_startWith_5 : decode cX1_startWith 5 = .ok (.aload_n 0, 1) := by decide +kernel
theorem dX1_startWith_6 : decode cX1_startWith 6 = .ok (.getfield 24, 3) := by decide +kernel
theorem dX1_startWith_9 : decode cX1_startWith 9 = .ok (.imul, 1) := by decide +kernel
theorem dX1_startWith_10 : decode cX1_startWith 10 = .ok (.i2l, 1) := by decide +kernel
theorem dX1_startWith_11 : decode cX1_startWith 11 = .ok (.aload_n 0, 1) := by decide +kernel
theorem dX1_startWith_12 : decode cX1_startWith 12 = .ok (.getfield 21, 3) := by decide +kernel
theorem dX1_startWith_15 : decode cX1_startWith 15 = .ok (.i2l, 1) := by decide +kernel
theorem dX1_startWith_16 : decode cX1_startWith 16 = .ok (.invokestatic 52, 3) := by decide +kernel
theorem dX1_startWith_19 : decode cX1_startWith 19 = .ok (.iadd, 1) := by decide +kernel
theorem dX1_startWith_20 : decode cX1_startWith 20 = .ok (.aload_n 0, 1) := by decide +kernel
theorem dX1_startWith_21 : decode cX1_startWith 21 = .ok (.getfield 58, 3) := by decide +kernel
theorem dX1_startWith_24 : decode cX1_startWith 24 = .ok (.iadd, 1) := by decide +kernel
theorem dX1_startWith_25 : decode cX1_startWith 25 = .ok (.invokestatic 69, 3) := by decide +kernel
theorem dX1_startWith_28 : decode cX1_startWith 28 = .ok (.ireturn, 1) := by decide +kernel
theorem dX1_number_0 : decode cX1_number 0 = .ok (.iload_n 1, 1) := by decide +kernel
theorem dX1_number_1 : decode cX1_number 1 = .ok (.tableswitch 78 0 6 #[43, 48, 53, 58, 63, 68, 73], 43) := by decide +kernel
theorem dX1_number_44 : decode cX1_number 44 = .ok (.aload_n 0, 1) := by decide +kernel
theorem dX1_number_45 : decode cX1_number 45 = .ok (.getfield 9, 3) := by decide +kernel
theorem dX1_number_48 : decode cX1_number 48 = .ok (.ireturn, 1) := by decide +kernel
theorem dX1_number_49 : decode cX1_number 49 = .ok (.aload_n 0, 1) := by decide +kernel
theorem dX1_number_50 : decode cX1_number 50 = .ok (.getfield 15, 3) := by decide +kernel
theorem dX1_number_53 : decode cX1_number 53 = .ok (.ireturn, 1) := by decide +kernel
theorem dX1_number_54 : decode cX1_number 54 = .ok (.aload_n 0, 1) := by decide +kernel
theorem dX1_number_55 : decode cX1_number 55 = .ok (.getfield 18, 3) := by decide +kernel
theorem dX1_number_58 : decode cX1_number 58 = .ok (.ireturn, 1) := by decide +kernel
theorem dX1_number_59 : decode cX1_number 59 = .ok (.aload_n 0, 1) := by decide +kernel
theorem dX1_number_60 : decode cX1_number 60 = .ok (.getfield 21, 3) := by decide +kernel
theorem dX1_number_63 : decode cX1_number 63 = .ok (.ireturn, 1) := by decide +kernel
theorem dX1_number_64 : decode cX1_number 64 = .ok (.aload_n 0, 1) := by decide +kernel
theorem dX1_number_65 : decode cX1_number 65 = .ok (.getfield 24, 3) := by decide +kernel
theorem dX1_number_68 : decode cX1_number 68 = .ok (.ireturn, 1) := by decide +kernel
theorem dX1_number_69 : decode cX1_number 69 = .ok (.aload_n 0, 1) := by decide +kernel
theorem dX1_number_70 : decode cX1_number 70 = .ok (.getfield 27, 3) := by decide +kernel
theorem dX1_number_73 : decode cX1_number 73 = .ok (.ireturn, 1) := by decide +kernel
theorem dX1_number_74 : decode cX1_number 74 = .ok (.aload_n 0, 1) := by decide +kernel
theorem dX1_number_75 : decode cX1_number 75 = .ok (.getfield 46, 3) := by decide +kernel
theorem dX1_number_78 : decode cX1_number 78 = .ok (.ireturn, 1) := by decide +kernel
theorem dX1_number_79 : decode cX1_number 79 = .ok (.aload_n 0, 1) := by decide +kernel
theorem dX1_number_80 : decode cX1_number 80 = .ok (.getfield 66, 3) := by decide +kernel
theorem dX1_number_83 : decode cX1_number 83 = .ok (.ireturn, 1) := by decide +kernel
theorem dX2_init_0 : decode cX2_init 0 = .ok (.aload_n 0, 1) := by decide +kernel
theorem dX2_init_1 : decode cX2_init 1 = .ok (.invokespecial 3, 3) := by decide +kernel
theorem dX2_init_4 : decode cX2_init 4 = .ok (.aload_n 0, 1) := by decide +kernel
theorem dX2_init_5 : decode cX2_init 5 = .ok (.iconst 3, 1) := by decide +kernel
theorem dX2_init_6 : decode cX2_init 6 = .ok (.newarray .int, 2) := by decide +kernel
theorem dX2_init_8 : decode cX2_init 8 = .ok (.dup, 1) := by decide +kernel
theorem dX2_init_9 : decode cX2_init 9 = .ok (.iconst 0, 1) := by decide +kernel
theorem dX2_init_10 : decode cX2_init 10 = .ok (.bipush 20, 2) := by decide +kernel
theorem dX2_init_12 : decode cX2_init 12 = .ok (.iastore, 1) := by decide +kernel
theorem dX2_init_13 : decode cX2_init 13 = .ok (.dup, 1) := by decide +kernel
theorem dX2_init_14 : decode cX2_init 14 = .ok (.iconst 1, 1) := by decide +kernel
theorem dX2_init_15 : decode cX2_init 15 = .ok (.bipush 30, 2) := by decide +kernel
theorem dX2_init_17 : decode cX2_init 17 = .ok (.iastore, 1) := by decide +kernel
theorem dX2_init_18 : decode cX2_init 18 = .ok (.dup, 1) := by decide +kernel
theorem dX2_init_19 : decode cX2_init 19 = .ok (.iconst 2, 1) := by decide +kernel
theorem dX2_init_20 : decode cX2_init 20 = .ok (.sipush 500, 3) := by decide +kernel
theorem dX2_init_23 : decode cX2_init 23 = .ok (.iastore, 1) := by decide +kernel
theorem dX2_init_24 : decode cX2_init 24 = .ok (.putfield 9, 3) := by decide +kernel
theorem dX2_init_27 : decode cX2_init 27 = .ok (.aload_n 0, 1) := by decide +kernel
theorem dX2_init_28 : decode cX2_init 28 = .ok (.bipush 6, 2) := by decide +kernel
theorem dX2_init_30 : decode cX2_init 30 = .ok (.anewarray 15, 3) := by decide +kernel
theorem dX2_init_33 : decode cX2_init 33 = .ok (.putfield 17, 3) := by decide +kernel
theorem dX2_init_36 : decode cX2_init 36 = .ok (.aload_n 0, 1) := by decide +kernel
theorem dX2_init_37 : decode cX2_init 37 = .ok (.iconst 4, 1) := by decide +kernel
theorem dX2_init_38 : decode cX2_init 38 = .ok (.anewarray 21, 3) := by decide +kernel
theorem dX2_init_41 : decode cX2_init 41 = .ok (.putfield 23, 3) := by decide +kernel
theorem dX2_init_44 : decode cX2_init 44 = .ok (.aload_n 0, 1) := by decide +kernel
theorem dX2_init_45 : decode cX2_init 45 = .ok (.iconst 4, 1) := by decide +kernel
theorem dX2_init_46 : decode cX2_init 46 = .ok (.anewarray 27, 3) := by decide +kernel
theorem dX2_init_49 : decode cX2_init 49 = .ok (.putfield 29, 3) := by decide +kernel
theorem dX2_init_52 : decode cX2_init 52 = .ok (.iconst 0, 1) := by decide +kernel
theorem dX2_init_53 : decode cX2_init 53 = .ok (.istore_n 1, 1) := by decide +kernel
theorem dX2_init_54 : decode cX2_init 54 = .ok (.iload_n 1, 1) := by decide +kernel
theorem dX2_init_55 : decode cX2_init 55 = .ok (.bipush 6, 2) := by decide +kernel
theorem dX2_init_57 : decode cX2_init 57 = .ok (.if_icmp .ge 22, 3) := by decide +kernel
theorem dX2_init_60 : decode cX2_init 60 = .ok (.aload_n 0, 1) := by decide +kernel
theorem dX2_init_61 : decode cX2_init 61 = .ok (.getfield 17, 3) := by decide +kernel
theorem dX2_init_64 : decode cX2_init 64 = .ok (.iload_n 1, 1) := by decide +kernel
theorem dX2_init_65 : decode cX2_init 65 = .ok (.new 15, 3) := by decide +kernel
theorem dX2_init_68 : decode cX2_init 68 = .ok (.dup, 1) := by decide +kernel
theorem dX2_init_69 : decode cX2_init 69 = .ok (.invokespecial 33, 3) := by decide +kernel
theorem dX2_init_72 : decode cX2_init 72 = .ok (.aastore, 1) := by decide +kernel
theorem dX2_init_73 : decode cX2_init 73 = .ok (.iinc 1 1, 3) := by decide +kernel
theorem dX2_init_76 : decode cX2_init 76 = .ok (.goto (-22), 3) := by decide +kernel
theorem dX2_init_79 : decode cX2_init 79 = .ok (.iconst 0, 1) := by decide +kernel
theorem dX2_init_80 : decode cX2_init 80 = .ok (.istore_n 1, 1) := by decide +kernel
theorem dX2_init_81 : decode cX2_init 81 = .ok (.iload_n 1, 1) := by decide +kernel
theorem dX2_init_82 : decode cX2_init 82 = .ok (.iconst 4, 1) := by decide +kernel
theorem dX2_init_83 : decode cX2_init 83 = .ok (.if_icmp .ge 22, 3) := by decide +kernel
theorem dX2_init_86 : decode cX2_init 86 = .ok (.aload_n 0, 1) := by decide +kernel
theorem dX2_init_87 : decode cX2_init 87 = .ok (.getfield 23, 3) := by decide +kernel
theorem dX2_init_90 : decode cX2_init 90 = .ok (.iload_n 1, 1) := by decide +kernel
theorem dX2_init_91 : decode cX2_init 91 = .ok (.new 21, 3) := by decide +kernel
theorem dX2_init_94 : decode cX2_init 94 = .ok (.dup, 1) := by decide +kernel
theorem dX2_init_95 : decode cX2_init 95 = .ok (.invokespecial 34, 3) := by decide +kernel
theorem dX2_init_98 : decode cX2_init 98 = .ok (.aastore, 1) := by decide +kernel
theorem dX2_init_99 : decode cX2_init 99 = .ok (.iinc 1 1, 3) := by decide +kernel
theorem dX2_init_102 : decode cX2_init 102 = .ok (.goto (-21), 3) := by decide +kernel
theorem dX2_init_105 : decode cX2_init 105 = .ok (.iconst 0, 1) := by decide +kernel
theorem dX2_init_106 : decode cX2_init 106 = .ok (.istore_n 1, 1) := by decide +kernel
theorem dX2_init_107 : decode cX2_init 107 = .ok (.iload_n 1, 1) := by decide +kernel
theorem dX2_init_108 : decode cX2_init 108 = .ok (.iconst 4, 1) := by decide +kernel
theorem dX2_init_109 : decode cX2_init 109 = .ok (.if_icmp .ge 22, 3) := by decide +kernel
theorem dX2_init_112 : decode cX2_init 112 = .ok (.aload_n 0, 1) := by decide +kernel
theorem dX2_init_113 : decode cX2_init 113 = .ok (.getfield 29, 3) := by decide +kernel
theorem dX2_init_116 : decode cX2_init 116 = .ok (.iload_n 1, 1) := by decide +kernel
theorem dX2_init_117 : decode cX2_init 117 = .ok (.new 27, 3) := by decide +kernel
theorem dX2_init_120 : decode cX2_init 120 = .ok (.dup, 1) := by decide +kernel
theorem dX2_init_121 : decode cX2_init 121 = .ok (.invokespecial 35, 3) := by decide +kernel
theorem dX2_init_124 : decode cX2_init 124 = .ok (.aastore, 1) := by decide +kernel
theorem dX2_init_125 : decode cX2_init 125 = .ok (.iinc 1 1, 3) := by decide +kernel
theorem dX2_init_128 : decode cX2_init 128 = .ok (.goto (-21), 3) := by decide +kernel
theorem dX2_init_131 : decode cX2_init 131 = .ok (.return_, 1) := by decide +kernel
theorem dX2_copyFrom_0 : decode cX2_copyFrom 0 = .ok (.aload_n 1, 1) := by decide +kernel
theorem dX2_copyFrom_1 : decode cX2_copyFrom 1 = .ok (.getfield 9, 3) := by decide +kernel
theorem dX2_copyFrom_4 : decode cX2_copyFrom 4 = .ok (.iconst 0, 1) := by decide +kernel
theorem dX2_copyFrom_5 : decode cX2_copyFrom 5 = .ok (.aload_n 0, 1) := by decide +kernel
theorem dX2_copyFrom_6 : decode cX2_copyFrom 6 = .ok (.getfield 9, 3) := by decide +kernel
theorem dX2_copyFrom_9 : decode cX2_copyFrom 9 = .ok (.iconst 0, 1) := by decide +kernel
theorem dX2_copyFrom_10 : decode cX2_copyFrom 10 = .ok (.iconst 3, 1) := by decide +kernel
theorem dX2_copyFrom_11 : decode cX2_copyFrom 11 = .ok (.invokestatic 36, 3) := by decide +kernel
theorem dX2_copyFrom_14 : decode cX2_copyFrom 14 = .ok (.aload_n 0, 1) := by decide +kernel
theorem dX2_copyFrom_15 : decode cX2_copyFrom 15 = .ok (.aload_n 1, 1) := by decide +kernel
theorem dX2_copyFrom_16 : decode cX2_copyFrom 16 = .ok (.getfield 42, 3) := by decide +kernel
theorem dX2_copyFrom_19 : decode cX2_copyFrom 19 = .ok (.putfield 42, 3) := by decide +kernel
theorem dX2_copyFrom_22 : decode cX2_copyFrom 22 = .ok (.aload_n 0, 1) := by decide +kernel
theorem dX2_copyFrom_23 : decode cX2_copyFrom 23 = .ok (.aload_n 1, 1) := by decide +kernel
theorem dX2_copyFrom_24 : decode cX2_copyFrom 24 = .ok (.getfield 46, 3) := by decide +kernel
theorem dX2_copyFrom_27 : decode cX2_copyFrom 27 = .ok (.putfield 46, 3) := by decide +kernel
theorem dX2_copyFrom_30 : decode cX2_copyFrom 30 = .ok (.aload_n 0, 1) := by decide +kernel
theorem dX2_copyFrom_31 : decode cX2_copyFrom 31 = .ok (.aload_n 1, 1) := by decide +kernel
theorem dX2_copyFrom_32 : decode cX2_copyFrom 32 = .ok (.getfield 49, 3) := by decide +kernel
theorem dX2_copyFrom_35 : decode cX2_copyFrom 35 = .ok (.putfield 49, 3) := by decide +kernel
theorem dX2_copyFrom_38 : decode cX2_copyFrom 38 = .ok (.iconst 0, 1) := by decide +kernel
theorem dX2_copyFrom_39 : decode cX2_copyFrom 39 = .ok (.istore_n 2, 1) := by decide +kernel
theorem dX2_copyFrom_40 : decode cX2_copyFrom 40 = .ok (.iload_n 2, 1) := by decide +kernel
theorem dX2_copyFrom_41 : decode cX2_copyFrom 41 = .ok (.bipush 6, 2) := by decide +kernel
theorem dX2_copyFrom_43 : decode cX2_copyFrom 43 = .ok (.if_icmp .ge 24, 3) := by decide +kernel
theorem dX2_copyFrom_46 : decode cX2_copyFrom 46 = .ok (.aload_n 0, 1) := by decide +kernel
theorem dX2_copyFrom_47 : decode cX2_copyFrom 47 = .ok (.getfield 17, 3) := by decide +kernel
theorem dX2_copyFrom_50 : decode cX2_copyFrom 50 = .ok (.iload_n 2, 1) := by decide +kernel
theorem dX2_copyFrom_51 : decode cX2_copyFrom 51 = .ok (.aaload, 1) := by decide +kernel
theorem dX2_copyFrom_52 : decode cX2_copyFrom 52 = .ok (.aload_n 1, 1) := by decide +kernel
theorem dX2_copyFrom_53 : decode cX2_copyFrom 53 = .ok (.getfield 17, 3) := by decide +kernel
theorem dX2_copyFrom_56 : decode cX2_copyFrom 56 = .ok (.iload_n 2, 1) := by decide +kernel
theorem dX2_copyFrom_57 : decode cX2_copyFrom 57 = .ok (.aaload, 1) := by decide +kernel
theorem dX2_copyFrom_58 : decode cX2_copyFrom 58 = .ok (.invokevirtual 52, 3) := by decide +kernel
theorem dX2_copyFrom_61 : decode cX2_copyFrom 61 = .ok (.iinc 2 1, 3) := by decide +kernel
theorem dX2_copyFrom_64 : decode cX2_copyFrom 64 = .ok (.goto (-24), 3) := by decide +kernel
theorem dX2_copyFrom_67 : decode cX2_copyFrom 67 = .ok (.iconst 0, 1) := by decide +kernel
theorem dX2_copyFrom_68 : decode cX2_copyFrom 68 = .ok (.istore_n 2, 1) := by decide +kernel
theorem dX2_copyFrom_69 : decode cX2_copyFrom 69 = .ok (.iload_n 2, 1) := by decide +kernel
theorem dX2_copyFrom_70 : decode cX2_copyFrom 70 = .ok (.iconst 4, 1) := by decide +kernel
theorem dX2_copyFrom_71 : decode cX2_copyFrom 71 = .ok (.if_icmp .ge 24, 3) := by decide +kernel
theorem dX2_copyFrom_74 : decode cX2_copyFrom 74 = .ok (.aload_n 0, 1) := by decide +kernel
theorem dX2_copyFrom_75 : decode cX2_copyFrom 75 = .ok (.getfield 23, 3) := by decide +kernel
theorem dX2_copyFrom_78 : decode cX2_copyFrom 78 = .ok (.iload_n 2, 1) := by decide +kernel
theorem dX2_copyFrom_79 : decode cX2_copyFrom 79 = .ok (.aaload, 1) := by decide +kernel
theorem dX2_copyFrom_80 : decode cX2_copyFrom 80 = .ok (.aload_n 1, 1) := by decide +kernel
theorem dX2_copyFrom_81 : decode cX2_copyFrom 81 = .ok (.getfield 23, 3) := by decide +kernel
theorem dX2_copyFrom_84 : decode cX2_copyFrom 84 = .ok (.iload_n 2, 1) := by decide +kernel
theorem dX2_copyFrom_85 : decode cX2_copyFrom 85 = .ok (.aaload, 1) := by decide +kernel
theorem dX2_copyFrom_86 : decode cX2_copyFrom 86 = .ok (.invokevirtual 56, 3) := by decide +kernel
theorem dX2_copyFrom_89 : decode cX2_copyFrom 89 = .ok (.iinc 2 1, 3) := by decide +kernel
theorem dX2_copyFrom_92 : decode cX2_copyFrom 92 = .ok (.goto (-23), 3) := by decide +kernel
theorem dX2_copyFrom_95 : decode cX2_copyFrom 95 = .ok (.iconst 0, 1) := by decide +kernel
theorem dX2_copyFrom_96 : decode cX2_copyFrom 96 = .ok (.istore_n 2, 1) := by decide +kernel
theorem dX2_copyFrom_97 : decode cX2_copyFrom 97 = .ok (.iload_n 2, 1) := by decide +kernel
theorem dX2_copyFrom_98 : decode cX2_copyFrom 98 = .ok (.iconst 4, 1) := by decide +kernel
theorem dX2_copyFrom_99 : decode cX2_copyFrom 99 = .ok (.if_icmp .ge 24, 3) := by decide +kernel
theorem dX2_copyFrom_102 : decode cX2_copyFrom 102 = .ok (.aload_n 0, 1) := by decide +kernel
theorem dX2_copyFrom_103 : decode cX2_copyFrom 103 = .ok (.getfield 29, 3) := by decide +kernel
theorem dX2_copyFrom_106 : decode cX2_copyFrom 106 = .ok (.iload_n 2, 1) := by decide +kernel
theorem dX2_copyFrom_107 : decode cX2_copyFrom 107 = .ok (.aaload, 1) := by decide +kernel
theorem dX2_copyFrom_108 : decode cX2_copyFrom 108 = .ok (.aload_n 1, 1) := by decide +kernel
theorem dX2_copyFrom_109 : decode cX2_copyFrom 109 = .ok (.getfield 29, 3) := by decide +kernel
theorem dX2_copyFrom_112 : decode cX2_copyFrom 112 = .ok (.iload_n 2, 1) := by decide +kernel
theorem dX2_copyFrom_113 : decode cX2_copyFrom 113 = .ok (.aaload, 1) := by decide +kernel
theorem dX2_copyFrom_114 : decode cX2_copyFrom 114 = .ok (.invokevirtual 59, 3) := by decide +kernel
theorem dX2_copyFrom_117 : decode cX2_copyFrom 117 = .ok (.iinc 2 1, 3) := by decide +kernel
theorem dX2_copyFrom_120 : decode cX2_copyFrom 120 = .ok (.goto (-23), 3) := by decide +kernel
theorem dX2_copyFrom_123 : decode cX2_copyFrom 123 = .ok (.return_, 1) := by decide +kernel
theorem dX2_judge_0 : decode cX2_judge 0 = .ok (.iconst 0, 1) := by decide +kernel
theorem dX2_judge_1 : decode cX2_judge 1 = .ok (.istore_n 1, 1) := by decide +kernel
theorem dX2_judge_2 : decode cX2_judge 2 = .ok (.iload_n 1, 1) := by decide +kernel
theorem dX2_judge_3 : decode cX2_judge 3 = .ok (.aload_n 0, 1) := by decide +kernel
theorem dX2_judge_4 : decode cX2_judge 4 = .ok (.getfield 42, 3) := by decide +kernel
theorem dX2_judge_7 : decode cX2_judge 7 = .ok (.if_icmp .ge 30, 3) := by decide +kernel
theorem dX2_judge_10 : decode cX2_judge 10 = .ok (.iload_n 1, 1) := by decide +kernel
theorem dX2_judge_11 : decode cX2_judge 11 = .ok (.bipush 6, 2) := by decide +kernel
theorem dX2_judge_13 : decode cX2_judge 13 = .ok (.if_icmp .ge 24, 3) := by decide +kernel
theorem dX2_judge_16 : decode cX2_judge 16 = .ok (.aload_n 0, 1) := by decide +kernel
theorem dX2_judge_17 : decode cX2_judge 17 = .ok (.getfield 17, 3) := by decide +kernel
theorem dX2_judge_20 : decode cX2_judge 20 = .ok (.iload_n 1, 1) := by decide +kernel
theorem dX2_judge_21 : decode cX2_judge 21 = .ok (.aaload, 1) := by decide +kernel
theorem dX2_judge_22 : decode cX2_judge 22 = .ok (.aload_n 0, 1) := by decide +kernel
theorem dX2_judge_23 : decode cX2_judge 23 = .ok (.getfield 9, 3) := by decide +kernel
theorem dX2_judge_26 : decode cX2_judge 26 = .ok (.iconst 0, 1) := by decide +kernel
theorem dX2_judge_27 : decode cX2_judge 27 = .ok (.iaload, 1) := by decide +kernel
theorem dX2_judge_28 : decode cX2_judge 28 = .ok (.invokevirtual 62, 3) := by decide +kernel
theorem dX2_judge_31 : decode cX2_judge 31 = .ok (.iinc 1 1, 3) := by decide +kernel
theorem dX2_judge_34 : decode cX2_judge 34 = .ok (.goto (-32), 3) := by decide +kernel
theorem dX2_judge_37 : decode cX2_judge 37 = .ok (.iconst 0, 1) := by decide +kernel
theorem dX2_judge_38 : decode cX2_judge 38 = .ok (.istore_n 1, 1) := by decide +kernel
theorem dX2_judge_39 : decode cX2_judge 39 = .ok (.iload_n 1, 1) := by decide +kernel
theorem dX2_judge_40 : decode cX2_judge 40 = .ok (.aload_n 0, 1) := by decide +kernel
theorem dX2_judge_41 : decode cX2_judge 41 = .ok (.getfield 46, 3) := by decide +kernel
theorem dX2_judge_44 : decode cX2_judge 44 = .ok (.if_icmp .ge 49, 3) := by decide +kernel
theorem dX2_judge_47 : decode cX2_judge 47 = .ok (.iload_n 1, 1) := by decide +kernel
theorem dX2_judge_48 : decode cX2_judge 48 = .ok (.iconst 4, 1) := by decide +kernel
theorem dX2_judge_49 : decode cX2_judge 49 = .ok (.if_icmp .ge 44, 3) := by decide +kernel
theorem dX2_judge_52 : decode cX2_judge 52 = .ok (.aload_n 0, 1) := by decide +kernel
theorem dX2_judge_53 : decode cX2_judge 53 = .ok (.getfield 23, 3) := by decide +kernel
theorem dX2_judge_56 : decode cX2_judge 56 = .ok (.iload_n 1, 1) := by decide +kernel
theorem dX2_judge_57 : decode cX2_judge 57 = .ok (.aaload, 1) := by decide +kernel
theorem dX2_judge_58 : decode cX2_judge 58 = .ok (.aload_n 0, 1) := by decide +kernel
theorem dX2_judge_59 : decode cX2_judge 59 = .ok (.aload_n 0, 1) := by decide +kernel
theorem dX2_judge_60 : decode cX2_judge 60 = .ok (.getfield 23, 3) := by decide +kernel
theorem dX2_judge_63 : decode cX2_judge 63 = .ok (.iload_n 1, 1) := by decide +kernel
theorem dX2_judge_64 : decode cX2_judge 64 = .ok (.aaload, 1) := by decide +kernel
theorem dX2_judge_65 : decode cX2_judge 65 = .ok (.getfield 66, 3) := by decide +kernel
theorem dX2_judge_68 : decode cX2_judge 68 = .ok (.invokevirtual 69, 3) := by decide +kernel
theorem dX2_judge_71 : decode cX2_judge 71 = .ok (.aload_n 0, 1) := by decide +kernel
theorem dX2_judge_72 : decode cX2_judge 72 = .ok (.aload_n 0, 1) := by decide +kernel
theorem dX2_judge_73 : decode cX2_judge 73 = .ok (.getfield 23, 3) := by decide +kernel
theorem dX2_judge_76 : decode cX2_judge 76 = .ok (.iload_n 1, 1) := by decide +kernel
theorem dX2_judge_77 : decode cX2_judge 77 = .ok (.aaload, 1) := by decide +kernel
theorem dX2_judge_78 : decode cX2_judge 78 = .ok (.getfield 73, 3) := by decide +kernel
theorem dX2_judge_81 : decode cX2_judge 81 = .ok (.invokevirtual 69, 3) := by decide +kernel
theorem dX2_judge_84 : decode cX2_judge 84 = .ok (.invokevirtual 76, 3) := by decide +kernel
theorem dX2_judge_87 : decode cX2_judge 87 = .ok (.iinc 1 1, 3) := by decide +kernel
theorem dX2_judge_90 : decode cX2_judge 90 = .ok (.goto (-51), 3) := by decide +kernel
theorem dX2_judge_93 : decode cX2_judge 93 = .ok (.iconst 0, 1) := by decide +kernel
theorem dX2_judge_94 : decode cX2_judge 94 = .ok (.istore_n 1, 1) := by decide +kernel
theorem dX2_judge_95 : decode cX2_judge 95 = .ok (.iload_n 1, 1) := by decide +kernel
theorem dX2_judge_96 : decode cX2_judge 96 = .ok (.aload_n 0, 1) := by decide +kernel
theorem dX2_judge_97 : decode cX2_judge 97 = .ok (.getfield 49, 3) := by decide +kernel
theorem dX2_judge_100 : decode cX2_judge 100 = .ok (.if_icmp .ge 59, 3) := by decide +kernel
theorem dX2_judge_103 : decode cX2_judge 103 = .ok (.iload_n 1, 1) := by decide +kernel
theorem dX2_judge_104 : decode cX2_judge 104 = .ok (.iconst 4, 1) := by decide +kernel
theorem dX2_judge_105 : decode cX2_judge 105 = .ok (.if_icmp .ge 54, 3) := by decide +kernel
theorem dX2_judge_108 : decode cX2_judge 108 = .ok (.aload_n 0, 1) := by decide +kernel
theorem dX2_judge_109 : decode cX2_judge 109 = .ok (.aload_n 0, 1) := by decide +kernel
theorem dX2_judge_110 : decode cX2_judge 110 = .ok (.getfield 29, 3) := by decide +kernel
theorem dX2_judge_113 : decode cX2_judge 113 = .ok (.iload_n 1, 1) := by decide +kernel
theorem dX2_judge_114 : decode cX2_judge 114 = .ok (.aaload, 1) := by decide +kernel
theorem dX2_judge_115 : decode cX2_judge 115 = .ok (.getfield 79, 3) := by decide +kernel
theorem dX2_judge_118 : decode cX2_judge 118 = .ok (.invokevirtual 82, 3) := by decide +kernel
theorem dX2_judge_121 : decode cX2_judge 121 = .ok (.astore_n 2, 1) := by decide +kernel
theorem dX2_judge_122 : decode cX2_judge 122 = .ok (.aload_n 0, 1) := by decide +kernel
theorem dX2_judge_123 : decode cX2_judge 123 = .ok (.aload_n 0, 1) := by decide +kernel
theorem dX2_judge_124 : decode cX2_judge 124 = .ok (.getfield 29, 3) := by decide +kernel
theorem dX2_judge_127 : decode cX2_judge 127 = .ok (.iload_n 1, 1) := by decide +kernel
theorem dX2_judge_128 : decode cX2_judge 128 = .ok (.aaload, 1) := by decide +kernel
theorem dX2_judge_129 : decode cX2_judge 129 = .ok (.getfield 86, 3) := by decide +kernel
theorem dX2_judge_132 : decode cX2_judge 132 = .ok (.invokevirtual 82, 3) := by decide +kernel
theorem dX2_judge_135 : decode cX2_judge 135 = .ok (.astore_n 3, 1) := by decide +kernel
theorem dX2_judge_136 : decode cX2_judge 136 = .ok (.aload_n 0, 1) := by decide +kernel
theorem dX2_judge_137 : decode cX2_judge 137 = .ok (.getfield 29, 3) := by decide +kernel
theorem dX2_judge_140 : decode cX2_judge 140 = .ok (.iload_n 1, 1) := by decide +kernel
theorem dX2_judge_141 : decode cX2_judge 141 = .ok (.aaload, 1) := by decide +kernel
theorem dX2_judge_142 : decode cX2_judge 142 = .ok (.aload_n 2, 1) := by decide +kernel
theorem dX2_judge_143 : decode cX2_judge 143 = .ok (.aload_n 3, 1) := by decide +kernel
theorem dX2_judge_144 : decode cX2_judge 144 = .ok (.aload_n 0, 1) := by decide +kernel
theorem dX2_judge_145 : decode cX2_judge 145 = .ok (.getfield 9, 3) := by decide +kernel
theorem dX2_judge_148 : decode cX2_judge 148 = .ok (.iconst 1, 1) := by decide +kernel
theorem dX2_judge_149 : decode cX2_judge 149 = .ok (.iaload, 1) := by decide +kernel
theorem dX2_judge_150 : decode cX2_judge 150 = .ok (.invokevirtual 89, 3) := by decide +kernel
theorem dX2_judge_153 : decode cX2_judge 153 = .ok (.iinc 1 1, 3) := by decide +kernel
theorem dX2_judge_156 : decode cX2_judge 156 = .ok (.goto (-61), 3) := by decide +kernel
theorem dX2_judge_159 : decode cX2_judge 159 = .ok (.return_, 1) := by decide +kernel
theorem dX2_takesSetting_0 : decode cX2_takesSetting 0 = .ok (.iload_n 1, 1) := by decide +kernel
theorem dX2_takesSetting_1 : decode cX2_takesSetting 1 = .ok (.iconst 0, 1) := by decide +kernel
theorem dX2_takesSetting_2 : decode cX2_takesSetting 2 = .ok (.iconst 2, 1) := by decide +kernel
theorem dX2_takesSetting_3 : decode cX2_takesSetting 3 = .ok (.invokestatic 92, 3) := by decide +kernel
theorem dX2_takesSetting_6 : decode cX2_takesSetting 6 = .ok (.ifCond .eq 24, 3) := by decide +kernel
theorem dX2_takesSetting_9 : decode cX2_takesSetting 9 = .ok (.iload_n 2, 1) := by decide +kernel
theorem dX2_takesSetting_10 : decode cX2_takesSetting 10 = .ok (.getstatic 96, 3) := by decide +kernel
theorem dX2_takesSetting_13 : decode cX2_takesSetting 13 = .ok (.iload_n 1, 1) := by decide +kernel
theorem dX2_takesSetting_14 : decode cX2_takesSetting 14 = .ok (.iaload, 1) := by decide +kernel
theorem dX2_takesSetting_15 : decode cX2_takesSetting 15 = .ok (.getstatic 99, 3) := by decide +kernel
theorem dX2_takesSetting_18 : decode cX2_takesSetting 18 = .ok (.iload_n 1, 1) := by decide +kernel
theorem dX2_takesSetting_19 : decode cX2_takesSetting 19 = .ok (.iaload, 1) := by decide +kernel
theorem dX2_takesSetting_20 : decode cX2_takesSetting 20 = .ok (.invokestatic 92, 3) := by decide +kernel
theorem dX2_takesSetting_23 : decode cX2_takesSetting 23 = .ok (.ifCond .eq 7, 3) := by decide +kernel
theorem dX2_takesSetting_26 : decode cX2_takesSetting 26 = .ok (.iconst 1, 1) := by decide +kernel
theorem dX2_takesSetting_27 : decode cX2_takesSetting 27 = .ok (.goto 4, 3) := by decide +kernel
theorem dX2_takesSetting_30 : decode cX2_takesSetting 30 = .ok (.iconst 0, 1) := by decide +kernel
theorem dX2_takesSetting_31 : decode cX2_takesSetting 31 = .ok (.ireturn, 1) := by decide +kernel
theorem dX2_changeSetting_0 : decode cX2_changeSetting 0 = .ok (.iload_n 1, 1) := by decide +kernel
theorem dX2_changeSetting_1 : decode cX2_changeSetting 1 = .ok (.iconst 0, 1) := by decide +kernel
theorem dX2_changeSetting_2 : decode cX2_changeSetting 2 = .ok (.iconst 2, 1) := by decide +kernel
theorem dX2_changeSetting_3 : decode cX2_changeSetting 3 = .ok (.invokestatic 92, 3) := by decide +kernel
theorem dX2_changeSetting_6 : decode cX2_changeSetting 6 = .ok (.ifCond .ne 6, 3) := by decide +kernel
theorem dX2_changeSetting_9 : decode cX2_changeSetting 9 = .ok (.ldc 102, 2) := by decide +kernel
theorem dX2_changeSetting_11 : decode cX2_changeSetting 11 = .ok (.ireturn, 1) := by decide +kernel
theorem dX2_changeSetting_12 : decode cX2_changeSetting 12 = .ok (.aload_n 0, 1) := by decide +kernel
theorem dX2_changeSetting_13 : decode cX2_changeSetting 13 = .ok (.getfield 9, 3) := by decide +kernel
theorem dX2_changeSetting_16 : decode cX2_changeSetting 16 = .ok (.iload_n 1, 1) := by decide +kernel
theorem dX2_changeSetting_17 : decode cX2_changeSetting 17 = .ok (.iaload, 1) := by decide +kernel
theorem dX2_changeSetting_18 : decode cX2_changeSetting 18 = .ok (.istore_n 3, 1) := by decide +kernel
theorem dX2_changeSetting_19 : decode cX2_changeSetting 19 = .ok (.aload_n 0, 1) := by decide +kernel
theorem dX2_changeSetting_20 : decode cX2_changeSetting 20 = .ok (.getfield 9, 3) := by decide +kernel
theorem dX2_changeSetting_23 : decode cX2_changeSetting 23 = .ok (.iload_n 1, 1) := by decide +kernel
theorem dX2_changeSetting_24 : decode cX2_changeSetting 24 = .ok (.iload_n 2, 1) := by decide +kernel
theorem dX2_changeSetting_25 : decode cX2_changeSetting 25 = .ok (.iastore, 1) := by decide +kernel
theorem dX2_changeSetting_26 : decode cX2_changeSetting 26 = .ok (.iload_n 3, 1) := by decide +kernel
theorem dX2_changeSetting_27 : decode cX2_changeSetting 27 = .ok (.ireturn, 1) := by decide +kernel
theorem dX2_number_0 : decode cX2_number 0 = .ok (.iload_n 1, 1) := by decide +kernel
theorem dX2_number_1 : decode cX2_number 1 = .ok (.tableswitch 60 3 7 #[35, 40, 45, 50, 55], 35) := by decide +kernel
theorem dX2_number_36 : decode cX2_number 36 = .ok (.aload_n 0, 1) := by decide +kernel
theorem dX2_number_37 : decode cX2_number 37 = .ok (.getfield 42, 3) := by decide +kernel
theorem dX2_number_40 : decode cX2_number 40 = .ok (.ireturn, 1) := by decide +kernel
theorem dX2_number_41 : decode cX2_number 41 = .ok (.aload_n 0, 1) := by decide +kernel
theorem dX2_number_42 : decode cX2_number 42 = .ok (.getfield 46, 3) := by decide +kernel
theorem dX2_number_45 : decode cX2_number 45 = .ok (.ireturn, 1) := by decide +kernel
theorem dX2_number_46 : decode cX2_number 46 = .ok (.aload_n 0, 1) := by decide +kernel
theorem dX2_number_47 : decode cX2_number 47 = .ok (.getfield 49, 3) := by decide +kernel
theorem dX2_number_50 : decode cX2_number 50 = .ok (.ireturn, 1) := by decide +kernel
theorem dX2_number_51 : decode cX2_number 51 = .ok (.aload_n 0, 1) := by decide +kernel
theorem dX2_number_52 : decode cX2_number 52 = .ok (.invokevirtual 103, 3) := by decide +kernel
theorem dX2_number_55 : decode cX2_number 55 = .ok (.ireturn, 1) := by decide +kernel
theorem dX2_number_56 : decode cX2_number 56 = .ok (.aload_n 0, 1) := by decide +kernel
theorem dX2_number_57 : decode cX2_number 57 = .ok (.invokevirtual 107, 3) := by decide +kernel
theorem dX2_number_60 : decode cX2_number 60 = .ok (.ireturn, 1) := by decide +kernel
theorem dX2_number_61 : decode cX2_number 61 = .ok (.iload_n 1, 1) := by decide +kernel
theorem dX2_number_62 : decode cX2_number 62 = .ok (.iconst 0, 1) := by decide +kernel
theorem dX2_number_63 : decode cX2_number 63 = .ok (.iconst 2, 1) := by decide +kernel
theorem dX2_number_64 : decode cX2_number 64 = .ok (.invokestatic 92, 3) := by decide +kernel
theorem dX2_number_67 : decode cX2_number 67 = .ok (.ifCond .eq 12, 3) := by decide +kernel
theorem dX2_number_70 : decode cX2_number 70 = .ok (.aload_n 0, 1) := by decide +kernel
theorem dX2_number_71 : decode cX2_number 71 = .ok (.getfield 9, 3) := by decide +kernel
theorem dX2_number_74 : decode cX2_number 74 = .ok (.iload_n 1, 1) := by decide +kernel
theorem dX2_number_75 : decode cX2_number 75 = .ok (.iaload, 1) := by decide +kernel
theorem dX2_number_76 : decode cX2_number 76 = .ok (.goto 5, 3) := by decide +kernel
theorem dX2_number_79 : decode cX2_number 79 = .ok (.ldc 102, 2) := by decide +kernel
theorem dX2_number_81 : decode cX2_number 81 = .ok (.ireturn, 1) := by decide +kernel
theorem dX2_legsOfAll_0 : decode cX2_legsOfAll 0 = .ok (.iconst 0, 1) := by decide +kernel
theorem dX2_legsOfAll_1 : decode cX2_legsOfAll 1 = .ok (.istore_n 1, 1) := by decide +kernel
theorem dX2_legsOfAll_2 : decode cX2_legsOfAll 2 = .ok (.iconst 0, 1) := by decide +kernel
theorem dX2_legsOfAll_3 : decode cX2_legsOfAll 3 = .ok (.istore_n 2, 1) := by decide +kernel
theorem dX2_legsOfAll_4 : decode cX2_legsOfAll 4 = .ok (.iload_n 2, 1) := by decide +kernel
theorem dX2_legsOfAll_5 : decode cX2_legsOfAll 5 = .ok (.aload_n 0, 1) := by decide +kernel
theorem dX2_legsOfAll_6 : decode cX2_legsOfAll 6 = .ok (.getfield 49, 3) := by decide +kernel
theorem dX2_legsOfAll_9 : decode cX2_legsOfAll 9 = .ok (.if_icmp .ge 26, 3) := by decide +kernel
theorem dX2_legsOfAll_12 : decode cX2_legsOfAll 12 = .ok (.iload_n 2, 1) := by decide +kernel
theorem dX2_legsOfAll_13 : decode cX2_legsOfAll 13 = .ok (.iconst 4, 1) := by decide +kernel
theorem dX2_legsOfAll_14 : decode cX2_legsOfAll 14 = .ok (.if_icmp .ge 21, 3) := by decide +kernel
theorem dX2_legsOfAll_17 : decode cX2_legsOfAll 17 = .ok (.iload_n 1, 1) := by decide +kernel
theorem dX2_legsOfAll_18 : decode cX2_legsOfAll 18 = .ok (.aload_n 0, 1) := by decide +kernel
theorem dX2_legsOfAll_19 : decode cX2_legsOfAll 19 = .ok (.getfield 29, 3) := by decide +kernel
theorem dX2_legsOfAll_22 : decode cX2_legsOfAll 22 = .ok (.iload_n 2, 1) := by decide +kernel
theorem dX2_legsOfAll_23 : decode cX2_legsOfAll 23 = .ok (.aaload, 1) := by decide +kernel
theorem dX2_legsOfAll_24 : decode cX2_legsOfAll 24 = .ok (.getfield 110, 3) := by decide +kernel
theorem dX2_legsOfAll_27 : decode cX2_legsOfAll 27 = .ok (.iadd, 1) := by decide +kernel
theorem dX2_legsOfAll_28 : decode cX2_legsOfAll 28 = .ok (.istore_n 1, 1) := by decide +kernel
theorem dX2_legsOfAll_29 : decode cX2_legsOfAll 29 = .ok (.iinc 2 1, 3) := by decide +kernel
theorem dX2_legsOfAll_32 : decode cX2_legsOfAll 32 = .ok (.goto (-28), 3) := by decide +kernel
theorem dX2_legsOfAll_35 : decode cX2_legsOfAll 35 = .ok (.iload_n 1, 1) := by decide +kernel
theorem dX2_legsOfAll_36 : decode cX2_legsOfAll 36 = .ok (.ireturn, 1) := by decide +kernel
theorem dX2_turnsOfAll_0 : decode cX2_turnsOfAll 0 = .ok (.iconst 0, 1) := by decide +kernel
theorem dX2_turnsOfAll_1 : decode cX2_turnsOfAll 1 = .ok (.istore_n 1, 1) := by decide +kernel
theorem dX2_turnsOfAll_2 : decode cX2_turnsOfAll 2 = .ok (.iconst 0, 1) := by decide +kernel
theorem dX2_turnsOfAll_3 : decode cX2_turnsOfAll 3 = .ok (.istore_n 2, 1) := by decide +kernel
theorem dX2_turnsOfAll_4 : decode cX2_turnsOfAll 4 = .ok (.iload_n 2, 1) := by decide +kernel
theorem dX2_turnsOfAll_5 : decode cX2_turnsOfAll 5 = .ok (.aload_n 0, 1) := by decide +kernel
theorem dX2_turnsOfAll_6 : decode cX2_turnsOfAll 6 = .ok (.getfield 42, 3) := by decide +kernel
theorem dX2_turnsOfAll_9 : decode cX2_turnsOfAll 9 = .ok (.if_icmp .ge 27, 3) := by decide +kernel
theorem dX2_turnsOfAll_12 : decode cX2_turnsOfAll 12 = .ok (.iload_n 2, 1) := by decide +kernel
theorem dX2_turnsOfAll_13 : decode cX2_turnsOfAll 13 = .ok (.bipush 6, 2) := by decide +kernel
theorem dX2_turnsOfAll_15 : decode cX2_turnsOfAll 15 = .ok (.if_icmp .ge 21, 3) := by decide +kernel
theorem dX2_turnsOfAll_18 : decode cX2_turnsOfAll 18 = .ok (.iload_n 1, 1) := by decide +kernel
theorem dX2_turnsOfAll_19 : decode cX2_turnsOfAll 19 = .ok (.aload_n 0, 1) := by decide +kernel
theorem dX2_turnsOfAll_20 : decode cX2_turnsOfAll 20 = .ok (.getfield 17, 3) := by decide +kernel
theorem dX2_turnsOfAll_23 : decode cX2_turnsOfAll 23 = .ok (.iload_n 2, 1) := by decide +kernel
theorem dX2_turnsOfAll_24 : decode cX2_turnsOfAll 24 = .ok (.aaload, 1) := by decide +kernel
theorem dX2_turnsOfAll_25 : decode cX2_turnsOfAll 25 = .ok (.getfield 113, 3) := by decide +kernel
theorem dX2_turnsOfAll_28 : decode cX2_turnsOfAll 28 = .ok (.iadd, 1) := by decide +kernel
theorem dX2_turnsOfAll_29 : decode cX2_turnsOfAll 29 = .ok (.istore_n 1, 1) := by decide +kernel
theorem dX2_turnsOfAll_30 : decode cX2_turnsOfAll 30 = .ok (.iinc 2 1, 3) := by decide +kernel
theorem dX2_turnsOfAll_33 : decode cX2_turnsOfAll 33 = .ok (.goto (-29), 3) := by decide +kernel
theorem dX2_turnsOfAll_36 : decode cX2_turnsOfAll 36 = .ok (.iload_n 1, 1) := by decide +kernel
theorem dX2_turnsOfAll_37 : decode cX2_turnsOfAll 37 = .ok (.ireturn, 1) := by decide +kernel
theorem dX2_wireAt_0 : decode cX2_wireAt 0 = .ok (.iload_n 1, 1) := by decide +kernel
theorem dX2_wireAt_1 : decode cX2_wireAt 1 = .ok (.iconst 0, 1) := by decide +kernel
theorem dX2_wireAt_2 : decode cX2_wireAt 2 = .ok (.aload_n 0, 1) := by decide +kernel
theorem dX2_wireAt_3 : decode cX2_wireAt 3 = .ok (.getfield 42, 3) := by decide +kernel
theorem dX2_wireAt_6 : decode cX2_wireAt 6 = .ok (.iconst 1, 1) := by decide +kernel
theorem dX2_wireAt_7 : decode cX2_wireAt 7 = .ok (.isub, 1) := by decide +kernel
theorem dX2_wireAt_8 : decode cX2_wireAt 8 = .ok (.invokestatic 92, 3) := by decide +kernel
theorem dX2_wireAt_11 : decode cX2_wireAt 11 = .ok (.ifCond .eq 18, 3) := by decide +kernel
theorem dX2_wireAt_14 : decode cX2_wireAt 14 = .ok (.iload_n 1, 1) := by decide +kernel
theorem dX2_wireAt_15 : decode cX2_wireAt 15 = .ok (.bipush 6, 2) := by decide +kernel
theorem dX2_wireAt_17 : decode cX2_wireAt 17 = .ok (.if_icmp .ge 12, 3) := by decide +kernel
theorem dX2_wireAt_20 : decode cX2_wireAt 20 = .ok (.aload_n 0, 1) := by decide +kernel
theorem dX2_wireAt_21 : decode cX2_wireAt 21 = .ok (.getfield 17, 3) := by decide +kernel
theorem dX2_wireAt_24 : decode cX2_wireAt 24 = .ok (.iload_n 1, 1) := by decide +kernel
theorem dX2_wireAt_25 : decode cX2_wireAt 25 = .ok (.aaload, 1) := by decide +kernel
theorem dX2_wireAt_26 : decode cX2_wireAt 26 = .ok (.goto 4, 3) := by decide +kernel
theorem dX2_wireAt_29 : decode cX2_wireAt 29 = .ok (.aconst_null, 1) := by decide +kernel
theorem dX2_wireAt_30 : decode cX2_wireAt 30 = .ok (.areturn, 1) := by decide +kernel
theorem dX2_joinAt_0 : decode cX2_joinAt 0 = .ok (.iload_n 1, 1) := by decide +kernel
theorem dX2_joinAt_1 : decode cX2_joinAt 1 = .ok (.iconst 0, 1) := by decide +kernel
theorem dX2_joinAt_2 : decode cX2_joinAt 2 = .ok (.aload_n 0, 1) := by decide +kernel
theorem dX2_joinAt_3 : decode cX2_joinAt 3 = .ok (.getfield 46, 3) := by decide +kernel
theorem dX2_joinAt_6 : decode cX2_joinAt 6 = .ok (.iconst 1, 1) := by decide +kernel
theorem dX2_joinAt_7 : decode cX2_joinAt 7 = .ok (.isub, 1) := by decide +kernel
theorem dX2_joinAt_8 : decode cX2_joinAt 8 = .ok (.invokestatic 92, 3) := by decide +kernel
theorem dX2_joinAt_11 : decode cX2_joinAt 11 = .ok (.ifCond .eq 17, 3) := by decide +kernel
theorem dX2_joinAt_14 : decode cX2_joinAt 14 = .ok (.iload_n 1, 1) := by decide +kernel
theorem dX2_joinAt_15 : decode cX2_joinAt 15 = .ok (.iconst 4, 1) := by decide +kernel
theorem dX2_joinAt_16 : decode cX2_joinAt 16 = .ok (.if_icmp .ge 12, 3) := by decide +kernel
theorem dX2_joinAt_19 : decode cX2_joinAt 19 = .ok (.aload_n 0, 1) := by decide +kernel
theorem dX2_joinAt_20 : decode cX2_joinAt 20 = .ok (.getfield 23, 3) := by decide +kernel
theorem dX2_joinAt_23 : decode cX2_joinAt 23 = .ok (.iload_n 1, 1) := by decide +kernel
theorem dX2_joinAt_24 : decode cX2_joinAt 24 = .ok (.aaload, 1) := by decide +kernel
theorem dX2_joinAt_25 : decode cX2_joinAt 25 = .ok (.goto 4, 3) := by decide +kernel
theorem dX2_joinAt_28 : decode cX2_joinAt 28 = .ok (.aconst_null, 1) := by decide +kernel
theorem dX2_joinAt_29 : decode cX2_joinAt 29 = .ok (.areturn, 1) := by decide +kernel
theorem dX2_traverseAt_0 : decode cX2_traverseAt 0 = .ok (.iload_n 1, 1) := by decide +kernel
theorem dX2_traverseAt_1 : decode cX2_traverseAt 1 = .ok (.iconst 0, 1) := by decide +kernel
theorem dX2_traverseAt_2 : decode cX2_traverseAt 2 = .ok (.aload_n 0, 1) := by decide +kernel
theorem dX2_traverseAt_3 : decode cX2_traverseAt 3 = .ok (.getfield 49, 3) := by decide +kernel
theorem dX2_traverseAt_6 : decode cX2_traverseAt 6 = .ok (.iconst 1, 1) := by decide +kernel
theorem dX2_traverseAt_7 : decode cX2_traverseAt 7 = .ok (.isub, 1) := by decide +kernel
theorem dX2_traverseAt_8 : decode cX2_traverseAt 8 = .ok (.invokestatic 92, 3) := by decide +kernel
theorem dX2_traverseAt_11 : decode cX2_traverseAt 11 = .ok (.ifCond .eq 17, 3) := by decide +kernel
theorem dX2_traverseAt_14 : decode cX2_traverseAt 14 = .ok (.iload_n 1, 1) := by decide +kernel
theorem dX2_traverseAt_15 : decode cX2_traverseAt 15 = .ok (.iconst 4, 1) := by decide +kernel
theorem dX2_traverseAt_16 : decode cX2_traverseAt 16 = .ok (.if_icmp .ge 12, 3) := by decide +kernel
theorem dX2_traverseAt_19 : decode cX2_traverseAt 19 = .ok (.aload_n 0, 1) := by decide +kernel
theorem dX2_traverseAt_20 : decode cX2_traverseAt 20 = .ok (.getfield 29, 3) := by decide +kernel
theorem dX2_traverseAt_23 : decode cX2_traverseAt 23 = .ok (.iload_n 1, 1) := by decide +kernel
theorem dX2_traverseAt_24 : decode cX2_traverseAt 24 = .ok (.aaload, 1) := by decide +kernel
theorem dX2_traverseAt_25 : decode cX2_traverseAt 25 = .ok (.goto 4, 3) := by decide +kernel
theorem dX2_traverseAt_28 : decode cX2_traverseAt 28 = .ok (.aconst_null, 1) := by decide +kernel
theorem dX2_traverseAt_29 : decode cX2_traverseAt 29 = .ok (.areturn, 1) := by decide +kernel
theorem dX2_addWire_0 : decode cX2_addWire 0 = .ok (.aload_n 0, 1) := by decide +kernel
theorem dX2_addWire_1 : decode cX2_addWire 1 = .ok (.getfield 42, 3) := by decide +kernel
theorem dX2_addWire_4 : decode cX2_addWire 4 = .ok (.iconst 0, 1) := by decide +kernel
theorem dX2_addWire_5 : decode cX2_addWire 5 = .ok (.iconst 5, 1) := by decide +kernel
theorem dX2_addWire_6 : decode cX2_addWire 6 = .ok (.invokestatic 92, 3) := by decide +kernel
theorem dX2_addWire_9 : decode cX2_addWire 9 = .ok (.ifCond .ne 6, 3) := by decide +kernel
theorem dX2_addWire_12 : decode cX2_addWire 12 = .ok (.ldc 102, 2) := by decide +kernel
theorem dX2_addWire_14 : decode cX2_addWire 14 = .ok (.ireturn, 1) := by decide +kernel
theorem dX2_addWire_15 : decode cX2_addWire 15 = .ok (.aload_n 0, 1) := by decide +kernel
theorem dX2_addWire_16 : decode cX2_addWire 16 = .ok (.getfield 17, 3) := by decide +kernel
theorem dX2_addWire_19 : decode cX2_addWire 19 = .ok (.aload_n 0, 1) := by decide +kernel
theorem dX2_addWire_20 : decode cX2_addWire 20 = .ok (.getfield 42, 3) := by decide +kernel
theorem dX2_addWire_23 : decode cX2_addWire 23 = .ok (.aaload, 1) := by decide +kernel
theorem dX2_addWire_24 : decode cX2_addWire 24 = .ok (.iload_n 1, 1) := by decide +kernel
theorem dX2_addWire_25 : decode cX2_addWire 25 = .ok (.iload_n 2, 1) := by decide +kernel
theorem dX2_addWire_26 : decode cX2_addWire 26 = .ok (.invokevirtual 116, 3) := by decide +kernel
theorem dX2_addWire_29 : decode cX2_addWire 29 = .ok (.aload_n 0, 1) := by decide +kernel
theorem dX2_addWire_30 : decode cX2_addWire 30 = .ok (.dup, 1) := by decide +kernel
theorem dX2_addWire_31 : decode cX2_addWire 31 = .ok (.getfield 42, 3) := by decide +kernel
theorem dX2_addWire_34 : decode cX2_addWire 34 = .ok (.iconst 1, 1) := by decide +kernel
theorem dX2_addWire_35 : decode cX2_addWire 35 = .ok (.iadd, 1) := by decide +kernel
theorem dX2_addWire_36 : decode cX2_addWire 36 = .ok (.putfield 42, 3) := by decide +kernel
theorem dX2_addWire_39 : decode cX2_addWire 39 = .ok (.aload_n 0, 1) := by decide +kernel
theorem dX2_addWire_40 : decode cX2_addWire 40 = .ok (.getfield 42, 3) := by decide +kernel
theorem dX2_addWire_43 : decode cX2_addWire 43 = .ok (.iconst 1, 1) := by decide +kernel
theorem dX2_addWire_44 : decode cX2_addWire 44 = .ok (.isub, 1) := by decide +kernel
theorem dX2_addWire_45 : decode cX2_addWire 45 = .ok (.ireturn, 1) := by decide +kernel
theorem dX2_addJoin_0 : decode cX2_addJoin 0 = .ok (.aload_n 0, 1) := by decide +kernel
theorem dX2_addJoin_1 : decode cX2_addJoin 1 = .ok (.getfield 46, 3) := by decide +kernel
theorem dX2_addJoin_4 : decode cX2_addJoin 4 = .ok (.iconst 0, 1) := by decide +kernel
theorem dX2_addJoin_5 : decode cX2_addJoin 5 = .ok (.iconst 3, 1) := by decide +kernel
theorem dX2_addJoin_6 : decode cX2_addJoin 6 = .ok (.invokestatic 92, 3) := by decide +kernel
theorem dX2_addJoin_9 : decode cX2_addJoin 9 = .ok (.ifCond .ne 6, 3) := by decide +kernel
theorem dX2_addJoin_12 : decode cX2_addJoin 12 = .ok (.ldc 102, 2) := by decide +kernel
theorem dX2_addJoin_14 : decode cX2_addJoin 14 = .ok (.ireturn, 1) := by decide +kernel
theorem dX2_addJoin_15 : decode cX2_addJoin 15 = .ok (.aload_n 0, 1) := by decide +kernel
theorem dX2_addJoin_16 : decode cX2_addJoin 16 = .ok (.getfield 23, 3) := by decide +kernel
theorem dX2_addJoin_19 : decode cX2_addJoin 19 = .ok (.aload_n 0, 1) := by decide +kernel
theorem dX2_addJoin_20 : decode cX2_addJoin 20 = .ok (.getfield 46, 3) := by decide +kernel
theorem dX2_addJoin_23 : decode cX2_addJoin 23 = .ok (.aaload, 1) := by decide +kernel
theorem dX2_addJoin_24 : decode cX2_addJoin 24 = .ok (.iload_n 1, 1) := by decide +kernel
theorem dX2_addJoin_25 : decode cX2_addJoin 25 = .ok (.iload_n 2, 1) := by decide +kernel
theorem dX2_addJoin_26 : decode cX2_addJoin 26 = .ok (.iload_n 3, 1) := by decide +kernel
theorem dX2_addJoin_27 : decode cX2_addJoin 27 = .ok (.iload 4, 2) := by decide +kernel
theorem dX2_addJoin_29 : decode cX2_addJoin 29 = .ok (.iload 5, 2) := by decide +kernel
theorem dX2_addJoin_31 : decode cX2_addJoin 31 = .ok (.iload 6, 2) := by decide +kernel
theorem dX2_addJoin_33 : decode cX2_addJoin 33 = .ok (.invokevirtual 120, 3) := by decide +kernel
theorem dX2_addJoin_36 : decode cX2_addJoin 36 = .ok (.aload_n 0, 1) := by decide +kernel
theorem dX2_addJoin_37 : decode cX2_addJoin 37 = .ok (.dup, 1) := by decide +kernel
theorem dX2_addJoin_38 : decode cX2_addJoin 38 = .ok (.getfield 46, 3) := by decide +kernel
theorem dX2_addJoin_41 : decode cX2_addJoin 41 = .ok (.iconst 1, 1) := by decide +kernel
theorem dX2_addJoin_42 : decode cX2_addJoin 42 = .ok (.iadd, 1) := by decide +kernel
theorem dX2_addJoin_43 : decode cX2_addJoin 43 = .ok (.putfield 46, 3) := by decide +kernel
theorem dX2_addJoin_46 : decode cX2_addJoin 46 = .ok (.aload_n 0, 1) := by decide +kernel
theorem dX2_addJoin_47 : decode cX2_addJoin 47 = .ok (.getfield 46, 3) := by decide +kernel
theorem dX2_addJoin_50 : decode cX2_addJoin 50 = .ok (.iconst 1, 1) := by decide +kernel
theorem dX2_addJoin_51 : decode cX2_addJoin 51 = .ok (.isub, 1) := by decide +kernel
theorem dX2_addJoin_52 : decode cX2_addJoin 52 = .ok (.ireturn, 1) := by decide +kernel
theorem dX2_addTraverse_0 : decode cX2_addTraverse 0 = .ok (.aload_n 0, 1) := by decide +kernel
theorem dX2_addTraverse_1 : decode cX2_addTraverse 1 = .ok (.getfield 49, 3) := by decide +kernel
theorem dX2_addTraverse_4 : decode cX2_addTraverse 4 = .ok (.iconst 0, 1) := by decide +kernel
theorem dX2_addTraverse_5 : decode cX2_addTraverse 5 = .ok (.iconst 3, 1) := by decide +kernel
theorem dX2_addTraverse_6 : decode cX2_addTraverse 6 = .ok (.invokestatic 92, 3) := by decide +kernel
theorem dX2_addTraverse_9 : decode cX2_addTraverse 9 = .ok (.ifCond .ne 6, 3) := by decide +kernel
theorem dX2_addTraverse_12 : decode cX2_addTraverse 12 = .ok (.ldc 102, 2) := by decide +kernel
theorem dX2_addTraverse_14 : decode cX2_addTraverse 14 = .ok (.ireturn, 1) := by decide +kernel
theorem dX2_addTraverse_15 : decode cX2_addTraverse 15 = .ok (.aload_n 0, 1) := by decide +kernel
theorem dX2_addTraverse_16 : decode cX2_addTraverse 16 = .ok (.getfield 29, 3) := by decide +kernel
theorem dX2_addTraverse_19 : decode cX2_addTraverse 19 = .ok (.aload_n 0, 1) := by decide +kernel
theorem dX2_addTraverse_20 : decode cX2_addTraverse 20 = .ok (.getfield 49, 3) := by decide +kernel
theorem dX2_addTraverse_23 : decode cX2_addTraverse 23 = .ok (.aaload, 1) := by decide +kernel
theorem dX2_addTraverse_24 : decode cX2_addTraverse 24 = .ok (.iload_n 1, 1) := by decide +kernel
theorem dX2_addTraverse_25 : decode cX2_addTraverse 25 = .ok (.invokevirtual 124, 3) := by decide +kernel
theorem dX2_addTraverse_28 : decode cX2_addTraverse 28 = .ok (.aload_n 0, 1) := by decide +kernel
theorem dX2_addTraverse_29 : decode cX2_addTraverse 29 = .ok (.dup, 1) := by decide +kernel
theorem dX2_addTraverse_30 : decode cX2_addTraverse 30 = .ok (.getfield 49, 3) := by decide +kernel
theorem dX2_addTraverse_33 : decode cX2_addTraverse 33 = .ok (.iconst 1, 1) := by decide +kernel
theorem dX2_addTraverse_34 : decode cX2_addTraverse 34 = .ok (.iadd, 1) := by decide +kernel
theorem dX2_addTraverse_35 : decode cX2_addTraverse 35 = .ok (.putfield 49, 3) := by decide +kernel
theorem dX2_addTraverse_38 : decode cX2_addTraverse 38 = .ok (.aload_n 0, 1) := by decide +kernel
theorem dX2_addTraverse_39 : decode cX2_addTraverse 39 = .ok (.getfield 49, 3) := by decide +kernel
theorem dX2_addTraverse_42 : decode cX2_addTraverse 42 = .ok (.iconst 1, 1) := by decide +kernel
theorem dX2_addTraverse_43 : decode cX2_addTraverse 43 = .ok (.isub, 1) := by decide +kernel
theorem dX2_addTraverse_44 : decode cX2_addTraverse 44 = .ok (.ireturn, 1) := by decide +kernel
theorem dX2_troubleOf_0 : decode cX2_troubleOf 0 = .ok (.iload_n 2, 1) := by decide +kernel
theorem dX2_troubleOf_1 : decode cX2_troubleOf 1 = .ok (.ifCond .ne 20, 3) := by decide +kernel
theorem dX2_troubleOf_4 : decode cX2_troubleOf 4 = .ok (.aload_n 1, 1) := by decide +kernel
theorem dX2_troubleOf_5 : decode cX2_troubleOf 5 = .ok (.getfield 127, 3) := by decide +kernel
theorem dX2_troubleOf_8 : decode cX2_troubleOf 8 = .ok (.ifCond .ne 8, 3) := by decide +kernel
theorem dX2_troubleOf_11 : decode cX2_troubleOf 11 = .ok (.ldc 102, 2) := by decide +kernel
theorem dX2_troubleOf_13 : decode cX2_troubleOf 13 = .ok (.goto 7, 3) := by decide +kernel
theorem dX2_troubleOf_16 : decode cX2_troubleOf 16 = .ok (.aload_n 1, 1) := by decide +kernel
theorem dX2_troubleOf_17 : decode cX2_troubleOf 17 = .ok (.getfield 127, 3) := by decide +kernel
theorem dX2_troubleOf_20 : decode cX2_troubleOf 20 = .ok (.ireturn, 1) := by decide +kernel
theorem dX2_troubleOf_21 : decode cX2_troubleOf 21 = .ok (.aconst_null, 1) := by decide +kernel
theorem dX2_troubleOf_22 : decode cX2_troubleOf 22 = .ok (.astore_n 3, 1) := by decide +kernel
theorem dX2_troubleOf_23 : decode cX2_troubleOf 23 = .ok (.aload_n 1, 1) := by decide +kernel
theorem dX2_troubleOf_24 : decode cX2_troubleOf 24 = .ok (.getfield 127, 3) := by decide +kernel
theorem dX2_troubleOf_27 : decode cX2_troubleOf 27 = .ok (.bipush 6, 2) := by decide +kernel
theorem dX2_troubleOf_29 : decode cX2_troubleOf 29 = .ok (.if_icmp .ne 15, 3) := by decide +kernel
theorem dX2_troubleOf_32 : decode cX2_troubleOf 32 = .ok (.aload_n 0, 1) := by decide +kernel
theorem dX2_troubleOf_33 : decode cX2_troubleOf 33 = .ok (.aload_n 1, 1) := by decide +kernel
theorem dX2_troubleOf_34 : decode cX2_troubleOf 34 = .ok (.getfield 79, 3) := by decide +kernel
theorem dX2_troubleOf_37 : decode cX2_troubleOf 37 = .ok (.invokevirtual 82, 3) := by decide +kernel
theorem dX2_troubleOf_40 : decode cX2_troubleOf 40 = .ok (.astore_n 3, 1) := by decide +kernel
theorem dX2_troubleOf_41 : decode cX2_troubleOf 41 = .ok (.goto 21, 3) := by decide +kernel
theorem dX2_troubleOf_44 : decode cX2_troubleOf 44 = .ok (.aload_n 1, 1) := by decide +kernel
theorem dX2_troubleOf_45 : decode cX2_troubleOf 45 = .ok (.getfield 127, 3) := by decide +kernel
theorem dX2_troubleOf_48 : decode cX2_troubleOf 48 = .ok (.bipush 7, 2) := by decide +kernel
theorem dX2_troubleOf_50 : decode cX2_troubleOf 50 = .ok (.if_icmp .ne 12, 3) := by decide +kernel
theorem dX2_troubleOf_53 : decode cX2_troubleOf 53 = .ok (.aload_n 0, 1) := by decide +kernel
theorem dX2_troubleOf_54 : decode cX2_troubleOf 54 = .ok (.aload_n 1, 1) := by decide +kernel
theorem dX2_troubleOf_55 : decode cX2_troubleOf 55 = .ok (.getfield 86, 3) := by decide +kernel
theorem dX2_troubleOf_58 : decode cX2_troubleOf 58 = .ok (.invokevirtual 82, 3) := by decide +kernel
theorem dX2_troubleOf_61 : decode cX2_troubleOf 61 = .ok (.astore_n 3, 1) := by decide +kernel
theorem dX2_troubleOf_62 : decode cX2_troubleOf 62 = .ok (.aload_n 3, 1) := by decide +kernel
theorem dX2_troubleOf_63 : decode cX2_troubleOf 63 = .ok (.ifnonnull 6, 3) := by decide +kernel
theorem dX2_troubleOf_66 : decode cX2_troubleOf 66 = .ok (.ldc 102, 2) := by decide +kernel
theorem dX2_troubleOf_68 : decode cX2_troubleOf 68 = .ok (.ireturn, 1) := by decide +kernel
theorem dX2_troubleOf_69 : decode cX2_troubleOf 69 = .ok (.iload_n 2, 1) := by decide +kernel
theorem dX2_troubleOf_70 : decode cX2_troubleOf 70 = .ok (.iconst 1, 1) := by decide +kernel
theorem dX2_troubleOf_71 : decode cX2_troubleOf 71 = .ok (.if_icmp .ne 8, 3) := by decide +kernel
theorem dX2_troubleOf_74 : decode cX2_troubleOf 74 = .ok (.aload_n 3, 1) := by decide +kernel
theorem dX2_troubleOf_75 : decode cX2_troubleOf 75 = .ok (.getfield 130, 3) := by decide +kernel
theorem dX2_troubleOf_78 : decode cX2_troubleOf 78 = .ok (.ireturn, 1) := by decide +kernel
theorem dX2_troubleOf_79 : decode cX2_troubleOf 79 = .ok (.iload_n 2, 1) := by decide +kernel
theorem dX2_troubleOf_80 : decode cX2_troubleOf 80 = .ok (.iconst 2, 1) := by decide +kernel
theorem dX2_troubleOf_81 : decode cX2_troubleOf 81 = .ok (.if_icmp .ne 17, 3) := by decide +kernel
theorem dX2_troubleOf_84 : decode cX2_troubleOf 84 = .ok (.aload_n 3, 1) := by decide +kernel
theorem dX2_troubleOf_85 : decode cX2_troubleOf 85 = .ok (.getfield 131, 3) := by decide +kernel
theorem dX2_troubleOf_88 : decode cX2_troubleOf 88 = .ok (.ifCond .eq 10, 3) := by decide +kernel
theorem dX2_troubleOf_91 : decode cX2_troubleOf 91 = .ok (.aload_n 3, 1) := by decide +kernel
theorem dX2_troubleOf_92 : decode cX2_troubleOf 92 = .ok (.getfield 131, 3) := by decide +kernel
theorem dX2_troubleOf_95 : decode cX2_troubleOf 95 = .ok (.goto 5, 3) := by decide +kernel
theorem dX2_troubleOf_98 : decode cX2_troubleOf 98 = .ok (.ldc 102, 2) := by decide +kernel
theorem dX2_troubleOf_100 : decode cX2_troubleOf 100 = .ok (.ireturn, 1) := by decide +kernel
theorem dX3_norm_0 : decode cX3_norm 0 = .ok (.iload_n 0, 1) := by decide +kernel
theorem dX3_norm_1 : decode cX3_norm 1 = .ok (.ldc 9, 2) := by decide +kernel
theorem dX3_norm_3 : decode cX3_norm 3 = .ok (.irem, 1) := by decide +kernel
theorem dX3_norm_4 : decode cX3_norm 4 = .ok (.istore_n 1, 1) := by decide +kernel
theorem dX3_norm_5 : decode cX3_norm 5 = .ok (.iload_n 1, 1) := by decide +kernel
theorem dX3_norm_6 : decode cX3_norm 6 = .ok (.ifCond .ge 10, 3) := by decide +kernel
theorem dX3_norm_9 : decode cX3_norm 9 = .ok (.iload_n 1, 1) := by decide +kernel
theorem dX3_norm_10 : decode cX3_norm 10 = .ok (.ldc 9, 2) := by decide +kernel
theorem dX3_norm_12 : decode cX3_norm 12 = .ok (.iadd, 1) := by decide +kernel
theorem dX3_norm_13 : decode cX3_norm 13 = .ok (.goto 4, 3) := by decide +kernel
theorem dX3_norm_16 : decode cX3_norm 16 = .ok (.iload_n 1, 1) := by decide +kernel
theorem dX3_norm_17 : decode cX3_norm 17 = .ok (.ireturn, 1) := by decide +kernel
theorem dX3_centre_0 : decode cX3_centre 0 = .ok (.iload_n 0, 1) := by decide +kernel
theorem dX3_centre_1 : decode cX3_centre 1 = .ok (.ldc 10, 2) := by decide +kernel
theorem dX3_centre_3 : decode cX3_centre 3 = .ok (.iadd, 1) := by decide +kernel
theorem dX3_centre_4 : decode cX3_centre 4 = .ok (.invokestatic 11, 3) := by decide +kernel
theorem dX3_centre_7 : decode cX3_centre 7 = .ok (.ldc 10, 2) := by decide +kernel
theorem dX3_centre_9 : decode cX3_centre 9 = .ok (.isub, 1) := by decide +kernel
theorem dX3_centre_10 : decode cX3_centre 10 = .ok (.ireturn, 1) := by decide +kernel
theorem dX3_sineOf_0 : decode cX3_sineOf 0 = .ok (.iload_n 0, 1) := by decide +kernel
theorem dX3_sineOf_1 : decode cX3_sineOf 1 = .ok (.invokestatic 11, 3) := by decide +kernel
theorem dX3_sineOf_4 : decode cX3_sineOf 4 = .ok (.istore_n 1, 1) := by decide +kernel
theorem dX3_sineOf_5 : decode cX3_sineOf 5 = .ok (.iload_n 1, 1) := by decide +kernel
theorem dX3_sineOf_6 : decode cX3_sineOf 6 = .ok (.ldc 10, 2) := by decide +kernel
theorem dX3_sineOf_8 : decode cX3_sineOf 8 = .ok (.if_icmp .ge 8, 3) := by decide +kernel
theorem dX3_sineOf_11 : decode cX3_sineOf 11 = .ok (.iload_n 1, 1) := by decide +kernel
theorem dX3_sineOf_12 : decode cX3_sineOf 12 = .ok (.i2l, 1) := by decide +kernel
theorem dX3_sineOf_13 : decode cX3_sineOf 13 = .ok (.goto 8, 3) := by decide +kernel
theorem dX3_sineOf_16 : decode cX3_sineOf 16 = .ok (.iload_n 1, 1) := by decide +kernel
theorem dX3_sineOf_17 : decode cX3_sineOf 17 = .ok (.ldc 10, 2) := by decide +kernel
theorem dX3_sineOf_19 : decode cX3_sineOf 19 = .ok (.isub, 1) := by decide +kernel
theorem dX3_sineOf_20 : decode cX3_sineOf 20 = .ok (.i2l, 1) := by decide +kernel
theorem dX3_sineOf_21 : decode cX3_sineOf 21 = .ok (.lstore_n 2, 1) := by decide +kernel
theorem dX3_sineOf_22 : decode cX3_sineOf 22 = .ok (.lload_n 2, 1) := by decide +kernel
theorem dX3_sineOf_23 : decode cX3_sineOf 23 = .ok (.ldc2_w 17, 3) := by decide +kernel
theorem dX3_sineOf_26 : decode cX3_sineOf 26 = .ok (.lload_n 2, 1) := by decide +kernel
theorem dX3_sineOf_27 : decode cX3_sineOf 27 = .ok (.lsub, 1) := by decide +kernel
theorem dX3_sineOf_28 : decode cX3_sineOf 28 = .ok (.lmul, 1) := by decide +kernel
theorem dX3_sineOf_29 : decode cX3_sineOf 29 = .ok (.lstore 4, 2) := by decide +kernel
theorem dX3_sineOf_31 : decode cX3_sineOf 31 = .ok (.ldc2_w 19, 3) := by decide +kernel
theorem dX3_sineOf_34 : decode cX3_sineOf 34 = .ok (.lload 4, 2) := by decide +kernel
theorem dX3_sineOf_36 : decode cX3_sineOf 36 = .ok (.lmul, 1) := by decide +kernel
theorem dX3_sineOf_37 : decode cX3_sineOf 37 = .ok (.ldc2_w 21, 3) := by decide +kernel
theorem dX3_sineOf_40 : decode cX3_sineOf 40 = .ok (.lload 4, 2) := by decide +kernel
theorem dX3_sineOf_42 : decode cX3_sineOf 42 = .ok (.lsub, 1) := by decide +kernel
theorem dX3_sineOf_43 : decode cX3_sineOf 43 = .ok (.invokestatic 23, 3) := by decide +kernel
theorem dX3_sineOf_46 : decode cX3_sineOf 46 = .ok (.istore 6, 2) := by decide +kernel
theorem dX3_sineOf_48 : decode cX3_sineOf 48 = .ok (.iload_n 1, 1) := by decide +kernel
theorem dX3_sineOf_49 : decode cX3_sineOf 49 = .ok (.ldc 10, 2) := by decide +kernel
theorem dX3_sineOf_51 : decode cX3_sineOf 51 = .ok (.if_icmp .ge 8, 3) := by decide +kernel
theorem dX3_sineOf_54 : decode cX3_sineOf 54 = .ok (.iload 6, 2) := by decide +kernel
theorem dX3_sineOf_56 : decode cX3_sineOf 56 = .ok (.goto 6, 3) := by decide +kernel
theorem dX3_sineOf_59 : decode cX3_sineOf 59 = .ok (.iload 6, 2) := by decide +kernel
theorem dX3_sineOf_61 : decode cX3_sineOf 61 = .ok (.ineg, 1) := by decide +kernel
theorem dX3_sineOf_62 : decode cX3_sineOf 62 = .ok (.ireturn, 1) := by decide +kernel
theorem dX3_quotient_0 : decode cX3_quotient 0 = .ok (.lload_n 2, 1) := by decide +kernel
theorem dX3_quotient_1 : decode cX3_quotient 1 = .ok (.lconst 0, 1) := by decide +kernel
theorem dX3_quotient_2 : decode cX3_quotient 2 = .ok (.lcmp, 1) := by decide +kernel
theorem dX3_quotient_3 : decode cX3_quotient 3 = .ok (.ifCond .ne 7, 3) := by decide +kernel
theorem dX3_quotient_6 : decode cX3_quotient 6 = .ok (.iconst 0, 1) := by decide +kernel
theorem dX3_quotient_7 : decode cX3_quotient 7 = .ok (.goto 7, 3) := by decide +kernel
theorem dX3_quotient_10 : decode cX3_quotient 10 = .ok (.lload_n 0, 1) := by decide +kernel
theorem dX3_quotient_11 : decode cX3_quotient 11 = .ok (.lload_n 2, 1) := by decide +kernel
theorem dX3_quotient_12 : decode cX3_quotient 12 = .ok (.ldiv, 1) := by decide +kernel
theorem dX3_quotient_13 : decode cX3_quotient 13 = .ok (.l2i, 1) := by decide +kernel
theorem dX3_quotient_14 : decode cX3_quotient 14 = .ok (.ireturn, 1) := by decide +kernel
theorem dX3_lengthOf_0 : decode cX3_lengthOf 0 = .ok (.lload_n 0, 1) := by decide +kernel
theorem dX3_lengthOf_1 : decode cX3_lengthOf 1 = .ok (.lload_n 2, 1) := by decide +kernel
theorem dX3_lengthOf_2 : decode cX3_lengthOf 2 = .ok (.invokestatic 27, 3) := by decide +kernel
theorem dX3_lengthOf_5 : decode cX3_lengthOf 5 = .ok (.invokestatic 31, 3) := by decide +kernel
theorem dX3_lengthOf_8 : decode cX3_lengthOf 8 = .ok (.ireturn, 1) := by decide +kernel
theorem dX3_squareOf_0 : decode cX3_squareOf 0 = .ok (.lload_n 0, 1) := by decide +kernel
theorem dX3_squareOf_1 : decode cX3_squareOf 1 = .ok (.lload_n 0, 1) := by decide +kernel
theorem dX3_squareOf_2 : decode cX3_squareOf 2 = .ok (.lmul, 1) := by decide +kernel
theorem dX3_squareOf_3 : decode cX3_squareOf 3 = .ok (.lload_n 2, 1) := by decide +kernel
theorem dX3_squareOf_4 : decode cX3_squareOf 4 = .ok (.lload_n 2, 1) := by decide +kernel
theorem dX3_squareOf_5 : decode cX3_squareOf 5 = .ok (.lmul, 1) := by decide +kernel
theorem dX3_squareOf_6 : decode cX3_squareOf 6 = .ok (.ladd, 1) := by decide +kernel
theorem dX3_squareOf_7 : decode cX3_squareOf 7 = .ok (.lreturn, 1) := by decide +kernel
theorem dX3_rootOf_0 : decode cX3_rootOf 0 = .ok (.lconst 0, 1) := by decide +kernel
theorem dX3_rootOf_1 : decode cX3_rootOf 1 = .ok (.lstore_n 2, 1) := by decide +kernel
theorem dX3_rootOf_2 : decode cX3_rootOf 2 = .ok (.bipush 30, 2) := by decide +kernel
theorem dX3_rootOf_4 : decode cX3_rootOf 4 = .ok (.istore 4, 2) := by decide +kernel
theorem dX3_rootOf_6 : decode cX3_rootOf 6 = .ok (.iload 4, 2) := by decide +kernel
theorem dX3_rootOf_8 : decode cX3_rootOf 8 = .ok (.ifCond .lt 30, 3) := by decide +kernel
theorem dX3_rootOf_11 : decode cX3_rootOf 11 = .ok (.lload_n 2, 1) := by decide +kernel
theorem dX3_rootOf_12 : decode cX3_rootOf 12 = .ok (.lconst 1, 1) := by decide +kernel
theorem dX3_rootOf_13 : decode cX3_rootOf 13 = .ok (.iload 4, 2) := by decide +kernel
theorem dX3_rootOf_15 : decode cX3_rootOf 15 = .ok (.lshl, 1) := by decide +kernel
theorem dX3_rootOf_16 : decode cX3_rootOf 16 = .ok (.ladd, 1) := by decide +kernel
theorem dX3_rootOf_17 : decode cX3_rootOf 17 = .ok (.lstore 5, 2) := by decide +kernel
theorem dX3_rootOf_19 : decode cX3_rootOf 19 = .ok (.lload 5, 2) := by decide +kernel
theorem dX3_rootOf_21 : decode cX3_rootOf 21 = .ok (.lload 5, 2) := by decide +kernel
theorem dX3_rootOf_23 : decode cX3_rootOf 23 = .ok (.lmul, 1) := by decide +kernel
theorem dX3_rootOf_24 : decode cX3_rootOf 24 = .ok (.lload_n 0, 1) := by decide +kernel
theorem dX3_rootOf_25 : decode cX3_rootOf 25 = .ok (.lcmp, 1) := by decide +kernel
theorem dX3_rootOf_26 : decode cX3_rootOf 26 = .ok (.ifCond .gt 6, 3) := by decide +kernel
theorem dX3_rootOf_29 : decode cX3_rootOf 29 = .ok (.lload 5, 2) := by decide +kernel
theorem dX3_rootOf_31 : decode cX3_rootOf 31 = .ok (.lstore_n 2, 1) := by decide +kernel
theorem dX3_rootOf_32 : decode cX3_rootOf 32 = .ok (.iinc 4 (-1), 3) := by decide +kernel
theorem dX3_rootOf_35 : decode cX3_rootOf 35 = .ok (.goto (-29), 3) := by decide +kernel
theorem dX3_rootOf_38 : decode cX3_rootOf 38 = .ok (.lload_n 2, 1) := by decide +kernel
theorem dX3_rootOf_39 : decode cX3_rootOf 39 = .ok (.l2i, 1) := by decide +kernel
theorem dX3_rootOf_40 : decode cX3_rootOf 40 = .ok (.ireturn, 1) := by decide +kernel
theorem dX4_init_0 : decode cX4_init 0 = .ok (.aload_n 0, 1) := by decide +kernel
theorem dX4_init_1 : decode cX4_init 1 = .ok (.invokespecial 3, 3) := by decide +kernel
theorem dX4_init_4 : decode cX4_init 4 = .ok (.aload_n 0, 1) := by decide +kernel
theorem dX4_init_5 : decode cX4_init 5 = .ok (.iconst 3, 1) := by decide +kernel
theorem dX4_init_6 : decode cX4_init 6 = .ok (.newarray .int, 2) := by decide +kernel
theorem dX4_init_8 : decode cX4_init 8 = .ok (.putfield 9, 3) := by decide +kernel
theorem dX4_init_11 : decode cX4_init 11 = .ok (.aload_n 0, 1) := by decide +kernel
theorem dX4_init_12 : decode cX4_init 12 = .ok (.bipush 90, 2) := by decide +kernel
theorem dX4_init_14 : decode cX4_init 14 = .ok (.newarray .char, 2) := by decide +kernel
theorem dX4_init_16 : decode cX4_init 16 = .ok (.putfield 15, 3) := by decide +kernel
theorem dX4_init_19 : decode cX4_init 19 = .ok (.return_, 1) := by decide +kernel
theorem dX4_append_0 : decode cX4_append 0 = .ok (.aload_n 0, 1) := by decide +kernel
theorem dX4_append_1 : decode cX4_append 1 = .ok (.getfield 19, 3) := by decide +kernel
theorem dX4_append_4 : decode cX4_append 4 = .ok (.ifCond .lt 35, 3) := by decide +kernel
theorem dX4_append_7 : decode cX4_append 7 = .ok (.aload_n 0, 1) := by decide +kernel
theorem dX4_append_8 : decode cX4_append 8 = .ok (.getfield 19, 3) := by decide +kernel
theorem dX4_append_11 : decode cX4_append 11 = .ok (.aload_n 0, 1) := by decide +kernel
theorem dX4_append_12 : decode cX4_append 12 = .ok (.getfield 15, 3) := by decide +kernel
theorem dX4_append_15 : decode cX4_append 15 = .ok (.arraylength, 1) := by decide +kernel
theorem dX4_append_16 : decode cX4_append 16 = .ok (.if_icmp .ge 23, 3) := by decide +kernel
theorem dX4_append_19 : decode cX4_append 19 = .ok (.aload_n 0, 1) := by decide +kernel
theorem dX4_append_20 : decode cX4_append 20 = .ok (.getfield 15, 3) := by decide +kernel
theorem dX4_append_23 : decode cX4_append 23 = .ok (.aload_n 0, 1) := by decide +kernel
theorem dX4_append_24 : decode cX4_append 24 = .ok (.getfield 19, 3) := by decide +kernel
theorem dX4_append_27 : decode cX4_append 27 = .ok (.iload_n 1, 1) := by decide +kernel
theorem dX4_append_28 : decode cX4_append 28 = .ok (.castore, 1) := by decide +kernel
theorem dX4_append_29 : decode cX4_append 29 = .ok (.aload_n 0, 1) := by decide +kernel
theorem dX4_append_30 : decode cX4_append 30 = .ok (.dup, 1) := by decide +kernel
theorem dX4_append_31 : decode cX4_append 31 = .ok (.getfield 19, 3) := by decide +kernel
theorem dX4_append_34 : decode cX4_append 34 = .ok (.iconst 1, 1) := by decide +kernel
theorem dX4_append_35 : decode cX4_append 35 = .ok (.iadd, 1) := by decide +kernel
theorem dX4_append_36 : decode cX4_append 36 = .ok (.putfield 19, 3) := by decide +kernel
theorem dX4_append_39 : decode cX4_append 39 = .ok (.aload_n 0, 1) := by decide +kernel
theorem dX4_append_40 : decode cX4_append 40 = .ok (.getfield 19, 3) := by decide +kernel
theorem dX4_append_43 : decode cX4_append 43 = .ok (.ireturn, 1) := by decide +kernel
theorem dX4_empty_0 : decode cX4_empty 0 = .ok (.aload_n 0, 1) := by decide +kernel
theorem dX4_empty_1 : decode cX4_empty 1 = .ok (.getfield 19, 3) := by decide +kernel
theorem dX4_empty_4 : decode cX4_empty 4 = .ok (.istore_n 1, 1) := by decide +kernel
theorem dX4_empty_5 : decode cX4_empty 5 = .ok (.aload_n 0, 1) := by decide +kernel
theorem dX4_empty_6 : decode cX4_empty 6 = .ok (.iconst 0, 1) := by decide +kernel
theorem dX4_empty_7 : decode cX4_empty 7 = .ok (.putfield 19, 3) := by decide +kernel
theorem dX4_empty_10 : decode cX4_empty 10 = .ok (.iload_n 1, 1) := by decide +kernel
theorem dX4_empty_11 : decode cX4_empty 11 = .ok (.ireturn, 1) := by decide +kernel
theorem dX4_firstFault_0 : decode cX4_firstFault 0 = .ok (.iconst 0, 1) := by decide +kernel
theorem dX4_firstFault_1 : decode cX4_firstFault 1 = .ok (.istore_n 1, 1) := by decide +kernel
theorem dX4_firstFault_2 : decode cX4_firstFault 2 = .ok (.iconst 0, 1) := by decide +kernel
theorem dX4_firstFault_3 : decode cX4_firstFault 3 = .ok (.istore_n 2, 1) := by decide +kernel
theorem dX4_firstFault_4 : decode cX4_firstFault 4 = .ok (.iconst 0, 1) := by decide +kernel
theorem dX4_firstFault_5 : decode cX4_firstFault 5 = .ok (.istore_n 3, 1) := by decide +kernel
theorem dX4_firstFault_6 : decode cX4_firstFault 6 = .ok (.iload_n 3, 1) := by decide +kernel
theorem dX4_firstFault_7 : decode cX4_firstFault 7 = .ok (.aload_n 0, 1) := by decide +kernel
theorem dX4_firstFault_8 : decode cX4_firstFault 8 = .ok (.getfield 19, 3) := by decide +kernel
theorem dX4_firstFault_11 : decode cX4_firstFault 11 = .ok (.if_icmp .ge 89, 3) := by decide +kernel
theorem dX4_firstFault_14 : decode cX4_firstFault 14 = .ok (.iload_n 3, 1) := by decide +kernel
theorem dX4_firstFault_15 : decode cX4_firstFault 15 = .ok (.aload_n 0, 1) := by decide +kernel
theorem dX4_firstFault_16 : decode cX4_firstFault 16 = .ok (.getfield 15, 3) := by decide +kernel
theorem dX4_firstFault_19 : decode cX4_firstFault 19 = .ok (.arraylength, 1) := by decide +kernel
theorem dX4_firstFault_20 : decode cX4_firstFault 20 = .ok (.if_icmp .ge 80, 3) := by decide +kernel
theorem dX4_firstFault_23 : decode cX4_firstFault 23 = .ok (.aload_n 0, 1) := by decide +kernel
theorem dX4_firstFault_24 : decode cX4_firstFault 24 = .ok (.getfield 15, 3) := by decide +kernel
theorem dX4_firstFault_27 : decode cX4_firstFault 27 = .ok (.iload_n 3, 1) := by decide +kernel
theorem dX4_firstFault_28 : decode cX4_firstFault 28 = .ok (.caload, 1) := by decide +kernel
theorem dX4_firstFault_29 : decode cX4_firstFault 29 = .ok (.istore 4, 2) := by decide +kernel
theorem dX4_firstFault_31 : decode cX4_firstFault 31 = .ok (.iload_n 1, 1) := by decide +kernel
theorem dX4_firstFault_32 : decode cX4_firstFault 32 = .ok (.ifCond .ne 15, 3) := by decide +kernel
theorem dX4_firstFault_35 : decode cX4_firstFault 35 = .ok (.iload 4, 2) := by decide +kernel
theorem dX4_firstFault_37 : decode cX4_firstFault 37 = .ok (.invokestatic 23, 3) := by decide +kernel
theorem dX4_firstFault_40 : decode cX4_firstFault 40 = .ok (.istore_n 1, 1) := by decide +kernel
theorem dX4_firstFault_41 : decode cX4_firstFault 41 = .ok (.iload_n 1, 1) := by decide +kernel
theorem dX4_firstFault_42 : decode cX4_firstFault 42 = .ok (.ifCond .ne 52, 3) := by decide +kernel
theorem dX4_firstFault_45 : decode cX4_firstFault 45 = .ok (.iload_n 3, 1) := by decide +kernel
theorem dX4_firstFault_46 : decode cX4_firstFault 46 = .ok (.ireturn, 1) := by decide +kernel
theorem dX4_firstFault_47 : decode cX4_firstFault 47 = .ok (.iload 4, 2) := by decide +kernel
theorem dX4_firstFault_49 : decode cX4_firstFault 49 = .ok (.invokestatic 27, 3) := by decide +kernel
theorem dX4_firstFault_52 : decode cX4_firstFault 52 = .ok (.ifCond .eq 14, 3) := by decide +kernel
theorem dX4_firstFault_55 : decode cX4_firstFault 55 = .ok (.iinc 2 1, 3) := by decide +kernel
theorem dX4_firstFault_58 : decode cX4_firstFault 58 = .ok (.iload_n 2, 1) := by decide +kernel
theorem dX4_firstFault_59 : decode cX4_firstFault 59 = .ok (.bipush 7, 2) := by decide +kernel
theorem dX4_firstFault_61 : decode cX4_firstFault 61 = .ok (.if_icmp .le 33, 3) := by decide +kernel
theorem dX4_firstFault_64 : decode cX4_firstFault 64 = .ok (.iload_n 3, 1) := by decide +kernel
theorem dX4_firstFault_65 : decode cX4_firstFault 65 = .ok (.ireturn, 1) := by decide +kernel
theorem dX4_firstFault_66 : decode cX4_firstFault 66 = .ok (.iload_n 2, 1) := by decide +kernel
theorem dX4_firstFault_67 : decode cX4_firstFault 67 = .ok (.ifCond .eq 20, 3) := by decide +kernel
theorem dX4_firstFault_70 : decode cX4_firstFault 70 = .ok (.iload 4, 2) := by decide +kernel
theorem dX4_firstFault_72 : decode cX4_firstFault 72 = .ok (.iload_n 1, 1) := by decide +kernel
theorem dX4_firstFault_73 : decode cX4_firstFault 73 = .ok (.iconst 1, 1) := by decide +kernel
theorem dX4_firstFault_74 : decode cX4_firstFault 74 = .ok (.if_icmp .le 8, 3) := by decide +kernel
theorem dX4_firstFault_77 : decode cX4_firstFault 77 = .ok (.bipush 44, 2) := by decide +kernel
theorem dX4_firstFault_79 : decode cX4_firstFault 79 = .ok (.goto 5, 3) := by decide +kernel
theorem dX4_firstFault_82 : decode cX4_firstFault 82 = .ok (.bipush 59, 2) := by decide +kernel
theorem dX4_firstFault_84 : decode cX4_firstFault 84 = .ok (.if_icmp .eq 5, 3) := by decide +kernel
theorem dX4_firstFault_87 : decode cX4_firstFault 87 = .ok (.iload_n 3, 1) := by decide +kernel
theorem dX4_firstFault_88 : decode cX4_firstFault 88 = .ok (.ireturn, 1) := by decide +kernel
theorem dX4_firstFault_89 : decode cX4_firstFault 89 = .ok (.iinc 1 (-1), 3) := by decide +kernel
theorem dX4_firstFault_92 : decode cX4_firstFault 92 = .ok (.iconst 0, 1) := by decide +kernel
theorem dX4_firstFault_93 : decode cX4_firstFault 93 = .ok (.istore_n 2, 1) := by decide +kernel
theorem dX4_firstFault_94 : decode cX4_firstFault 94 = .ok (.iinc 3 1, 3) := by decide +kernel
theorem dX4_firstFault_97 : decode cX4_firstFault 97 = .ok (.goto (-91), 3) := by decide +kernel
theorem dX4_firstFault_100 : decode cX4_firstFault 100 = .ok (.iload_n 1, 1) := by decide +kernel
theorem dX4_firstFault_101 : decode cX4_firstFault 101 = .ok (.ifCond .ne 8, 3) := by decide +kernel
theorem dX4_firstFault_104 : decode cX4_firstFault 104 = .ok (.ldc 31, 2) := by decide +kernel
theorem dX4_firstFault_106 : decode cX4_firstFault 106 = .ok (.goto 7, 3) := by decide +kernel
theorem dX4_firstFault_109 : decode cX4_firstFault 109 = .ok (.aload_n 0, 1) := by decide +kernel
theorem dX4_firstFault_110 : decode cX4_firstFault 110 = .ok (.getfield 19, 3) := by decide +kernel
theorem dX4_firstFault_113 : decode cX4_firstFault 113 = .ok (.ireturn, 1) := by decide +kernel
theorem dX4_endsCommand_0 : decode cX4_endsCommand 0 = .ok (.iload_n 1, 1) := by decide +kernel
theorem dX4_endsCommand_1 : decode cX4_endsCommand 1 = .ok (.ifCond .lt 21, 3) := by decide +kernel
theorem dX4_endsCommand_4 : decode cX4_endsCommand 4 = .ok (.iload_n 1, 1) := by decide +kernel
theorem dX4_endsCommand_5 : decode cX4_endsCommand 5 = .ok (.aload_n 0, 1) := by decide +kernel
theorem dX4_endsCommand_6 : decode cX4_endsCommand 6 = .ok (.getfield 15, 3) := by decide +kernel
theorem dX4_endsCommand_9 : decode cX4_endsCommand 9 = .ok (.arraylength, 1) := by decide +kernel
theorem dX4_endsCommand_10 : decode cX4_endsCommand 10 = .ok (.if_icmp .ge 12, 3) := by decide +kernel
theorem dX4_endsCommand_13 : decode cX4_endsCommand 13 = .ok (.aload_n 0, 1) := by decide +kernel
theorem dX4_endsCommand_14 : decode cX4_endsCommand 14 = .ok (.getfield 15, 3) := by decide +kernel
theorem dX4_endsCommand_17 : decode cX4_endsCommand 17 = .ok (.iload_n 1, 1) := by decide +kernel
theorem dX4_endsCommand_18 : decode cX4_endsCommand 18 = .ok (.caload, 1) := by decide +kernel
theorem dX4_endsCommand_19 : decode cX4_endsCommand 19 = .ok (.goto 5, 3) := by decide +kernel
theorem dX4_endsCommand_22 : decode cX4_endsCommand 22 = .ok (.bipush 32, 2) := by decide +kernel
theorem dX4_endsCommand_24 : decode cX4_endsCommand 24 = .ok (.istore_n 2, 1) := by decide +kernel
theorem dX4_endsCommand_25 : decode cX4_endsCommand 25 = .ok (.iload_n 2, 1) := by decide +kernel
theorem dX4_endsCommand_26 : decode cX4_endsCommand 26 = .ok (.bipush 44, 2) := by decide +kernel
theorem dX4_endsCommand_28 : decode cX4_endsCommand 28 = .ok (.if_icmp .ne 16, 3) := by decide +kernel
theorem dX4_endsCommand_31 : decode cX4_endsCommand 31 = .ok (.aload_n 0, 1) := by decide +kernel
theorem dX4_endsCommand_32 : decode cX4_endsCommand 32 = .ok (.dup, 1) := by decide +kernel
theorem dX4_endsCommand_33 : decode cX4_endsCommand 33 = .ok (.getfield 32, 3) := by decide +kernel
theorem dX4_endsCommand_36 : decode cX4_endsCommand 36 = .ok (.iconst 1, 1) := by decide +kernel
theorem dX4_endsCommand_37 : decode cX4_endsCommand 37 = .ok (.iadd, 1) := by decide +kernel
theorem dX4_endsCommand_38 : decode cX4_endsCommand 38 = .ok (.putfield 32, 3) := by decide +kernel
theorem dX4_endsCommand_41 : decode cX4_endsCommand 41 = .ok (.goto 69, 3) := by decide +kernel
theorem dX4_endsCommand_44 : decode cX4_endsCommand 44 = .ok (.iload_n 2, 1) := by decide +kernel
theorem dX4_endsCommand_45 : decode cX4_endsCommand 45 = .ok (.invokestatic 27, 3) := by decide +kernel
theorem dX4_endsCommand_48 : decode cX4_endsCommand 48 = .ok (.ifCond .eq 51, 3) := by decide +kernel
theorem dX4_endsCommand_51 : decode cX4_endsCommand 51 = .ok (.aload_n 0, 1) := by decide +kernel
theorem dX4_endsCommand_52 : decode cX4_endsCommand 52 = .ok (.getfield 32, 3) := by decide +kernel
theorem dX4_endsCommand_55 : decode cX4_endsCommand 55 = .ok (.ifCond .lt 55, 3) := by decide +kernel
theorem dX4_endsCommand_58 : decode cX4_endsCommand 58 = .ok (.aload_n 0, 1) := by decide +kernel
theorem dX4_endsCommand_59 : decode cX4_endsCommand 59 = .ok (.getfield 32, 3) := by decide +kernel
theorem dX4_endsCommand_62 : decode cX4_endsCommand 62 = .ok (.aload_n 0, 1) := by decide +kernel
theorem dX4_endsCommand_63 : decode cX4_endsCommand 63 = .ok (.getfield 9, 3) := by decide +kernel
theorem dX4_endsCommand_66 : decode cX4_endsCommand 66 = .ok (.arraylength, 1) := by decide +kernel
theorem dX4_endsCommand_67 : decode cX4_endsCommand 67 = .ok (.if_icmp .ge 43, 3) := by decide +kernel
theorem dX4_endsCommand_70 : decode cX4_endsCommand 70 = .ok (.aload_n 0, 1) := by decide +kernel
theorem dX4_endsCommand_71 : decode cX4_endsCommand 71 = .ok (.getfield 9, 3) := by decide +kernel
theorem dX4_endsCommand_74 : decode cX4_endsCommand 74 = .ok (.aload_n 0, 1) := by decide +kernel
theorem dX4_endsCommand_75 : decode cX4_endsCommand 75 = .ok (.getfield 32, 3) := by decide +kernel
theorem dX4_endsCommand_78 : decode cX4_endsCommand 78 = .ok (.bipush 10, 2) := by decide +kernel
theorem dX4_endsCommand_80 : decode cX4_endsCommand 80 = .ok (.aload_n 0, 1) := by decide +kernel
theorem dX4_endsCommand_81 : decode cX4_endsCommand 81 = .ok (.getfield 9, 3) := by decide +kernel
theorem dX4_endsCommand_84 : decode cX4_endsCommand 84 = .ok (.aload_n 0, 1) := by decide +kernel
theorem dX4_endsCommand_85 : decode cX4_endsCommand 85 = .ok (.getfield 32, 3) := by decide +kernel
theorem dX4_endsCommand_88 : decode cX4_endsCommand 88 = .ok (.iaload, 1) := by decide +kernel
theorem dX4_endsCommand_89 : decode cX4_endsCommand 89 = .ok (.imul, 1) := by decide +kernel
theorem dX4_endsCommand_90 : decode cX4_endsCommand 90 = .ok (.iload_n 2, 1) := by decide +kernel
theorem dX4_endsCommand_91 : decode cX4_endsCommand 91 = .ok (.bipush 48, 2) := by decide +kernel
theorem dX4_endsCommand_93 : decode cX4_endsCommand 93 = .ok (.isub, 1) := by decide +kernel
theorem dX4_endsCommand_94 : decode cX4_endsCommand 94 = .ok (.iadd, 1) := by decide +kernel
theorem dX4_endsCommand_95 : decode cX4_endsCommand 95 = .ok (.iastore, 1) := by decide +kernel
theorem dX4_endsCommand_96 : decode cX4_endsCommand 96 = .ok (.goto 14, 3) := by decide +kernel
theorem dX4_endsCommand_99 : decode cX4_endsCommand 99 = .ok (.iload_n 2, 1) := by decide +kernel
theorem dX4_endsCommand_100 : decode cX4_endsCommand 100 = .ok (.bipush 59, 2) := by decide +kernel
theorem dX4_endsCommand_102 : decode cX4_endsCommand 102 = .ok (.if_icmp .eq 8, 3) := by decide +kernel
theorem dX4_endsCommand_105 : decode cX4_endsCommand 105 = .ok (.aload_n 0, 1) := by decide +kernel
theorem dX4_endsCommand_106 : decode cX4_endsCommand 106 = .ok (.iload_n 2, 1) := by decide +kernel
theorem dX4_endsCommand_107 : decode cX4_endsCommand 107 = .ok (.invokevirtual 35, 3) := by decide +kernel
theorem dX4_endsCommand_110 : decode cX4_endsCommand 110 = .ok (.iload_n 2, 1) := by decide +kernel
theorem dX4_endsCommand_111 : decode cX4_endsCommand 111 = .ok (.bipush 59, 2) := by decide +kernel
theorem dX4_endsCommand_113 : decode cX4_endsCommand 113 = .ok (.if_icmp .ne 7, 3) := by decide +kernel
theorem dX4_endsCommand_116 : decode cX4_endsCommand 116 = .ok (.iconst 1, 1) := by decide +kernel
theorem dX4_endsCommand_117 : decode cX4_endsCommand 117 = .ok (.goto 4, 3) := by decide +kernel
theorem dX4_endsCommand_120 : decode cX4_endsCommand 120 = .ok (.iconst 0, 1) := by decide +kernel
theorem dX4_endsCommand_121 : decode cX4_endsCommand 121 = .ok (.ireturn, 1) := by decide +kernel
theorem dX4_startCommand_0 : decode cX4_startCommand 0 = .ok (.aload_n 0, 1) := by decide +kernel
theorem dX4_startCommand_1 : decode cX4_startCommand 1 = .ok (.iload_n 1, 1) := by decide +kernel
theorem dX4_startCommand_2 : decode cX4_startCommand 2 = .ok (.putfield 39, 3) := by decide +kernel
theorem dX4_startCommand_5 : decode cX4_startCommand 5 = .ok (.aload_n 0, 1) := by decide +kernel
theorem dX4_startCommand_6 : decode cX4_startCommand 6 = .ok (.iconst 0, 1) := by decide +kernel
theorem dX4_startCommand_7 : decode cX4_startCommand 7 = .ok (.putfield 32, 3) := by decide +kernel
theorem dX4_startCommand_10 : decode cX4_startCommand 10 = .ok (.iconst 0, 1) := by decide +kernel
theorem dX4_startCommand_11 : decode cX4_startCommand 11 = .ok (.istore_n 2, 1) := by decide +kernel
theorem dX4_startCommand_12 : decode cX4_startCommand 12 = .ok (.iload_n 2, 1) := by decide +kernel
theorem dX4_startCommand_13 : decode cX4_startCommand 13 = .ok (.aload_n 0, 1) := by decide +kernel
theorem dX4_startCommand_14 : decode cX4_startCommand 14 = .ok (.getfield 9, 3) := by decide +kernel
theorem dX4_startCommand_17 : decode cX4_startCommand 17 = .ok (.arraylength, 1) := by decide +kernel
theorem dX4_startCommand_18 : decode cX4_startCommand 18 = .ok (.if_icmp .ge 16, 3) := by decide +kernel
theorem dX4_startCommand_21 : decode cX4_startCommand 21 = .ok (.aload_n 0, 1) := by decide +kernel
theorem dX4_startCommand_22 : decode cX4_startCommand 22 = .ok (.getfield 9, 3) := by decide +kernel
theorem dX4_startCommand_25 : decode cX4_startCommand 25 = .ok (.iload_n 2, 1) := by decide +kernel
theorem dX4_startCommand_26 : decode cX4_startCommand 26 = .ok (.iconst 0, 1) := by decide +kernel
theorem dX4_startCommand_27 : decode cX4_startCommand 27 = .ok (.iastore, 1) := by decide +kernel
theorem dX4_startCommand_28 : decode cX4_startCommand 28 = .ok (.iinc 2 1, 3) := by decide +kernel
theorem dX4_startCommand_31 : decode cX4_startCommand 31 = .ok (.goto (-19), 3) := by decide +kernel
theorem dX4_startCommand_34 : decode cX4_startCommand 34 = .ok (.return_, 1) := by decide +kernel
theorem dX4_numbersOf_0 : decode cX4_numbersOf 0 = .ok (.iload_n 0, 1) := by decide +kernel
theorem dX4_numbersOf_1 : decode cX4_numbersOf 1 = .ok (.bipush 108, 2) := by decide +kernel
theorem dX4_numbersOf_3 : decode cX4_numbersOf 3 = .ok (.if_icmp .ne 5, 3) := by decide +kernel
theorem dX4_numbersOf_6 : decode cX4_numbersOf 6 = .ok (.iconst 3, 1) := by decide +kernel
theorem dX4_numbersOf_7 : decode cX4_numbersOf 7 = .ok (.ireturn, 1) := by decide +kernel
theorem dX4_numbersOf_8 : decode cX4_numbersOf 8 = .ok (.iload_n 0, 1) := by decide +kernel
theorem dX4_numbersOf_9 : decode cX4_numbersOf 9 = .ok (.bipush 116, 2) := by decide +kernel
theorem dX4_numbersOf_11 : decode cX4_numbersOf 11 = .ok (.if_icmp .ne 5, 3) := by decide +kernel
theorem dX4_numbersOf_14 : decode cX4_numbersOf 14 = .ok (.iconst 2, 1) := by decide +kernel
theorem dX4_numbersOf_15 : decode cX4_numbersOf 15 = .ok (.ireturn, 1) := by decide +kernel
theorem dX4_numbersOf_16 : decode cX4_numbersOf 16 = .ok (.iload_n 0, 1) := by decide +kernel
theorem dX4_numbersOf_17 : decode cX4_numbersOf 17 = .ok (.bipush 107, 2) := by decide +kernel
theorem dX4_numbersOf_19 : decode cX4_numbersOf 19 = .ok (.if_icmp .eq 9, 3) := by decide +kernel
theorem dX4_numbersOf_22 : decode cX4_numbersOf 22 = .ok (.iload_n 0, 1) := by decide +kernel
theorem dX4_numbersOf_23 : decode cX4_numbersOf 23 = .ok (.bipush 97, 2) := by decide +kernel
theorem dX4_numbersOf_25 : decode cX4_numbersOf 25 = .ok (.if_icmp .ne 7, 3) := by decide +kernel
theorem dX4_numbersOf_28 : decode cX4_numbersOf 28 = .ok (.iconst 1, 1) := by decide +kernel
theorem dX4_numbersOf_29 : decode cX4_numbersOf 29 = .ok (.goto 4, 3) := by decide +kernel
theorem dX4_numbersOf_32 : decode cX4_numbersOf 32 = .ok (.iconst 0, 1) := by decide +kernel
theorem dX4_numbersOf_33 : decode cX4_numbersOf 33 = .ok (.ireturn, 1) := by decide +kernel
theorem dX4_isDigit_0 : decode cX4_isDigit 0 = .ok (.iload_n 0, 1) := by decide +kernel
theorem dX4_isDigit_1 : decode cX4_isDigit 1 = .ok (.bipush 48, 2) := by decide +kernel
theorem dX4_isDigit_3 : decode cX4_isDigit 3 = .ok (.if_icmp .lt 13, 3) := by decide +kernel
theorem dX4_isDigit_6 : decode cX4_isDigit 6 = .ok (.iload_n 0, 1) := by decide +kernel
theorem dX4_isDigit_7 : decode cX4_isDigit 7 = .ok (.bipush 57, 2) := by decide +kernel
theorem dX4_isDigit_9 : decode cX4_isDigit 9 = .ok (.if_icmp .gt 7, 3) := by decide +kernel
theorem dX4_isDigit_12 : decode cX4_isDigit 12 = .ok (.iconst 1, 1) := by decide +kernel
theorem dX4_isDigit_13 : decode cX4_isDigit 13 = .ok (.goto 4, 3) := by decide +kernel
theorem dX4_isDigit_16 : decode cX4_isDigit 16 = .ok (.iconst 0, 1) := by decide +kernel
theorem dX4_isDigit_17 : decode cX4_isDigit 17 = .ok (.ireturn, 1) := by decide +kernel
theorem dX5_init_0 : decode cX5_init 0 = .ok (.aload_n 0, 1) := by decide +kernel
theorem dX5_init_1 : decode cX5_init 1 = .ok (.invokespecial 3, 3) := by decide +kernel
theorem dX5_init_4 : decode cX5_init 4 = .ok (.aload_n 0, 1) := by decide +kernel
theorem dX5_init_5 : decode cX5_init 5 = .ok (.bipush 12, 2) := by decide +kernel
theorem dX5_init_7 : decode cX5_init 7 = .ok (.newarray .int, 2) := by decide +kernel
theorem dX5_init_9 : decode cX5_init 9 = .ok (.putfield 9, 3) := by decide +kernel
theorem dX5_init_12 : decode cX5_init 12 = .ok (.aload_n 0, 1) := by decide +kernel
theorem dX5_init_13 : decode cX5_init 13 = .ok (.bipush 12, 2) := by decide +kernel
theorem dX5_init_15 : decode cX5_init 15 = .ok (.newarray .int, 2) := by decide +kernel
theorem dX5_init_17 : decode cX5_init 17 = .ok (.putfield 15, 3) := by decide +kernel
theorem dX5_init_20 : decode cX5_init 20 = .ok (.aload_n 0, 1) := by decide +kernel
theorem dX5_init_21 : decode cX5_init 21 = .ok (.bipush 12, 2) := by decide +kernel
theorem dX5_init_23 : decode cX5_init 23 = .ok (.newarray .int, 2) := by decide +kernel
theorem dX5_init_25 : decode cX5_init 25 = .ok (.putfield 18, 3) := by decide +kernel
theorem dX5_init_28 : decode cX5_init 28 = .ok (.aload_n 0, 1) := by decide +kernel
theorem dX5_init_29 : decode cX5_init 29 = .ok (.bipush 12, 2) := by decide +kernel
theorem dX5_init_31 : decode cX5_init 31 = .ok (.newarray .int, 2) := by decide +kernel
theorem dX5_init_33 : decode cX5_init 33 = .ok (.putfield 21, 3) := by decide +kernel
theorem dX5_init_36 : decode cX5_init 36 = .ok (.aload_n 0, 1) := by decide +kernel
theorem dX5_init_37 : decode cX5_init 37 = .ok (.bipush 12, 2) := by decide +kernel
theorem dX5_init_39 : decode cX5_init 39 = .ok (.newarray .int, 2) := by decide +kernel
theorem dX5_init_41 : decode cX5_init 41 = .ok (.putfield 24, 3) := by decide +kernel
theorem dX5_init_44 : decode cX5_init 44 = .ok (.return_, 1) := by decide +kernel
theorem dX5_copyFrom_0 : decode cX5_copyFrom 0 = .ok (.aload_n 0, 1) := by decide +kernel
theorem dX5_copyFrom_1 : decode cX5_copyFrom 1 = .ok (.aload_n 1, 1) := by decide +kernel
theorem dX5_copyFrom_2 : decode cX5_copyFrom 2 = .ok (.getfield 27, 3) := by decide +kernel
theorem dX5_copyFrom_5 : decode cX5_copyFrom 5 = .ok (.putfield 27, 3) := by decide +kernel
theorem dX5_copyFrom_8 : decode cX5_copyFrom 8 = .ok (.aload_n 0, 1) := by decide +kernel
theorem dX5_copyFrom_9 : decode cX5_copyFrom 9 = .ok (.aload_n 1, 1) := by decide +kernel
theorem dX5_copyFrom_10 : decode cX5_copyFrom 10 = .ok (.getfield 31, 3) := by decide +kernel
theorem dX5_copyFrom_13 : decode cX5_copyFrom 13 = .ok (.putfield 31, 3) := by decide +kernel
theorem dX5_copyFrom_16 : decode cX5_copyFrom 16 = .ok (.aload_n 0, 1) := by decide +kernel
theorem dX5_copyFrom_17 : decode cX5_copyFrom 17 = .ok (.aload_n 1, 1) := by decide +kernel
theorem dX5_copyFrom_18 : decode cX5_copyFrom 18 = .ok (.getfield 34, 3) := by decide +kernel
theorem dX5_copyFrom_21 : decode cX5_copyFrom 21 = .ok (.putfield 34, 3) := by decide +kernel
theorem dX5_copyFrom_24 : decode cX5_copyFrom 24 = .ok (.aload_n 0, 1) := by decide +kernel
theorem dX5_copyFrom_25 : decode cX5_copyFrom 25 = .ok (.aload_n 1, 1) := by decide +kernel
theorem dX5_copyFrom_26 : decode cX5_copyFrom 26 = .ok (.getfield 37, 3) := by decide +kernel
theorem dX5_copyFrom_29 : decode cX5_copyFrom 29 = .ok (.putfield 37, 3) := by decide +kernel
theorem dX5_copyFrom_32 : decode cX5_copyFrom 32 = .ok (.aload_n 1, 1) := by decide +kernel
theorem dX5_copyFrom_33 : decode cX5_copyFrom 33 = .ok (.getfield 9, 3) := by decide +kernel
theorem dX5_copyFrom_36 : decode cX5_copyFrom 36 = .ok (.iconst 0, 1) := by decide +kernel
theorem dX5_copyFrom_37 : decode cX5_copyFrom 37 = .ok (.aload_n 0, 1) := by decide +kernel
theorem dX5_copyFrom_38 : decode cX5_copyFrom 38 = .ok (.getfield 9, 3) := by decide +kernel
theorem dX5_copyFrom_41 : decode cX5_copyFrom 41 = .ok (.iconst 0, 1) := by decide +kernel
theorem dX5_copyFrom_42 : decode cX5_copyFrom 42 = .ok (.bipush 12, 2) := by decide +kernel
theorem dX5_copyFrom_44 : decode cX5_copyFrom 44 = .ok (.invokestatic 40, 3) := by decide +kernel
theorem dX5_copyFrom_47 : decode cX5_copyFrom 47 = .ok (.aload_n 1, 1) := by decide +kernel
theorem dX5_copyFrom_48 : decode cX5_copyFrom 48 = .ok (.getfield 15, 3) := by decide +kernel
theorem dX5_copyFrom_51 : decode cX5_copyFrom 51 = .ok (.iconst 0, 1) := by decide +kernel
theorem dX5_copyFrom_52 : decode cX5_copyFrom 52 = .ok (.aload_n 0, 1) := by decide +kernel
theorem dX5_copyFrom_53 : decode cX5_copyFrom 53 = .ok (.getfield 15, 3) := by decide +kernel
theorem dX5_copyFrom_56 : decode cX5_copyFrom 56 = .ok (.iconst 0, 1) := by decide +kernel
theorem dX5_copyFrom_57 : decode cX5_copyFrom 57 = .ok (.bipush 12, 2) := by decide +kernel
theorem dX5_copyFrom_59 : decode cX5_copyFrom 59 = .ok (.invokestatic 40, 3) := by decide +kernel
theorem dX5_copyFrom_62 : decode cX5_copyFrom 62 = .ok (.return_, 1) := by decide +kernel
theorem dX5_startAt_0 : decode cX5_startAt 0 = .ok (.aload_n 0, 1) := by decide +kernel
theorem dX5_startAt_1 : decode cX5_startAt 1 = .ok (.iload_n 1, 1) := by decide +kernel
theorem dX5_startAt_2 : decode cX5_startAt 2 = .ok (.putfield 27, 3) := by decide +kernel
theorem dX5_startAt_5 : decode cX5_startAt 5 = .ok (.aload_n 0, 1) := by decide +kernel
theorem dX5_startAt_6 : decode cX5_startAt 6 = .ok (.iconst 0, 1) := by decide +kernel
theorem dX5_startAt_7 : decode cX5_startAt 7 = .ok (.putfield 37, 3) := by decide +kernel
theorem dX5_startAt_10 : decode cX5_startAt 10 = .ok (.aload_n 0, 1) := by decide +kernel
theorem dX5_startAt_11 : decode cX5_startAt 11 = .ok (.ldc 46, 2) := by decide +kernel
theorem dX5_startAt_13 : decode cX5_startAt 13 = .ok (.ldc 46, 2) := by decide +kernel
theorem dX5_startAt_15 : decode cX5_startAt 15 = .ok (.invokevirtual 47, 3) := by decide +kernel
theorem dX5_startAt_18 : decode cX5_startAt 18 = .ok (.return_, 1) := by decide +kernel
theorem dX5_closeOn_0 : decode cX5_closeOn 0 = .ok (.aload_n 0, 1) := by decide +kernel
theorem dX5_closeOn_1 : decode cX5_closeOn 1 = .ok (.iload_n 1, 1) := by decide +kernel
theorem dX5_closeOn_2 : decode cX5_closeOn 2 = .ok (.putfield 31, 3) := by decide +kernel
theorem dX5_closeOn_5 : decode cX5_closeOn 5 = .ok (.aload_n 0, 1) := by decide +kernel
theorem dX5_closeOn_6 : decode cX5_closeOn 6 = .ok (.iload_n 2, 1) := by decide +kernel
theorem dX5_closeOn_7 : decode cX5_closeOn 7 = .ok (.putfield 34, 3) := by decide +kernel
theorem dX5_closeOn_10 : decode cX5_closeOn 10 = .ok (.return_, 1) := by decide +kernel
theorem dX5_isClosed_0 : decode cX5_isClosed 0 = .ok (.aload_n 0, 1) := by decide +kernel
theorem dX5_isClosed_1 : decode cX5_isClosed 1 = .ok (.getfield 31, 3) := by decide +kernel
theorem dX5_isClosed_4 : decode cX5_isClosed 4 = .ok (.ldc 46, 2) := by decide +kernel
theorem dX5_isClosed_6 : decode cX5_isClosed 6 = .ok (.if_icmp .eq 7, 3) := by decide +kernel
theorem dX5_isClosed_9 : decode cX5_isClosed 9 = .ok (.iconst 1, 1) := by decide +kernel
theorem dX5_isClosed_10 : decode cX5_isClosed 10 = .ok (.goto 4, 3) := by decide +kernel
theorem dX5_isClosed_13 : decode cX5_isClosed 13 = .ok (.iconst 0, 1) := by decide +kernel
theorem dX5_isClosed_14 : decode cX5_isClosed 14 = .ok (.ireturn, 1) := by decide +kernel
theorem dX5_hasLeg_0 : decode cX5_hasLeg 0 = .ok (.iload_n 1, 1) := by decide +kernel
theorem dX5_hasLeg_1 : decode cX5_hasLeg 1 = .ok (.ifCond .lt 21, 3) := by decide +kernel
theorem dX5_hasLeg_4 : decode cX5_hasLeg 4 = .ok (.iload_n 1, 1) := by decide +kernel
theorem dX5_hasLeg_5 : decode cX5_hasLeg 5 = .ok (.aload_n 0, 1) := by decide +kernel
theorem dX5_hasLeg_6 : decode cX5_hasLeg 6 = .ok (.getfield 37, 3) := by decide +kernel
theorem dX5_hasLeg_9 : decode cX5_hasLeg 9 = .ok (.if_icmp .ge 13, 3) := by decide +kernel
theorem dX5_hasLeg_12 : decode cX5_hasLeg 12 = .ok (.iload_n 1, 1) := by decide +kernel
theorem dX5_hasLeg_13 : decode cX5_hasLeg 13 = .ok (.bipush 12, 2) := by decide +kernel
theorem dX5_hasLeg_15 : decode cX5_hasLeg 15 = .ok (.if_icmp .ge 7, 3) := by decide +kernel
theorem dX5_hasLeg_18 : decode cX5_hasLeg 18 = .ok (.iconst 1, 1) := by decide +kernel
theorem dX5_hasLeg_19 : decode cX5_hasLeg 19 = .ok (.goto 4, 3) := by decide +kernel
theorem dX5_hasLeg_22 : decode cX5_hasLeg 22 = .ok (.iconst 0, 1) := by decide +kernel
theorem dX5_hasLeg_23 : decode cX5_hasLeg 23 = .ok (.ireturn, 1) := by decide +kernel
theorem dX5_hasEnd_0 : decode cX5_hasEnd 0 = .ok (.aload_n 0, 1) := by decide +kernel
theorem dX5_hasEnd_1 : decode cX5_hasEnd 1 = .ok (.getfield 51, 3) := by decide +kernel
theorem dX5_hasEnd_4 : decode cX5_hasEnd 4 = .ok (.iconst 5, 1) := by decide +kernel
theorem dX5_hasEnd_5 : decode cX5_hasEnd 5 = .ok (.if_icmp .eq 16, 3) := by decide +kernel
theorem dX5_hasEnd_8 : decode cX5_hasEnd 8 = .ok (.aload_n 0, 1) := by decide +kernel
theorem dX5_hasEnd_9 : decode cX5_hasEnd 9 = .ok (.getfield 51, 3) := by decide +kernel
theorem dX5_hasEnd_12 : decode cX5_hasEnd 12 = .ok (.bipush 6, 2) := by decide +kernel
theorem dX5_hasEnd_14 : decode cX5_hasEnd 14 = .ok (.if_icmp .eq 7, 3) := by decide +kernel
theorem dX5_hasEnd_17 : decode cX5_hasEnd 17 = .ok (.iconst 1, 1) := by decide +kernel
theorem dX5_hasEnd_18 : decode cX5_hasEnd 18 = .ok (.goto 4, 3) := by decide +kernel
theorem dX5_hasEnd_21 : decode cX5_hasEnd 21 = .ok (.iconst 0, 1) := by decide +kernel
theorem dX5_hasEnd_22 : decode cX5_hasEnd 22 = .ok (.ireturn, 1) := by decide +kernel
theorem dX5_hasGap_0 : decode cX5_hasGap 0 = .ok (.aload_n 0, 1) := by decide +kernel
theorem dX5_hasGap_1 : decode cX5_hasGap 1 = .ok (.invokevirtual 54, 3) := by decide +kernel
theorem dX5_hasGap_4 : decode cX5_hasGap 4 = .ok (.ifCond .eq 23, 3) := by decide +kernel
theorem dX5_hasGap_7 : decode cX5_hasGap 7 = .ok (.aload_n 0, 1) := by decide +kernel
theorem dX5_hasGap_8 : decode cX5_hasGap 8 = .ok (.invokevirtual 58, 3) := by decide +kernel
theorem dX5_hasGap_11 : decode cX5_hasGap 11 = .ok (.ifCond .eq 16, 3) := by decide +kernel
theorem dX5_hasGap_14 : decode cX5_hasGap 14 = .ok (.aload_n 0, 1) := by decide +kernel
theorem dX5_hasGap_15 : decode cX5_hasGap 15 = .ok (.getfield 51, 3) := by decide +kernel
theorem dX5_hasGap_18 : decode cX5_hasGap 18 = .ok (.bipush 7, 2) := by decide +kernel
theorem dX5_hasGap_20 : decode cX5_hasGap 20 = .ok (.if_icmp .eq 7, 3) := by decide +kernel
theorem dX5_hasGap_23 : decode cX5_hasGap 23 = .ok (.iconst 1, 1) := by decide +kernel
theorem dX5_hasGap_24 : decode cX5_hasGap 24 = .ok (.goto 4, 3) := by decide +kernel
theorem dX5_hasGap_27 : decode cX5_hasGap 27 = .ok (.iconst 0, 1) := by decide +kernel
theorem dX5_hasGap_28 : decode cX5_hasGap 28 = .ok (.ireturn, 1) := by decide +kernel
theorem dX5_append_0 : decode cX5_append 0 = .ok (.aload_n 0, 1) := by decide +kernel
theorem dX5_append_1 : decode cX5_append 1 = .ok (.getfield 37, 3) := by decide +kernel
theorem dX5_append_4 : decode cX5_append 4 = .ok (.ifCond .lt 12, 3) := by decide +kernel
theorem dX5_append_7 : decode cX5_append 7 = .ok (.aload_n 0, 1) := by decide +kernel
theorem dX5_append_8 : decode cX5_append 8 = .ok (.getfield 37, 3) := by decide +kernel
theorem dX5_append_11 : decode cX5_append 11 = .ok (.bipush 12, 2) := by decide +kernel
theorem dX5_append_13 : decode cX5_append 13 = .ok (.if_icmp .lt 6, 3) := by decide +kernel
theorem dX5_append_16 : decode cX5_append 16 = .ok (.ldc 46, 2) := by decide +kernel
theorem dX5_append_18 : decode cX5_append 18 = .ok (.ireturn, 1) := by decide +kernel
theorem dX5_append_19 : decode cX5_append 19 = .ok (.aload_n 0, 1) := by decide +kernel
theorem dX5_append_20 : decode cX5_append 20 = .ok (.getfield 9, 3) := by decide +kernel
theorem dX5_append_23 : decode cX5_append 23 = .ok (.aload_n 0, 1) := by decide +kernel
theorem dX5_append_24 : decode cX5_append 24 = .ok (.getfield 37, 3) := by decide +kernel
theorem dX5_append_27 : decode cX5_append 27 = .ok (.iload_n 1, 1) := by decide +kernel
theorem dX5_append_28 : decode cX5_append 28 = .ok (.iastore, 1) := by decide +kernel
theorem dX5_append_29 : decode cX5_append 29 = .ok (.aload_n 0, 1) := by decide +kernel
theorem dX5_append_30 : decode cX5_append 30 = .ok (.getfield 15, 3) := by decide +kernel
theorem dX5_append_33 : decode cX5_append 33 = .ok (.aload_n 0, 1) := by decide +kernel
theorem dX5_append_34 : decode cX5_append 34 = .ok (.getfield 37, 3) := by decide +kernel
theorem dX5_append_37 : decode cX5_append 37 = .ok (.iload_n 2, 1) := by decide +kernel
theorem dX5_append_38 : decode cX5_append 38 = .ok (.iastore, 1) := by decide +kernel
theorem dX5_append_39 : decode cX5_append 39 = .ok (.aload_n 0, 1) := by decide +kernel
theorem dX5_append_40 : decode cX5_append 40 = .ok (.dup, 1) := by decide +kernel
theorem dX5_append_41 : decode cX5_append 41 = .ok (.getfield 37, 3) := by decide +kernel
theorem dX5_append_44 : decode cX5_append 44 = .ok (.iconst 1, 1) := by decide +kernel
theorem dX5_append_45 : decode cX5_append 45 = .ok (.iadd, 1) := by decide +kernel
theorem dX5_append_46 : decode cX5_append 46 = .ok (.putfield 37, 3) := by decide +kernel
theorem dX5_append_49 : decode cX5_append 49 = .ok (.aload_n 0, 1) := by decide +kernel
theorem dX5_append_50 : decode cX5_append 50 = .ok (.getfield 37, 3) := by decide +kernel
theorem dX5_append_53 : decode cX5_append 53 = .ok (.iconst 1, 1) := by decide +kernel
theorem dX5_append_54 : decode cX5_append 54 = .ok (.isub, 1) := by decide +kernel
theorem dX5_append_55 : decode cX5_append 55 = .ok (.ireturn, 1) := by decide +kernel
theorem dX5_shorten_0 : decode cX5_shorten 0 = .ok (.aload_n 0, 1) := by decide +kernel
theorem dX5_shorten_1 : decode cX5_shorten 1 = .ok (.getfield 37, 3) := by decide +kernel
theorem dX5_shorten_4 : decode cX5_shorten 4 = .ok (.ifCond .le 13, 3) := by decide +kernel
theorem dX5_shorten_7 : decode cX5_shorten 7 = .ok (.aload_n 0, 1) := by decide +kernel
theorem dX5_shorten_8 : decode cX5_shorten 8 = .ok (.dup, 1) := by decide +kernel
theorem dX5_shorten_9 : decode cX5_shorten 9 = .ok (.getfield 37, 3) := by decide +kernel
theorem dX5_shorten_12 : decode cX5_shorten 12 = .ok (.iconst 1, 1) := by decide +kernel
theorem dX5_shorten_13 : decode cX5_shorten 13 = .ok (.isub, 1) := by decide +kernel
theorem dX5_shorten_14 : decode cX5_shorten 14 = .ok (.putfield 37, 3) := by decide +kernel
theorem dX5_shorten_17 : decode cX5_shorten 17 = .ok (.aload_n 0, 1) := by decide +kernel
theorem dX5_shorten_18 : decode cX5_shorten 18 = .ok (.ldc 46, 2) := by decide +kernel
theorem dX5_shorten_20 : decode cX5_shorten 20 = .ok (.ldc 46, 2) := by decide +kernel
theorem dX5_shorten_22 : decode cX5_shorten 22 = .ok (.invokevirtual 47, 3) := by decide +kernel
theorem dX5_shorten_25 : decode cX5_shorten 25 = .ok (.aload_n 0, 1) := by decide +kernel
theorem dX5_shorten_26 : decode cX5_shorten 26 = .ok (.getfield 37, 3) := by decide +kernel
theorem dX5_shorten_29 : decode cX5_shorten 29 = .ok (.ireturn, 1) := by decide +kernel
theorem dX5_takeGapAway_0 : decode cX5_takeGapAway 0 = .ok (.aload_n 0, 1) := by decide +kernel
theorem dX5_takeGapAway_1 : decode cX5_takeGapAway 1 = .ok (.getfield 61, 3) := by decide +kernel
theorem dX5_takeGapAway_4 : decode cX5_takeGapAway 4 = .ok (.istore_n 1, 1) := by decide +kernel
theorem dX5_takeGapAway_5 : decode cX5_takeGapAway 5 = .ok (.iload_n 1, 1) := by decide +kernel
theorem dX5_takeGapAway_6 : decode cX5_takeGapAway 6 = .ok (.i2l, 1) := by decide +kernel
theorem dX5_takeGapAway_7 : decode cX5_takeGapAway 7 = .ok (.aload_n 0, 1) := by decide +kernel
theorem dX5_takeGapAway_8 : decode cX5_takeGapAway 8 = .ok (.getfield 37, 3) := by decide +kernel
theorem dX5_takeGapAway_11 : decode cX5_takeGapAway 11 = .ok (.iconst 1, 1) := by decide +kernel
theorem dX5_takeGapAway_12 : decode cX5_takeGapAway 12 = .ok (.iadd, 1) := by decide +kernel
theorem dX5_takeGapAway_13 : decode cX5_takeGapAway 13 = .ok (.i2l, 1) := by decide +kernel
theorem dX5_takeGapAway_14 : decode cX5_takeGapAway 14 = .ok (.invokestatic 64, 3) := by decide +kernel
theorem dX5_takeGapAway_17 : decode cX5_takeGapAway 17 = .ok (.istore_n 2, 1) := by decide +kernel
theorem dX5_takeGapAway_18 : decode cX5_takeGapAway 18 = .ok (.iload_n 1, 1) := by decide +kernel
theorem dX5_takeGapAway_19 : decode cX5_takeGapAway 19 = .ok (.aload_n 0, 1) := by decide +kernel
theorem dX5_takeGapAway_20 : decode cX5_takeGapAway 20 = .ok (.getfield 37, 3) := by decide +kernel
theorem dX5_takeGapAway_23 : decode cX5_takeGapAway 23 = .ok (.iconst 1, 1) := by decide +kernel
theorem dX5_takeGapAway_24 : decode cX5_takeGapAway 24 = .ok (.iadd, 1) := by decide +kernel
theorem dX5_takeGapAway_25 : decode cX5_takeGapAway 25 = .ok (.iload_n 2, 1) := by decide +kernel
theorem dX5_takeGapAway_26 : decode cX5_takeGapAway 26 = .ok (.imul, 1) := by decide +kernel
theorem dX5_takeGapAway_27 : decode cX5_takeGapAway 27 = .ok (.isub, 1) := by decide +kernel
theorem dX5_takeGapAway_28 : decode cX5_takeGapAway 28 = .ok (.istore_n 3, 1) := by decide +kernel
theorem dX5_takeGapAway_29 : decode cX5_takeGapAway 29 = .ok (.iload_n 3, 1) := by decide +kernel
theorem dX5_takeGapAway_30 : decode cX5_takeGapAway 30 = .ok (.ifCond .ge 7, 3) := by decide +kernel
theorem dX5_takeGapAway_33 : decode cX5_takeGapAway 33 = .ok (.iconst (-1), 1) := by decide +kernel
theorem dX5_takeGapAway_34 : decode cX5_takeGapAway 34 = .ok (.goto 4, 3) := by decide +kernel
theorem dX5_takeGapAway_37 : decode cX5_takeGapAway 37 = .ok (.iconst 1, 1) := by decide +kernel
theorem dX5_takeGapAway_38 : decode cX5_takeGapAway 38 = .ok (.istore 4, 2) := by decide +kernel
theorem dX5_takeGapAway_40 : decode cX5_takeGapAway 40 = .ok (.iconst 0, 1) := by decide +kernel
theorem dX5_takeGapAway_41 : decode cX5_takeGapAway 41 = .ok (.istore 5, 2) := by decide +kernel
theorem dX5_takeGapAway_43 : decode cX5_takeGapAway 43 = .ok (.iload 5, 2) := by decide +kernel
theorem dX5_takeGapAway_45 : decode cX5_takeGapAway 45 = .ok (.aload_n 0, 1) := by decide +kernel
theorem dX5_takeGapAway_46 : decode cX5_takeGapAway 46 = .ok (.getfield 37, 3) := by decide +kernel
theorem dX5_takeGapAway_49 : decode cX5_takeGapAway 49 = .ok (.if_icmp .ge 59, 3) := by decide +kernel
theorem dX5_takeGapAway_52 : decode cX5_takeGapAway 52 = .ok (.iload 5, 2) := by decide +kernel
theorem dX5_takeGapAway_54 : decode cX5_takeGapAway 54 = .ok (.bipush 12, 2) := by decide +kernel
theorem dX5_takeGapAway_56 : decode cX5_takeGapAway 56 = .ok (.if_icmp .ge 52, 3) := by decide +kernel
theorem dX5_takeGapAway_59 : decode cX5_takeGapAway 59 = .ok (.aload_n 0, 1) := by decide +kernel
theorem dX5_takeGapAway_60 : decode cX5_takeGapAway 60 = .ok (.iload 5, 2) := by decide +kernel
theorem dX5_takeGapAway_62 : decode cX5_takeGapAway 62 = .ok (.invokevirtual 70, 3) := by decide +kernel
theorem dX5_takeGapAway_65 : decode cX5_takeGapAway 65 = .ok (.iload_n 3, 1) := by decide +kernel
theorem dX5_takeGapAway_66 : decode cX5_takeGapAway 66 = .ok (.invokestatic 74, 3) := by decide +kernel
theorem dX5_takeGapAway_69 : decode cX5_takeGapAway 69 = .ok (.if_icmp .ge 8, 3) := by decide +kernel
theorem dX5_takeGapAway_72 : decode cX5_takeGapAway 72 = .ok (.iload 4, 2) := by decide +kernel
theorem dX5_takeGapAway_74 : decode cX5_takeGapAway 74 = .ok (.goto 4, 3) := by decide +kernel
theorem dX5_takeGapAway_77 : decode cX5_takeGapAway 77 = .ok (.iconst 0, 1) := by decide +kernel
theorem dX5_takeGapAway_78 : decode cX5_takeGapAway 78 = .ok (.istore 6, 2) := by decide +kernel
theorem dX5_takeGapAway_80 : decode cX5_takeGapAway 80 = .ok (.aload_n 0, 1) := by decide +kernel
theorem dX5_takeGapAway_81 : decode cX5_takeGapAway 81 = .ok (.getfield 9, 3) := by decide +kernel
theorem dX5_takeGapAway_84 : decode cX5_takeGapAway 84 = .ok (.iload 5, 2) := by decide +kernel
theorem dX5_takeGapAway_86 : decode cX5_takeGapAway 86 = .ok (.aload_n 0, 1) := by decide +kernel
theorem dX5_takeGapAway_87 : decode cX5_takeGapAway 87 = .ok (.getfield 9, 3) := by decide +kernel
theorem dX5_takeGapAway_90 : decode cX5_takeGapAway 90 = .ok (.iload 5, 2) := by decide +kernel
theorem dX5_takeGapAway_92 : decode cX5_takeGapAway 92 = .ok (.iaload, 1) := by decide +kernel
theorem dX5_takeGapAway_93 : decode cX5_takeGapAway 93 = .ok (.iload_n 2, 1) := by decide +kernel
theorem dX5_takeGapAway_94 : decode cX5_takeGapAway 94 = .ok (.isub, 1) := by decide +kernel
theorem dX5_takeGapAway_95 : decode cX5_takeGapAway 95 = .ok (.iload 6, 2) := by decide +kernel
theorem dX5_takeGapAway_97 : decode cX5_takeGapAway 97 = .ok (.isub, 1) := by decide +kernel
theorem dX5_takeGapAway_98 : decode cX5_takeGapAway 98 = .ok (.invokestatic 79, 3) := by decide +kernel
theorem dX5_takeGapAway_101 : decode cX5_takeGapAway 101 = .ok (.iastore, 1) := by decide +kernel
theorem dX5_takeGapAway_102 : decode cX5_takeGapAway 102 = .ok (.iinc 5 1, 3) := by decide +kernel
theorem dX5_takeGapAway_105 : decode cX5_takeGapAway 105 = .ok (.goto (-62), 3) := by decide +kernel
theorem dX5_takeGapAway_108 : decode cX5_takeGapAway 108 = .ok (.aload_n 0, 1) := by decide +kernel
theorem dX5_takeGapAway_109 : decode cX5_takeGapAway 109 = .ok (.aload_n 0, 1) := by decide +kernel
theorem dX5_takeGapAway_110 : decode cX5_takeGapAway 110 = .ok (.getfield 34, 3) := by decide +kernel
theorem dX5_takeGapAway_113 : decode cX5_takeGapAway 113 = .ok (.iload_n 2, 1) := by decide +kernel
theorem dX5_takeGapAway_114 : decode cX5_takeGapAway 114 = .ok (.isub, 1) := by decide +kernel
theorem dX5_takeGapAway_115 : decode cX5_takeGapAway 115 = .ok (.invokestatic 79, 3) := by decide +kernel
theorem dX5_takeGapAway_118 : decode cX5_takeGapAway 118 = .ok (.putfield 34, 3) := by decide +kernel
theorem dX5_takeGapAway_121 : decode cX5_takeGapAway 121 = .ok (.iload_n 1, 1) := by decide +kernel
theorem dX5_takeGapAway_122 : decode cX5_takeGapAway 122 = .ok (.ireturn, 1) := by decide +kernel
theorem dX5_legsBefore_0 : decode cX5_legsBefore 0 = .ok (.aload_n 0, 1) := by decide +kernel
theorem dX5_legsBefore_1 : decode cX5_legsBefore 1 = .ok (.iload_n 1, 1) := by decide +kernel
theorem dX5_legsBefore_2 : decode cX5_legsBefore 2 = .ok (.invokevirtual 82, 3) := by decide +kernel
theorem dX5_legsBefore_5 : decode cX5_legsBefore 5 = .ok (.ifCond .ne 5, 3) := by decide +kernel
theorem dX5_legsBefore_8 : decode cX5_legsBefore 8 = .ok (.iconst 0, 1) := by decide +kernel
theorem dX5_legsBefore_9 : decode cX5_legsBefore 9 = .ok (.ireturn, 1) := by decide +kernel
theorem dX5_legsBefore_10 : decode cX5_legsBefore 10 = .ok (.iconst 0, 1) := by decide +kernel
theorem dX5_legsBefore_11 : decode cX5_legsBefore 11 = .ok (.istore_n 2, 1) := by decide +kernel
theorem dX5_legsBefore_12 : decode cX5_legsBefore 12 = .ok (.iconst 0, 1) := by decide +kernel
theorem dX5_legsBefore_13 : decode cX5_legsBefore 13 = .ok (.istore_n 3, 1) := by decide +kernel
theorem dX5_legsBefore_14 : decode cX5_legsBefore 14 = .ok (.iload_n 3, 1) := by decide +kernel
theorem dX5_legsBefore_15 : decode cX5_legsBefore 15 = .ok (.aload_n 0, 1) := by decide +kernel
theorem dX5_legsBefore_16 : decode cX5_legsBefore 16 = .ok (.getfield 37, 3) := by decide +kernel
theorem dX5_legsBefore_19 : decode cX5_legsBefore 19 = .ok (.if_icmp .ge 53, 3) := by decide +kernel
theorem dX5_legsBefore_22 : decode cX5_legsBefore 22 = .ok (.iload_n 3, 1) := by decide +kernel
theorem dX5_legsBefore_23 : decode cX5_legsBefore 23 = .ok (.bipush 12, 2) := by decide +kernel
theorem dX5_legsBefore_25 : decode cX5_legsBefore 25 = .ok (.if_icmp .ge 47, 3) := by decide +kernel
theorem dX5_legsBefore_28 : decode cX5_legsBefore 28 = .ok (.aload_n 0, 1) := by decide +kernel
theorem dX5_legsBefore_29 : decode cX5_legsBefore 29 = .ok (.getfield 15, 3) := by decide +kernel
theorem dX5_legsBefore_32 : decode cX5_legsBefore 32 = .ok (.iload_n 3, 1) := by decide +kernel
theorem dX5_legsBefore_33 : decode cX5_legsBefore 33 = .ok (.iaload, 1) := by decide +kernel
theorem dX5_legsBefore_34 : decode cX5_legsBefore 34 = .ok (.aload_n 0, 1) := by decide +kernel
theorem dX5_legsBefore_35 : decode cX5_legsBefore 35 = .ok (.getfield 15, 3) := by decide +kernel
theorem dX5_legsBefore_38 : decode cX5_legsBefore 38 = .ok (.iload_n 1, 1) := by decide +kernel
theorem dX5_legsBefore_39 : decode cX5_legsBefore 39 = .ok (.iaload, 1) := by decide +kernel
theorem dX5_legsBefore_40 : decode cX5_legsBefore 40 = .ok (.if_icmp .gt 23, 3) := by decide +kernel
theorem dX5_legsBefore_43 : decode cX5_legsBefore 43 = .ok (.aload_n 0, 1) := by decide +kernel
theorem dX5_legsBefore_44 : decode cX5_legsBefore 44 = .ok (.getfield 15, 3) := by decide +kernel
theorem dX5_legsBefore_47 : decode cX5_legsBefore 47 = .ok (.iload_n 3, 1) := by decide +kernel
theorem dX5_legsBefore_48 : decode cX5_legsBefore 48 = .ok (.iaload, 1) := by decide +kernel
theorem dX5_legsBefore_49 : decode cX5_legsBefore 49 = .ok (.aload_n 0, 1) := by decide +kernel
theorem dX5_legsBefore_50 : decode cX5_legsBefore 50 = .ok (.getfield 15, 3) := by decide +kernel
theorem dX5_legsBefore_53 : decode cX5_legsBefore 53 = .ok (.iload_n 1, 1) := by decide +kernel
theorem dX5_legsBefore_54 : decode cX5_legsBefore 54 = .ok (.iaload, 1) := by decide +kernel
theorem dX5_legsBefore_55 : decode cX5_legsBefore 55 = .ok (.if_icmp .ne 11, 3) := by decide +kernel
theorem dX5_legsBefore_58 : decode cX5_legsBefore 58 = .ok (.iload_n 3, 1) := by decide +kernel
theorem dX5_legsBefore_59 : decode cX5_legsBefore 59 = .ok (.iload_n 1, 1) := by decide +kernel
theorem dX5_legsBefore_60 : decode cX5_legsBefore 60 = .ok (.if_icmp .ge 6, 3) := by decide +kernel
theorem dX5_legsBefore_63 : decode cX5_legsBefore 63 = .ok (.iinc 2 1, 3) := by decide +kernel
theorem dX5_legsBefore_66 : decode cX5_legsBefore 66 = .ok (.iinc 3 1, 3) := by decide +kernel
theorem dX5_legsBefore_69 : decode cX5_legsBefore 69 = .ok (.goto (-55), 3) := by decide +kernel
theorem dX5_legsBefore_72 : decode cX5_legsBefore 72 = .ok (.iload_n 2, 1) := by decide +kernel
theorem dX5_legsBefore_73 : decode cX5_legsBefore 73 = .ok (.ireturn, 1) := by decide +kernel
theorem dX5_judge_0 : decode cX5_judge 0 = .ok (.aload_n 1, 1) := by decide +kernel
theorem dX5_judge_1 : decode cX5_judge 1 = .ok (.ifnonnull 4, 3) := by decide +kernel
theorem dX5_judge_4 : decode cX5_judge 4 = .ok (.return_, 1) := by decide +kernel
theorem dX5_judge_5 : decode cX5_judge 5 = .ok (.aload_n 0, 1) := by decide +kernel
theorem dX5_judge_6 : decode cX5_judge 6 = .ok (.aload_n 0, 1) := by decide +kernel
theorem dX5_judge_7 : decode cX5_judge 7 = .ok (.getfield 37, 3) := by decide +kernel
theorem dX5_judge_10 : decode cX5_judge 10 = .ok (.ifCond .ne 7, 3) := by decide +kernel
theorem dX5_judge_13 : decode cX5_judge 13 = .ok (.iconst 5, 1) := by decide +kernel
theorem dX5_judge_14 : decode cX5_judge 14 = .ok (.goto 16, 3) := by decide +kernel
theorem dX5_judge_17 : decode cX5_judge 17 = .ok (.aload_n 1, 1) := by decide +kernel
theorem dX5_judge_18 : decode cX5_judge 18 = .ok (.getfield 86, 3) := by decide +kernel
theorem dX5_judge_21 : decode cX5_judge 21 = .ok (.ifCond .eq 8, 3) := by decide +kernel
theorem dX5_judge_24 : decode cX5_judge 24 = .ok (.bipush 6, 2) := by decide +kernel
theorem dX5_judge_26 : decode cX5_judge 26 = .ok (.goto 4, 3) := by decide +kernel
theorem dX5_judge_29 : decode cX5_judge 29 = .ok (.iconst 0, 1) := by decide +kernel
theorem dX5_judge_30 : decode cX5_judge 30 = .ok (.putfield 51, 3) := by decide +kernel
theorem dX5_judge_33 : decode cX5_judge 33 = .ok (.aload_n 0, 1) := by decide +kernel
theorem dX5_judge_34 : decode cX5_judge 34 = .ok (.getfield 51, 3) := by decide +kernel
theorem dX5_judge_37 : decode cX5_judge 37 = .ok (.ifCond .eq 4, 3) := by decide +kernel
theorem dX5_judge_40 : decode cX5_judge 40 = .ok (.return_, 1) := by decide +kernel
theorem dX5_judge_41 : decode cX5_judge 41 = .ok (.aload_n 0, 1) := by decide +kernel
theorem dX5_judge_42 : decode cX5_judge 42 = .ok (.aload_n 1, 1) := by decide +kernel
theorem dX5_judge_43 : decode cX5_judge 43 = .ok (.invokevirtual 89, 3) := by decide +kernel
theorem dX5_judge_46 : decode cX5_judge 46 = .ok (.istore 4, 2) := by decide +kernel
theorem dX5_judge_48 : decode cX5_judge 48 = .ok (.aload_n 2, 1) := by decide +kernel
theorem dX5_judge_49 : decode cX5_judge 49 = .ok (.ifnonnull 4, 3) := by decide +kernel
theorem dX5_judge_52 : decode cX5_judge 52 = .ok (.return_, 1) := by decide +kernel
theorem dX5_judge_53 : decode cX5_judge 53 = .ok (.aload_n 2, 1) := by decide +kernel
theorem dX5_judge_54 : decode cX5_judge 54 = .ok (.getfield 86, 3) := by decide +kernel
theorem dX5_judge_57 : decode cX5_judge 57 = .ok (.ifCond .eq 10, 3) := by decide +kernel
theorem dX5_judge_60 : decode cX5_judge 60 = .ok (.aload_n 0, 1) := by decide +kernel
theorem dX5_judge_61 : decode cX5_judge 61 = .ok (.bipush 7, 2) := by decide +kernel
theorem dX5_judge_63 : decode cX5_judge 63 = .ok (.putfield 51, 3) := by decide +kernel
theorem dX5_judge_66 : decode cX5_judge 66 = .ok (.return_, 1) := by decide +kernel
theorem dX5_judge_67 : decode cX5_judge 67 = .ok (.aload_n 0, 1) := by decide +kernel
theorem dX5_judge_68 : decode cX5_judge 68 = .ok (.iload 4, 2) := by decide +kernel
theorem dX5_judge_70 : decode cX5_judge 70 = .ok (.aload_n 0, 1) := by decide +kernel
theorem dX5_judge_71 : decode cX5_judge 71 = .ok (.getfield 34, 3) := by decide +kernel
theorem dX5_judge_74 : decode cX5_judge 74 = .ok (.iadd, 1) := by decide +kernel
theorem dX5_judge_75 : decode cX5_judge 75 = .ok (.ldc 93, 2) := by decide +kernel
theorem dX5_judge_77 : decode cX5_judge 77 = .ok (.iadd, 1) := by decide +kernel
theorem dX5_judge_78 : decode cX5_judge 78 = .ok (.aload_n 2, 1) := by decide +kernel
theorem dX5_judge_79 : decode cX5_judge 79 = .ok (.getfield 94, 3) := by decide +kernel
theorem dX5_judge_82 : decode cX5_judge 82 = .ok (.isub, 1) := by decide +kernel
theorem dX5_judge_83 : decode cX5_judge 83 = .ok (.invokestatic 97, 3) := by decide +kernel
theorem dX5_judge_86 : decode cX5_judge 86 = .ok (.putfield 61, 3) := by decide +kernel
theorem dX5_judge_89 : decode cX5_judge 89 = .ok (.aload_n 0, 1) := by decide +kernel
theorem dX5_judge_90 : decode cX5_judge 90 = .ok (.aload_n 0, 1) := by decide +kernel
theorem dX5_judge_91 : decode cX5_judge 91 = .ok (.getfield 100, 3) := by decide +kernel
theorem dX5_judge_94 : decode cX5_judge 94 = .ok (.aload_n 2, 1) := by decide +kernel
theorem dX5_judge_95 : decode cX5_judge 95 = .ok (.getfield 103, 3) := by decide +kernel
theorem dX5_judge_98 : decode cX5_judge 98 = .ok (.isub, 1) := by decide +kernel
theorem dX5_judge_99 : decode cX5_judge 99 = .ok (.putfield 106, 3) := by decide +kernel
theorem dX5_judge_102 : decode cX5_judge 102 = .ok (.aload_n 0, 1) := by decide +kernel
theorem dX5_judge_103 : decode cX5_judge 103 = .ok (.aload_n 0, 1) := by decide +kernel
theorem dX5_judge_104 : decode cX5_judge 104 = .ok (.getfield 109, 3) := by decide +kernel
theorem dX5_judge_107 : decode cX5_judge 107 = .ok (.aload_n 2, 1) := by decide +kernel
theorem dX5_judge_108 : decode cX5_judge 108 = .ok (.getfield 112, 3) := by decide +kernel
theorem dX5_judge_111 : decode cX5_judge 111 = .ok (.isub, 1) := by decide +kernel
theorem dX5_judge_112 : decode cX5_judge 112 = .ok (.putfield 115, 3) := by decide +kernel
theorem dX5_judge_115 : decode cX5_judge 115 = .ok (.aload_n 0, 1) := by decide +kernel
theorem dX5_judge_116 : decode cX5_judge 116 = .ok (.aload_n 0, 1) := by decide +kernel
theorem dX5_judge_117 : decode cX5_judge 117 = .ok (.getfield 61, 3) := by decide +kernel
theorem dX5_judge_120 : decode cX5_judge 120 = .ok (.invokestatic 74, 3) := by decide +kernel
theorem dX5_judge_123 : decode cX5_judge 123 = .ok (.iload_n 3, 1) := by decide +kernel
theorem dX5_judge_124 : decode cX5_judge 124 = .ok (.aload_n 0, 1) := by decide +kernel
theorem dX5_judge_125 : decode cX5_judge 125 = .ok (.getfield 37, 3) := by decide +kernel
theorem dX5_judge_128 : decode cX5_judge 128 = .ok (.iconst 1, 1) := by decide +kernel
theorem dX5_judge_129 : decode cX5_judge 129 = .ok (.iadd, 1) := by decide +kernel
theorem dX5_judge_130 : decode cX5_judge 130 = .ok (.i2l, 1) := by decide +kernel
theorem dX5_judge_131 : decode cX5_judge 131 = .ok (.invokestatic 118, 3) := by decide +kernel
theorem dX5_judge_134 : decode cX5_judge 134 = .ok (.imul, 1) := by decide +kernel
theorem dX5_judge_135 : decode cX5_judge 135 = .ok (.if_icmp .le 8, 3) := by decide +kernel
theorem dX5_judge_138 : decode cX5_judge 138 = .ok (.bipush 8, 2) := by decide +kernel
theorem dX5_judge_140 : decode cX5_judge 140 = .ok (.goto 4, 3) := by decide +kernel
theorem dX5_judge_143 : decode cX5_judge 143 = .ok (.iconst 0, 1) := by decide +kernel
theorem dX5_judge_144 : decode cX5_judge 144 = .ok (.putfield 51, 3) := by decide +kernel
theorem dX5_judge_147 : decode cX5_judge 147 = .ok (.return_, 1) := by decide +kernel
theorem dX5_layOut_0 : decode cX5_layOut 0 = .ok (.aload_n 1, 1) := by decide +kernel
theorem dX5_layOut_1 : decode cX5_layOut 1 = .ok (.getfield 94, 3) := by decide +kernel
theorem dX5_layOut_4 : decode cX5_layOut 4 = .ok (.ldc 93, 2) := by decide +kernel
theorem dX5_layOut_6 : decode cX5_layOut 6 = .ok (.iadd, 1) := by decide +kernel
theorem dX5_layOut_7 : decode cX5_layOut 7 = .ok (.istore_n 2, 1) := by decide +kernel
theorem dX5_layOut_8 : decode cX5_layOut 8 = .ok (.aload_n 0, 1) := by decide +kernel
theorem dX5_layOut_9 : decode cX5_layOut 9 = .ok (.aload_n 1, 1) := by decide +kernel
theorem dX5_layOut_10 : decode cX5_layOut 10 = .ok (.getfield 103, 3) := by decide +kernel
theorem dX5_layOut_13 : decode cX5_layOut 13 = .ok (.putfield 100, 3) := by decide +kernel
theorem dX5_layOut_16 : decode cX5_layOut 16 = .ok (.aload_n 0, 1) := by decide +kernel
theorem dX5_layOut_17 : decode cX5_layOut 17 = .ok (.aload_n 1, 1) := by decide +kernel
theorem dX5_layOut_18 : decode cX5_layOut 18 = .ok (.getfield 112, 3) := by decide +kernel
theorem dX5_layOut_21 : decode cX5_layOut 21 = .ok (.putfield 109, 3) := by decide +kernel
theorem dX5_layOut_24 : decode cX5_layOut 24 = .ok (.iconst 0, 1) := by decide +kernel
theorem dX5_layOut_25 : decode cX5_layOut 25 = .ok (.istore_n 3, 1) := by decide +kernel
theorem dX5_layOut_26 : decode cX5_layOut 26 = .ok (.iload_n 3, 1) := by decide +kernel
theorem dX5_layOut_27 : decode cX5_layOut 27 = .ok (.aload_n 0, 1) := by decide +kernel
theorem dX5_layOut_28 : decode cX5_layOut 28 = .ok (.getfield 37, 3) := by decide +kernel
theorem dX5_layOut_31 : decode cX5_layOut 31 = .ok (.if_icmp .ge 106, 3) := by decide +kernel
theorem dX5_layOut_34 : decode cX5_layOut 34 = .ok (.iload_n 3, 1) := by decide +kernel
theorem dX5_layOut_35 : decode cX5_layOut 35 = .ok (.bipush 12, 2) := by decide +kernel
theorem dX5_layOut_37 : decode cX5_layOut 37 = .ok (.if_icmp .ge 100, 3) := by decide +kernel
theorem dX5_layOut_40 : decode cX5_layOut 40 = .ok (.iload_n 2, 1) := by decide +kernel
theorem dX5_layOut_41 : decode cX5_layOut 41 = .ok (.aload_n 0, 1) := by decide +kernel
theorem dX5_layOut_42 : decode cX5_layOut 42 = .ok (.getfield 9, 3) := by decide +kernel
theorem dX5_layOut_45 : decode cX5_layOut 45 = .ok (.iload_n 3, 1) := by decide +kernel
theorem dX5_layOut_46 : decode cX5_layOut 46 = .ok (.iaload, 1) := by decide +kernel
theorem dX5_layOut_47 : decode cX5_layOut 47 = .ok (.iadd, 1) := by decide +kernel
theorem dX5_layOut_48 : decode cX5_layOut 48 = .ok (.ldc 93, 2) := by decide +kernel
theorem dX5_layOut_50 : decode cX5_layOut 50 = .ok (.iadd, 1) := by decide +kernel
theorem dX5_layOut_51 : decode cX5_layOut 51 = .ok (.invokestatic 79, 3) := by decide +kernel
theorem dX5_layOut_54 : decode cX5_layOut 54 = .ok (.istore_n 2, 1) := by decide +kernel
theorem dX5_layOut_55 : decode cX5_layOut 55 = .ok (.aload_n 0, 1) := by decide +kernel
theorem dX5_layOut_56 : decode cX5_layOut 56 = .ok (.dup, 1) := by decide +kernel
theorem dX5_layOut_57 : decode cX5_layOut 57 = .ok (.getfield 100, 3) := by decide +kernel
theorem dX5_layOut_60 : decode cX5_layOut 60 = .ok (.aload_n 0, 1) := by decide +kernel
theorem dX5_layOut_61 : decode cX5_layOut 61 = .ok (.getfield 15, 3) := by decide +kernel
theorem dX5_layOut_64 : decode cX5_layOut 64 = .ok (.iload_n 3, 1) := by decide +kernel
theorem dX5_layOut_65 : decode cX5_layOut 65 = .ok (.iaload, 1) := by decide +kernel
theorem dX5_layOut_66 : decode cX5_layOut 66 = .ok (.i2l, 1) := by decide +kernel
theorem dX5_layOut_67 : decode cX5_layOut 67 = .ok (.iload_n 2, 1) := by decide +kernel
theorem dX5_layOut_68 : decode cX5_layOut 68 = .ok (.invokestatic 122, 3) := by decide +kernel
theorem dX5_layOut_71 : decode cX5_layOut 71 = .ok (.invokestatic 125, 3) := by decide +kernel
theorem dX5_layOut_74 : decode cX5_layOut 74 = .ok (.iadd, 1) := by decide +kernel
theorem dX5_layOut_75 : decode cX5_layOut 75 = .ok (.putfield 100, 3) := by decide +kernel
theorem dX5_layOut_78 : decode cX5_layOut 78 = .ok (.aload_n 0, 1) := by decide +kernel
theorem dX5_layOut_79 : decode cX5_layOut 79 = .ok (.dup, 1) := by decide +kernel
theorem dX5_layOut_80 : decode cX5_layOut 80 = .ok (.getfield 109, 3) := by decide +kernel
theorem dX5_layOut_83 : decode cX5_layOut 83 = .ok (.aload_n 0, 1) := by decide +kernel
theorem dX5_layOut_84 : decode cX5_layOut 84 = .ok (.getfield 15, 3) := by decide +kernel
theorem dX5_layOut_87 : decode cX5_layOut 87 = .ok (.iload_n 3, 1) := by decide +kernel
theorem dX5_layOut_88 : decode cX5_layOut 88 = .ok (.iaload, 1) := by decide +kernel
theorem dX5_layOut_89 : decode cX5_layOut 89 = .ok (.i2l, 1) := by decide +kernel
theorem dX5_layOut_90 : decode cX5_layOut 90 = .ok (.iload_n 2, 1) := by decide +kernel
theorem dX5_layOut_91 : decode cX5_layOut 91 = .ok (.ldc 129, 2) := by decide +kernel
theorem dX5_layOut_93 : decode cX5_layOut 93 = .ok (.iadd, 1) := by decide +kernel
theorem dX5_layOut_94 : decode cX5_layOut 94 = .ok (.invokestatic 122, 3) := by decide +kernel
theorem dX5_layOut_97 : decode cX5_layOut 97 = .ok (.invokestatic 125, 3) := by decide +kernel
theorem dX5_layOut_100 : decode cX5_layOut 100 = .ok (.iadd, 1) := by decide +kernel
theorem dX5_layOut_101 : decode cX5_layOut 101 = .ok (.putfield 109, 3) := by decide +kernel
theorem dX5_layOut_104 : decode cX5_layOut 104 = .ok (.aload_n 0, 1) := by decide +kernel
theorem dX5_layOut_105 : decode cX5_layOut 105 = .ok (.getfield 18, 3) := by decide +kernel
theorem dX5_layOut_108 : decode cX5_layOut 108 = .ok (.iload_n 3, 1) := by decide +kernel
theorem dX5_layOut_109 : decode cX5_layOut 109 = .ok (.iload_n 2, 1) := by decide +kernel
theorem dX5_layOut_110 : decode cX5_layOut 110 = .ok (.iastore, 1) := by decide +kernel
theorem dX5_layOut_111 : decode cX5_layOut 111 = .ok (.aload_n 0, 1) := by decide +kernel
theorem dX5_layOut_112 : decode cX5_layOut 112 = .ok (.getfield 21, 3) := by decide +kernel
theorem dX5_layOut_115 : decode cX5_layOut 115 = .ok (.iload_n 3, 1) := by decide +kernel
theorem dX5_layOut_116 : decode cX5_layOut 116 = .ok (.aload_n 0, 1) := by decide +kernel
theorem dX5_layOut_117 : decode cX5_layOut 117 = .ok (.getfield 100, 3) := by decide +kernel
theorem dX5_layOut_120 : decode cX5_layOut 120 = .ok (.iastore, 1) := by decide +kernel
theorem dX5_layOut_121 : decode cX5_layOut 121 = .ok (.aload_n 0, 1) := by decide +kernel
theorem dX5_layOut_122 : decode cX5_layOut 122 = .ok (.getfield 24, 3) := by decide +kernel
theorem dX5_layOut_125 : decode cX5_layOut 125 = .ok (.iload_n 3, 1) := by decide +kernel
theorem dX5_layOut_126 : decode cX5_layOut 126 = .ok (.aload_n 0, 1) := by decide +kernel
theorem dX5_layOut_127 : decode cX5_layOut 127 = .ok (.getfield 109, 3) := by decide +kernel
theorem dX5_layOut_130 : decode cX5_layOut 130 = .ok (.iastore, 1) := by decide +kernel
theorem dX5_layOut_131 : decode cX5_layOut 131 = .ok (.iinc 3 1, 3) := by decide +kernel
theorem dX5_layOut_134 : decode cX5_layOut 134 = .ok (.goto (-108), 3) := by decide +kernel
theorem dX5_layOut_137 : decode cX5_layOut 137 = .ok (.iload_n 2, 1) := by decide +kernel
theorem dX5_layOut_138 : decode cX5_layOut 138 = .ok (.ireturn, 1) := by decide +kernel
theorem dX5_step_0 : decode cX5_step 0 = .ok (.lload_n 0, 1) := by decide +kernel
theorem dX5_step_1 : decode cX5_step 1 = .ok (.iload_n 2, 1) := by decide +kernel
theorem dX5_step_2 : decode cX5_step 2 = .ok (.i2l, 1) := by decide +kernel
theorem dX5_step_3 : decode cX5_step 3 = .ok (.lmul, 1) := by decide +kernel
theorem dX5_step_4 : decode cX5_step 4 = .ok (.ldc2_w 130, 3) := by decide +kernel
theorem dX5_step_7 : decode cX5_step 7 = .ok (.invokestatic 64, 3) := by decide +kernel
theorem dX5_step_10 : decode cX5_step 10 = .ok (.ireturn, 1) := by decide +kernel
theorem dX5_number_0 : decode cX5_number 0 = .ok (.iload_n 1, 1) := by decide +kernel
theorem dX5_number_1 : decode cX5_number 1 = .ok (.tableswitch 73 0 6 #[43, 48, 53, 58, 63, 73, 68], 43) := by decide +kernel
theorem dX5_number_44 : decode cX5_number 44 = .ok (.aload_n 0, 1) := by decide +kernel
theorem dX5_number_45 : decode cX5_number 45 = .ok (.getfield 27, 3) := by decide +kernel
theorem dX5_number_48 : decode cX5_number 48 = .ok (.ireturn, 1) := by decide +kernel
theorem dX5_number_49 : decode cX5_number 49 = .ok (.aload_n 0, 1) := by decide +kernel
theorem dX5_number_50 : decode cX5_number 50 = .ok (.getfield 37, 3) := by decide +kernel
theorem dX5_number_53 : decode cX5_number 53 = .ok (.ireturn, 1) := by decide +kernel
theorem dX5_number_54 : decode cX5_number 54 = .ok (.aload_n 0, 1) := by decide +kernel
theorem dX5_number_55 : decode cX5_number 55 = .ok (.getfield 31, 3) := by decide +kernel
theorem dX5_number_58 : decode cX5_number 58 = .ok (.ireturn, 1) := by decide +kernel
theorem dX5_number_59 : decode cX5_number 59 = .ok (.aload_n 0, 1) := by decide +kernel
theorem dX5_number_60 : decode cX5_number 60 = .ok (.getfield 34, 3) := by decide +kernel
theorem dX5_number_63 : decode cX5_number 63 = .ok (.ireturn, 1) := by decide +kernel
theorem dX5_number_64 : decode cX5_number 64 = .ok (.aload_n 0, 1) := by decide +kernel
theorem dX5_number_65 : decode cX5_number 65 = .ok (.getfield 51, 3) := by decide +kernel
theorem dX5_number_68 : decode cX5_number 68 = .ok (.ireturn, 1) := by decide +kernel
theorem dX5_number_69 : decode cX5_number 69 = .ok (.aload_n 0, 1) := by decide +kernel
theorem dX5_number_70 : decode cX5_number 70 = .ok (.invokevirtual 132, 3) := by decide +kernel
theorem dX5_number_73 : decode cX5_number 73 = .ok (.ireturn, 1) := by decide +kernel
theorem dX5_number_74 : decode cX5_number 74 = .ok (.aload_n 0, 1) := by decide +kernel
theorem dX5_number_75 : decode cX5_number 75 = .ok (.invokevirtual 136, 3) := by decide +kernel
theorem dX5_number_78 : decode cX5_number 78 = .ok (.ifCond .eq 11, 3) := by decide +kernel
theorem dX5_number_81 : decode cX5_number 81 = .ok (.aload_n 0, 1) := by decide +kernel
theorem dX5_number_82 : decode cX5_number 82 = .ok (.iload_n 1, 1) := by decide +kernel
theorem dX5_number_83 : decode cX5_number 83 = .ok (.invokevirtual 139, 3) := by decide +kernel
theorem dX5_number_86 : decode cX5_number 86 = .ok (.goto 5, 3) := by decide +kernel
theorem dX5_number_89 : decode cX5_number 89 = .ok (.ldc 46, 2) := by decide +kernel
theorem dX5_number_91 : decode cX5_number 91 = .ok (.ireturn, 1) := by decide +kernel
theorem dX5_numberOfClosing_0 : decode cX5_numberOfClosing 0 = .ok (.iload_n 1, 1) := by decide +kernel
theorem dX5_numberOfClosing_1 : decode cX5_numberOfClosing 1 = .ok (.tableswitch 46 5 8 #[31, 46, 36, 41], 31) := by decide +kernel
theorem dX5_numberOfClosing_32 : decode cX5_numberOfClosing 32 = .ok (.aload_n 0, 1) := by decide +kernel
theorem dX5_numberOfClosing_33 : decode cX5_numberOfClosing 33 = .ok (.getfield 61, 3) := by decide +kernel
theorem dX5_numberOfClosing_36 : decode cX5_numberOfClosing 36 = .ok (.ireturn, 1) := by decide +kernel
theorem dX5_numberOfClosing_37 : decode cX5_numberOfClosing 37 = .ok (.aload_n 0, 1) := by decide +kernel
theorem dX5_numberOfClosing_38 : decode cX5_numberOfClosing 38 = .ok (.getfield 106, 3) := by decide +kernel
theorem dX5_numberOfClosing_41 : decode cX5_numberOfClosing 41 = .ok (.ireturn, 1) := by decide +kernel
theorem dX5_numberOfClosing_42 : decode cX5_numberOfClosing 42 = .ok (.aload_n 0, 1) := by decide +kernel
theorem dX5_numberOfClosing_43 : decode cX5_numberOfClosing 43 = .ok (.getfield 115, 3) := by decide +kernel
theorem dX5_numberOfClosing_46 : decode cX5_numberOfClosing 46 = .ok (.ireturn, 1) := by decide +kernel
theorem dX5_numberOfClosing_47 : decode cX5_numberOfClosing 47 = .ok (.aload_n 0, 1) := by decide +kernel
theorem dX5_numberOfClosing_48 : decode cX5_numberOfClosing 48 = .ok (.getfield 106, 3) := by decide +kernel
theorem dX5_numberOfClosing_51 : decode cX5_numberOfClosing 51 = .ok (.i2l, 1) := by decide +kernel
theorem dX5_numberOfClosing_52 : decode cX5_numberOfClosing 52 = .ok (.aload_n 0, 1) := by decide +kernel
theorem dX5_numberOfClosing_53 : decode cX5_numberOfClosing 53 = .ok (.getfield 115, 3) := by decide +kernel
theorem dX5_numberOfClosing_56 : decode cX5_numberOfClosing 56 = .ok (.i2l, 1) := by decide +kernel
theorem dX5_numberOfClosing_57 : decode cX5_numberOfClosing 57 = .ok (.invokestatic 142, 3) := by decide +kernel
theorem dX5_numberOfClosing_60 : decode cX5_numberOfClosing 60 = .ok (.ireturn, 1) := by decide +kernel
theorem dX5_sumOfLengths_0 : decode cX5_sumOfLengths 0 = .ok (.iconst 0, 1) := by decide +kernel
theorem dX5_sumOfLengths_1 : decode cX5_sumOfLengths 1 = .ok (.istore_n 1, 1) := by decide +kernel
theorem dX5_sumOfLengths_2 : decode cX5_sumOfLengths 2 = .ok (.iconst 0, 1) := by decide +kernel
theorem dX5_sumOfLengths_3 : decode cX5_sumOfLengths 3 = .ok (.istore_n 2, 1) := by decide +kernel
theorem dX5_sumOfLengths_4 : decode cX5_sumOfLengths 4 = .ok (.iload_n 2, 1) := by decide +kernel
theorem dX5_sumOfLengths_5 : decode cX5_sumOfLengths 5 = .ok (.aload_n 0, 1) := by decide +kernel
theorem dX5_sumOfLengths_6 : decode cX5_sumOfLengths 6 = .ok (.getfield 37, 3) := by decide +kernel
theorem dX5_sumOfLengths_9 : decode cX5_sumOfLengths 9 = .ok (.if_icmp .ge 24, 3) := by decide +kernel
theorem dX5_sumOfLengths_12 : decode cX5_sumOfLengths 12 = .ok (.iload_n 2, 1) := by decide +kernel
theorem dX5_sumOfLengths_13 : decode cX5_sumOfLengths 13 = .ok (.bipush 12, 2) := by decide +kernel
theorem dX5_sumOfLengths_15 : decode cX5_sumOfLengths 15 = .ok (.if_icmp .ge 18, 3) := by decide +kernel
theorem dX5_sumOfLengths_18 : decode cX5_sumOfLengths 18 = .ok (.iload_n 1, 1) := by decide +kernel
theorem dX5_sumOfLengths_19 : decode cX5_sumOfLengths 19 = .ok (.aload_n 0, 1) := by decide +kernel
theorem dX5_sumOfLengths_20 : decode cX5_sumOfLengths 20 = .ok (.getfield 15, 3) := by decide +kernel
theorem dX5_sumOfLengths_23 : decode cX5_sumOfLengths 23 = .ok (.iload_n 2, 1) := by decide +kernel
theorem dX5_sumOfLengths_24 : decode cX5_sumOfLengths 24 = .ok (.iaload, 1) := by decide +kernel
theorem dX5_sumOfLengths_25 : decode cX5_sumOfLengths 25 = .ok (.iadd, 1) := by decide +kernel
theorem dX5_sumOfLengths_26 : decode cX5_sumOfLengths 26 = .ok (.istore_n 1, 1) := by decide +kernel
theorem dX5_sumOfLengths_27 : decode cX5_sumOfLengths 27 = .ok (.iinc 2 1, 3) := by decide +kernel
theorem dX5_sumOfLengths_30 : decode cX5_sumOfLengths 30 = .ok (.goto (-26), 3) := by decide +kernel
theorem dX5_sumOfLengths_33 : decode cX5_sumOfLengths 33 = .ok (.iload_n 1, 1) := by decide +kernel
theorem dX5_sumOfLengths_34 : decode cX5_sumOfLengths 34 = .ok (.ireturn, 1) := by decide +kernel
theorem dX5_numberOfLeg_0 : decode cX5_numberOfLeg 0 = .ok (.aload_n 0, 1) := by decide +kernel
theorem dX5_numberOfLeg_1 : decode cX5_numberOfLeg 1 = .ok (.iload_n 1, 1) := by decide +kernel
theorem dX5_numberOfLeg_2 : decode cX5_numberOfLeg 2 = .ok (.invokevirtual 82, 3) := by decide +kernel
theorem dX5_numberOfLeg_5 : decode cX5_numberOfLeg 5 = .ok (.ifCond .ne 6, 3) := by decide +kernel
theorem dX5_numberOfLeg_8 : decode cX5_numberOfLeg 8 = .ok (.ldc 46, 2) := by decide +kernel
theorem dX5_numberOfLeg_10 : decode cX5_numberOfLeg 10 = .ok (.ireturn, 1) := by decide +kernel
theorem dX5_numberOfLeg_11 : decode cX5_numberOfLeg 11 = .ok (.iload_n 2, 1) := by decide +kernel
theorem dX5_numberOfLeg_12 : decode cX5_numberOfLeg 12 = .ok (.tableswitch 84 0 3 #[32, 39, 46, 65], 32) := by decide +kernel
theorem dX5_numberOfLeg_44 : decode cX5_numberOfLeg 44 = .ok (.aload_n 0, 1) := by decide +kernel
theorem dX5_numberOfLeg_45 : decode cX5_numberOfLeg 45 = .ok (.getfield 9, 3) := by decide +kernel
theorem dX5_numberOfLeg_48 : decode cX5_numberOfLeg 48 = .ok (.iload_n 1, 1) := by decide +kernel
theorem dX5_numberOfLeg_49 : decode cX5_numberOfLeg 49 = .ok (.iaload, 1) := by decide +kernel
theorem dX5_numberOfLeg_50 : decode cX5_numberOfLeg 50 = .ok (.ireturn, 1) := by decide +kernel
theorem dX5_numberOfLeg_51 : decode cX5_numberOfLeg 51 = .ok (.aload_n 0, 1) := by decide +kernel
theorem dX5_numberOfLeg_52 : decode cX5_numberOfLeg 52 = .ok (.getfield 15, 3) := by decide +kernel
theorem dX5_numberOfLeg_55 : decode cX5_numberOfLeg 55 = .ok (.iload_n 1, 1) := by decide +kernel
theorem dX5_numberOfLeg_56 : decode cX5_numberOfLeg 56 = .ok (.iaload, 1) := by decide +kernel
theorem dX5_numberOfLeg_57 : decode cX5_numberOfLeg 57 = .ok (.ireturn, 1) := by decide +kernel
theorem dX5_numberOfLeg_58 : decode cX5_numberOfLeg 58 = .ok (.aload_n 0, 1) := by decide +kernel
theorem dX5_numberOfLeg_59 : decode cX5_numberOfLeg 59 = .ok (.invokevirtual 58, 3) := by decide +kernel
theorem dX5_numberOfLeg_62 : decode cX5_numberOfLeg 62 = .ok (.ifCond .eq 12, 3) := by decide +kernel
theorem dX5_numberOfLeg_65 : decode cX5_numberOfLeg 65 = .ok (.aload_n 0, 1) := by decide +kernel
theorem dX5_numberOfLeg_66 : decode cX5_numberOfLeg 66 = .ok (.getfield 18, 3) := by decide +kernel
theorem dX5_numberOfLeg_69 : decode cX5_numberOfLeg 69 = .ok (.iload_n 1, 1) := by decide +kernel
theorem dX5_numberOfLeg_70 : decode cX5_numberOfLeg 70 = .ok (.iaload, 1) := by decide +kernel
theorem dX5_numberOfLeg_71 : decode cX5_numberOfLeg 71 = .ok (.goto 5, 3) := by decide +kernel
theorem dX5_numberOfLeg_74 : decode cX5_numberOfLeg 74 = .ok (.ldc 46, 2) := by decide +kernel
theorem dX5_numberOfLeg_76 : decode cX5_numberOfLeg 76 = .ok (.ireturn, 1) := by decide +kernel
theorem dX5_numberOfLeg_77 : decode cX5_numberOfLeg 77 = .ok (.aload_n 0, 1) := by decide +kernel
theorem dX5_numberOfLeg_78 : decode cX5_numberOfLeg 78 = .ok (.invokevirtual 58, 3) := by decide +kernel
theorem dX5_numberOfLeg_81 : decode cX5_numberOfLeg 81 = .ok (.ifCond .eq 12, 3) := by decide +kernel
theorem dX5_numberOfLeg_84 : decode cX5_numberOfLeg 84 = .ok (.aload_n 0, 1) := by decide +kernel
theorem dX5_numberOfLeg_85 : decode cX5_numberOfLeg 85 = .ok (.getfield 21, 3) := by decide +kernel
theorem dX5_numberOfLeg_88 : decode cX5_numberOfLeg 88 = .ok (.iload_n 1, 1) := by decide +kernel
theorem dX5_numberOfLeg_89 : decode cX5_numberOfLeg 89 = .ok (.iaload, 1) := by decide +kernel
theorem dX5_numberOfLeg_90 : decode cX5_numberOfLeg 90 = .ok (.goto 5, 3) := by decide +kernel
theorem dX5_numberOfLeg_93 : decode cX5_numberOfLeg 93 = .ok (.ldc 46, 2) := by decide +kernel
theorem dX5_numberOfLeg_95 : decode cX5_numberOfLeg 95 = .ok (.ireturn, 1) := by decide +kernel
theorem dX5_numberOfLeg_96 : decode cX5_numberOfLeg 96 = .ok (.aload_n 0, 1) := by decide +kernel
theorem dX5_numberOfLeg_97 : decode cX5_numberOfLeg 97 = .ok (.invokevirtual 58, 3) := by decide +kernel
theorem dX5_numberOfLeg_100 : decode cX5_numberOfLeg 100 = .ok (.ifCond .eq 12, 3) := by decide +kernel
theorem dX5_numberOfLeg_103 : decode cX5_numberOfLeg 103 = .ok (.aload_n 0, 1) := by decide +kernel
theorem dX5_numberOfLeg_104 : decode cX5_numberOfLeg 104 = .ok (.getfield 24, 3) := by decide +kernel
theorem dX5_numberOfLeg_107 : decode cX5_numberOfLeg 107 = .ok (.iload_n 1, 1) := by decide +kernel
theorem dX5_numberOfLeg_108 : decode cX5_numberOfLeg 108 = .ok (.iaload, 1) := by decide +kernel
theorem dX5_numberOfLeg_109 : decode cX5_numberOfLeg 109 = .ok (.goto 5, 3) := by decide +kernel
theorem dX5_numberOfLeg_112 : decode cX5_numberOfLeg 112 = .ok (.ldc 46, 2) := by decide +kernel
theorem dX5_numberOfLeg_114 : decode cX5_numberOfLeg 114 = .ok (.ireturn, 1) := by decide +kernel
theorem dX5_suspectedLeg_0 : decode cX5_suspectedLeg 0 = .ok (.aload_n 0, 1) := by decide +kernel
theorem dX5_suspectedLeg_1 : decode cX5_suspectedLeg 1 = .ok (.invokevirtual 136, 3) := by decide +kernel
theorem dX5_suspectedLeg_4 : decode cX5_suspectedLeg 4 = .ok (.ifCond .ne 6, 3) := by decide +kernel
theorem dX5_suspectedLeg_7 : decode cX5_suspectedLeg 7 = .ok (.ldc 46, 2) := by decide +kernel
theorem dX5_suspectedLeg_9 : decode cX5_suspectedLeg 9 = .ok (.ireturn, 1) := by decide +kernel
theorem dX5_suspectedLeg_10 : decode cX5_suspectedLeg 10 = .ok (.ldc 46, 2) := by decide +kernel
theorem dX5_suspectedLeg_12 : decode cX5_suspectedLeg 12 = .ok (.istore_n 1, 1) := by decide +kernel
theorem dX5_suspectedLeg_13 : decode cX5_suspectedLeg 13 = .ok (.lconst 0, 1) := by decide +kernel
theorem dX5_suspectedLeg_14 : decode cX5_suspectedLeg 14 = .ok (.lstore_n 2, 1) := by decide +kernel
theorem dX5_suspectedLeg_15 : decode cX5_suspectedLeg 15 = .ok (.iconst 0, 1) := by decide +kernel
theorem dX5_suspectedLeg_16 : decode cX5_suspectedLeg 16 = .ok (.istore 4, 2) := by decide +kernel
theorem dX5_suspectedLeg_18 : decode cX5_suspectedLeg 18 = .ok (.iload 4, 2) := by decide +kernel
theorem dX5_suspectedLeg_20 : decode cX5_suspectedLeg 20 = .ok (.aload_n 0, 1) := by decide +kernel
theorem dX5_suspectedLeg_21 : decode cX5_suspectedLeg 21 = .ok (.getfield 37, 3) := by decide +kernel
theorem dX5_suspectedLeg_24 : decode cX5_suspectedLeg 24 = .ok (.if_icmp .ge 82, 3) := by decide +kernel
theorem dX5_suspectedLeg_27 : decode cX5_suspectedLeg 27 = .ok (.iload 4, 2) := by decide +kernel
theorem dX5_suspectedLeg_29 : decode cX5_suspectedLeg 29 = .ok (.bipush 12, 2) := by decide +kernel
theorem dX5_suspectedLeg_31 : decode cX5_suspectedLeg 31 = .ok (.if_icmp .ge 75, 3) := by decide +kernel
theorem dX5_suspectedLeg_34 : decode cX5_suspectedLeg 34 = .ok (.aload_n 0, 1) := by decide +kernel
theorem dX5_suspectedLeg_35 : decode cX5_suspectedLeg 35 = .ok (.getfield 106, 3) := by decide +kernel
theorem dX5_suspectedLeg_38 : decode cX5_suspectedLeg 38 = .ok (.i2l, 1) := by decide +kernel
theorem dX5_suspectedLeg_39 : decode cX5_suspectedLeg 39 = .ok (.aload_n 0, 1) := by decide +kernel
theorem dX5_suspectedLeg_40 : decode cX5_suspectedLeg 40 = .ok (.getfield 18, 3) := by decide +kernel
theorem dX5_suspectedLeg_43 : decode cX5_suspectedLeg 43 = .ok (.iload 4, 2) := by decide +kernel
theorem dX5_suspectedLeg_45 : decode cX5_suspectedLeg 45 = .ok (.iaload, 1) := by decide +kernel
theorem dX5_suspectedLeg_46 : decode cX5_suspectedLeg 46 = .ok (.ldc 129, 2) := by decide +kernel
theorem dX5_suspectedLeg_48 : decode cX5_suspectedLeg 48 = .ok (.iadd, 1) := by decide +kernel
theorem dX5_suspectedLeg_49 : decode cX5_suspectedLeg 49 = .ok (.invokestatic 122, 3) := by decide +kernel
theorem dX5_suspectedLeg_52 : decode cX5_suspectedLeg 52 = .ok (.i2l, 1) := by decide +kernel
theorem dX5_suspectedLeg_53 : decode cX5_suspectedLeg 53 = .ok (.lmul, 1) := by decide +kernel
theorem dX5_suspectedLeg_54 : decode cX5_suspectedLeg 54 = .ok (.lstore 5, 2) := by decide +kernel
theorem dX5_suspectedLeg_56 : decode cX5_suspectedLeg 56 = .ok (.lload 5, 2) := by decide +kernel
theorem dX5_suspectedLeg_58 : decode cX5_suspectedLeg 58 = .ok (.aload_n 0, 1) := by decide +kernel
theorem dX5_suspectedLeg_59 : decode cX5_suspectedLeg 59 = .ok (.getfield 115, 3) := by decide +kernel
theorem dX5_suspectedLeg_62 : decode cX5_suspectedLeg 62 = .ok (.i2l, 1) := by decide +kernel
theorem dX5_suspectedLeg_63 : decode cX5_suspectedLeg 63 = .ok (.aload_n 0, 1) := by decide +kernel
theorem dX5_suspectedLeg_64 : decode cX5_suspectedLeg 64 = .ok (.getfield 18, 3) := by decide +kernel
theorem dX5_suspectedLeg_67 : decode cX5_suspectedLeg 67 = .ok (.iload 4, 2) := by decide +kernel
theorem dX5_suspectedLeg_69 : decode cX5_suspectedLeg 69 = .ok (.iaload, 1) := by decide +kernel
theorem dX5_suspectedLeg_70 : decode cX5_suspectedLeg 70 = .ok (.invokestatic 122, 3) := by decide +kernel
theorem dX5_suspectedLeg_73 : decode cX5_suspectedLeg 73 = .ok (.i2l, 1) := by decide +kernel
theorem dX5_suspectedLeg_74 : decode cX5_suspectedLeg 74 = .ok (.lmul, 1) := by decide +kernel
theorem dX5_suspectedLeg_75 : decode cX5_suspectedLeg 75 = .ok (.lsub, 1) := by decide +kernel
theorem dX5_suspectedLeg_76 : decode cX5_suspectedLeg 76 = .ok (.invokestatic 145, 3) := by decide +kernel
theorem dX5_suspectedLeg_79 : decode cX5_suspectedLeg 79 = .ok (.lstore 7, 2) := by decide +kernel
theorem dX5_suspectedLeg_81 : decode cX5_suspectedLeg 81 = .ok (.iload_n 1, 1) := by decide +kernel
theorem dX5_suspectedLeg_82 : decode cX5_suspectedLeg 82 = .ok (.ldc 46, 2) := by decide +kernel
theorem dX5_suspectedLeg_84 : decode cX5_suspectedLeg 84 = .ok (.if_icmp .eq 10, 3) := by decide +kernel
theorem dX5_suspectedLeg_87 : decode cX5_suspectedLeg 87 = .ok (.lload 7, 2) := by decide +kernel
theorem dX5_suspectedLeg_89 : decode cX5_suspectedLeg 89 = .ok (.lload_n 2, 1) := by decide +kernel
theorem dX5_suspectedLeg_90 : decode cX5_suspectedLeg 90 = .ok (.lcmp, 1) := by decide +kernel
theorem dX5_suspectedLeg_91 : decode cX5_suspectedLeg 91 = .ok (.ifCond .ge 9, 3) := by decide +kernel
theorem dX5_suspectedLeg_94 : decode cX5_suspectedLeg 94 = .ok (.lload 7, 2) := by decide +kernel
theorem dX5_suspectedLeg_96 : decode cX5_suspectedLeg 96 = .ok (.lstore_n 2, 1) := by decide +kernel
theorem dX5_suspectedLeg_97 : decode cX5_suspectedLeg 97 = .ok (.iload 4, 2) := by decide +kernel
theorem dX5_suspectedLeg_99 : decode cX5_suspectedLeg 99 = .ok (.istore_n 1, 1) := by decide +kernel
theorem dX5_suspectedLeg_100 : decode cX5_suspectedLeg 100 = .ok (.iinc 4 1, 3) := by decide +kernel
theorem dX5_suspectedLeg_103 : decode cX5_suspectedLeg 103 = .ok (.goto (-85), 3) := by decide +kernel
theorem dX5_suspectedLeg_106 : decode cX5_suspectedLeg 106 = .ok (.iload_n 1, 1) := by decide +kernel
theorem dX5_suspectedLeg_107 : decode cX5_suspectedLeg 107 = .ok (.ireturn, 1) := by decide +kernel
theorem dX5_distanceTo_0 : decode cX5_distanceTo 0 = .ok (.aload_n 0, 1) := by decide +kernel
theorem dX5_distanceTo_1 : decode cX5_distanceTo 1 = .ok (.invokevirtual 58, 3) := by decide +kernel
theorem dX5_distanceTo_4 : decode cX5_distanceTo 4 = .ok (.ifCond .eq 10, 3) := by decide +kernel
theorem dX5_distanceTo_7 : decode cX5_distanceTo 7 = .ok (.aload_n 1, 1) := by decide +kernel
theorem dX5_distanceTo_8 : decode cX5_distanceTo 8 = .ok (.invokevirtual 58, 3) := by decide +kernel
theorem dX5_distanceTo_11 : decode cX5_distanceTo 11 = .ok (.ifCond .ne 6, 3) := by decide +kernel
theorem dX5_distanceTo_14 : decode cX5_distanceTo 14 = .ok (.ldc 46, 2) := by decide +kernel
theorem dX5_distanceTo_16 : decode cX5_distanceTo 16 = .ok (.ireturn, 1) := by decide +kernel
theorem dX5_distanceTo_17 : decode cX5_distanceTo 17 = .ok (.aload_n 0, 1) := by decide +kernel
theorem dX5_distanceTo_18 : decode cX5_distanceTo 18 = .ok (.getfield 100, 3) := by decide +kernel
theorem dX5_distanceTo_21 : decode cX5_distanceTo 21 = .ok (.aload_n 1, 1) := by decide +kernel
theorem dX5_distanceTo_22 : decode cX5_distanceTo 22 = .ok (.getfield 100, 3) := by decide +kernel
theorem dX5_distanceTo_25 : decode cX5_distanceTo 25 = .ok (.isub, 1) := by decide +kernel
theorem dX5_distanceTo_26 : decode cX5_distanceTo 26 = .ok (.i2l, 1) := by decide +kernel
theorem dX5_distanceTo_27 : decode cX5_distanceTo 27 = .ok (.aload_n 0, 1) := by decide +kernel
theorem dX5_distanceTo_28 : decode cX5_distanceTo 28 = .ok (.getfield 109, 3) := by decide +kernel
theorem dX5_distanceTo_31 : decode cX5_distanceTo 31 = .ok (.aload_n 1, 1) := by decide +kernel
theorem dX5_distanceTo_32 : decode cX5_distanceTo 32 = .ok (.getfield 109, 3) := by decide +kernel
theorem dX5_distanceTo_35 : decode cX5_distanceTo 35 = .ok (.isub, 1) := by decide +kernel
theorem dX5_distanceTo_36 : decode cX5_distanceTo 36 = .ok (.i2l, 1) := by decide +kernel
theorem dX5_distanceTo_37 : decode cX5_distanceTo 37 = .ok (.invokestatic 142, 3) := by decide +kernel
theorem dX5_distanceTo_40 : decode cX5_distanceTo 40 = .ok (.ireturn, 1) := by decide +kernel
theorem dX5_smallAngleFor_0 : decode cX5_smallAngleFor 0 = .ok (.aload_n 0, 1) := by decide +kernel
theorem dX5_smallAngleFor_1 : decode cX5_smallAngleFor 1 = .ok (.invokevirtual 136, 3) := by decide +kernel
theorem dX5_smallAngleFor_4 : decode cX5_smallAngleFor 4 = .ok (.ifCond .ne 6, 3) := by decide +kernel
theorem dX5_smallAngleFor_7 : decode cX5_smallAngleFor 7 = .ok (.ldc 46, 2) := by decide +kernel
theorem dX5_smallAngleFor_9 : decode cX5_smallAngleFor 9 = .ok (.ireturn, 1) := by decide +kernel
theorem dX5_smallAngleFor_10 : decode cX5_smallAngleFor 10 = .ok (.iload_n 1, 1) := by decide +kernel
theorem dX5_smallAngleFor_11 : decode cX5_smallAngleFor 11 = .ok (.aload_n 0, 1) := by decide +kernel
theorem dX5_smallAngleFor_12 : decode cX5_smallAngleFor 12 = .ok (.getfield 27, 3) := by decide +kernel
theorem dX5_smallAngleFor_15 : decode cX5_smallAngleFor 15 = .ok (.if_icmp .ne 7, 3) := by decide +kernel
theorem dX5_smallAngleFor_18 : decode cX5_smallAngleFor 18 = .ok (.iconst 1, 1) := by decide +kernel
theorem dX5_smallAngleFor_19 : decode cX5_smallAngleFor 19 = .ok (.goto 16, 3) := by decide +kernel
theorem dX5_smallAngleFor_22 : decode cX5_smallAngleFor 22 = .ok (.iload_n 1, 1) := by decide +kernel
theorem dX5_smallAngleFor_23 : decode cX5_smallAngleFor 23 = .ok (.aload_n 0, 1) := by decide +kernel
theorem dX5_smallAngleFor_24 : decode cX5_smallAngleFor 24 = .ok (.getfield 31, 3) := by decide +kernel
theorem dX5_smallAngleFor_27 : decode cX5_smallAngleFor 27 = .ok (.if_icmp .ne 7, 3) := by decide +kernel
theorem dX5_smallAngleFor_30 : decode cX5_smallAngleFor 30 = .ok (.iconst (-1), 1) := by decide +kernel
theorem dX5_smallAngleFor_31 : decode cX5_smallAngleFor 31 = .ok (.goto 4, 3) := by decide +kernel
theorem dX5_smallAngleFor_34 : decode cX5_smallAngleFor 34 = .ok (.iconst 0, 1) := by decide +kernel
theorem dX5_smallAngleFor_35 : decode cX5_smallAngleFor 35 = .ok (.istore 4, 2) := by decide +kernel
theorem dX5_smallAngleFor_37 : decode cX5_smallAngleFor 37 = .ok (.sipush (-3600), 3) := by decide +kernel
theorem dX5_smallAngleFor_40 : decode cX5_smallAngleFor 40 = .ok (.istore 5, 2) := by decide +kernel
theorem dX5_smallAngleFor_42 : decode cX5_smallAngleFor 42 = .ok (.iload 5, 2) := by decide +kernel
theorem dX5_smallAngleFor_44 : decode cX5_smallAngleFor 44 = .ok (.sipush 3600, 3) := by decide +kernel
theorem dX5_smallAngleFor_47 : decode cX5_smallAngleFor 47 = .ok (.if_icmp .gt 45, 3) := by decide +kernel
theorem dX5_smallAngleFor_50 : decode cX5_smallAngleFor 50 = .ok (.iload 4, 2) := by decide +kernel
theorem dX5_smallAngleFor_52 : decode cX5_smallAngleFor 52 = .ok (.aload_n 2, 1) := by decide +kernel
theorem dX5_smallAngleFor_53 : decode cX5_smallAngleFor 53 = .ok (.iload 5, 2) := by decide +kernel
theorem dX5_smallAngleFor_55 : decode cX5_smallAngleFor 55 = .ok (.invokevirtual 148, 3) := by decide +kernel
theorem dX5_smallAngleFor_58 : decode cX5_smallAngleFor 58 = .ok (.aload_n 2, 1) := by decide +kernel
theorem dX5_smallAngleFor_59 : decode cX5_smallAngleFor 59 = .ok (.getfield 94, 3) := by decide +kernel
theorem dX5_smallAngleFor_62 : decode cX5_smallAngleFor 62 = .ok (.isub, 1) := by decide +kernel
theorem dX5_smallAngleFor_63 : decode cX5_smallAngleFor 63 = .ok (.imul, 1) := by decide +kernel
theorem dX5_smallAngleFor_64 : decode cX5_smallAngleFor 64 = .ok (.istore 6, 2) := by decide +kernel
theorem dX5_smallAngleFor_66 : decode cX5_smallAngleFor 66 = .ok (.aload_n 0, 1) := by decide +kernel
theorem dX5_smallAngleFor_67 : decode cX5_smallAngleFor 67 = .ok (.getfield 61, 3) := by decide +kernel
theorem dX5_smallAngleFor_70 : decode cX5_smallAngleFor 70 = .ok (.iload 6, 2) := by decide +kernel
theorem dX5_smallAngleFor_72 : decode cX5_smallAngleFor 72 = .ok (.iadd, 1) := by decide +kernel
theorem dX5_smallAngleFor_73 : decode cX5_smallAngleFor 73 = .ok (.invokestatic 97, 3) := by decide +kernel
theorem dX5_smallAngleFor_76 : decode cX5_smallAngleFor 76 = .ok (.invokestatic 74, 3) := by decide +kernel
theorem dX5_smallAngleFor_79 : decode cX5_smallAngleFor 79 = .ok (.iload_n 3, 1) := by decide +kernel
theorem dX5_smallAngleFor_80 : decode cX5_smallAngleFor 80 = .ok (.if_icmp .gt 6, 3) := by decide +kernel
theorem dX5_smallAngleFor_83 : decode cX5_smallAngleFor 83 = .ok (.iload 5, 2) := by decide +kernel
theorem dX5_smallAngleFor_85 : decode cX5_smallAngleFor 85 = .ok (.ireturn, 1) := by decide +kernel
theorem dX5_smallAngleFor_86 : decode cX5_smallAngleFor 86 = .ok (.iinc 5 1, 3) := by decide +kernel
theorem dX5_smallAngleFor_89 : decode cX5_smallAngleFor 89 = .ok (.goto (-47), 3) := by decide +kernel
theorem dX5_smallAngleFor_92 : decode cX5_smallAngleFor 92 = .ok (.ldc 46, 2) := by decide +kernel
theorem dX5_smallAngleFor_94 : decode cX5_smallAngleFor 94 = .ok (.ireturn, 1) := by decide +kernel
theorem dX5_lengthTowards_0 : decode cX5_lengthTowards 0 = .ok (.aload_n 0, 1) := by decide +kernel
theorem dX5_lengthTowards_1 : decode cX5_lengthTowards 1 = .ok (.invokevirtual 58, 3) := by decide +kernel
theorem dX5_lengthTowards_4 : decode cX5_lengthTowards 4 = .ok (.ifCond .eq 23, 3) := by decide +kernel
theorem dX5_lengthTowards_7 : decode cX5_lengthTowards 7 = .ok (.aload_n 1, 1) := by decide +kernel
theorem dX5_lengthTowards_8 : decode cX5_lengthTowards 8 = .ok (.invokevirtual 58, 3) := by decide +kernel
theorem dX5_lengthTowards_11 : decode cX5_lengthTowards 11 = .ok (.ifCond .eq 16, 3) := by decide +kernel
theorem dX5_lengthTowards_14 : decode cX5_lengthTowards 14 = .ok (.aload_n 0, 1) := by decide +kernel
theorem dX5_lengthTowards_15 : decode cX5_lengthTowards 15 = .ok (.aload_n 0, 1) := by decide +kernel
theorem dX5_lengthTowards_16 : decode cX5_lengthTowards 16 = .ok (.getfield 37, 3) := by decide +kernel
theorem dX5_lengthTowards_19 : decode cX5_lengthTowards 19 = .ok (.iconst 1, 1) := by decide +kernel
theorem dX5_lengthTowards_20 : decode cX5_lengthTowards 20 = .ok (.isub, 1) := by decide +kernel
theorem dX5_lengthTowards_21 : decode cX5_lengthTowards 21 = .ok (.invokevirtual 82, 3) := by decide +kernel
theorem dX5_lengthTowards_24 : decode cX5_lengthTowards 24 = .ok (.ifCond .ne 6, 3) := by decide +kernel
theorem dX5_lengthTowards_27 : decode cX5_lengthTowards 27 = .ok (.ldc 46, 2) := by decide +kernel
theorem dX5_lengthTowards_29 : decode cX5_lengthTowards 29 = .ok (.ireturn, 1) := by decide +kernel
theorem dX5_lengthTowards_30 : decode cX5_lengthTowards 30 = .ok (.aload_n 0, 1) := by decide +kernel
theorem dX5_lengthTowards_31 : decode cX5_lengthTowards 31 = .ok (.getfield 18, 3) := by decide +kernel
theorem dX5_lengthTowards_34 : decode cX5_lengthTowards 34 = .ok (.aload_n 0, 1) := by decide +kernel
theorem dX5_lengthTowards_35 : decode cX5_lengthTowards 35 = .ok (.getfield 37, 3) := by decide +kernel
theorem dX5_lengthTowards_38 : decode cX5_lengthTowards 38 = .ok (.iconst 1, 1) := by decide +kernel
theorem dX5_lengthTowards_39 : decode cX5_lengthTowards 39 = .ok (.isub, 1) := by decide +kernel
theorem dX5_lengthTowards_40 : decode cX5_lengthTowards 40 = .ok (.iaload, 1) := by decide +kernel
theorem dX5_lengthTowards_41 : decode cX5_lengthTowards 41 = .ok (.iload_n 2, 1) := by decide +kernel
theorem dX5_lengthTowards_42 : decode cX5_lengthTowards 42 = .ok (.iadd, 1) := by decide +kernel
theorem dX5_lengthTowards_43 : decode cX5_lengthTowards 43 = .ok (.ldc 93, 2) := by decide +kernel
theorem dX5_lengthTowards_45 : decode cX5_lengthTowards 45 = .ok (.iadd, 1) := by decide +kernel
theorem dX5_lengthTowards_46 : decode cX5_lengthTowards 46 = .ok (.istore 4, 2) := by decide +kernel
theorem dX5_lengthTowards_48 : decode cX5_lengthTowards 48 = .ok (.iload 4, 2) := by decide +kernel
theorem dX5_lengthTowards_50 : decode cX5_lengthTowards 50 = .ok (.invokestatic 122, 3) := by decide +kernel
theorem dX5_lengthTowards_53 : decode cX5_lengthTowards 53 = .ok (.istore 5, 2) := by decide +kernel
theorem dX5_lengthTowards_55 : decode cX5_lengthTowards 55 = .ok (.iload 4, 2) := by decide +kernel
theorem dX5_lengthTowards_57 : decode cX5_lengthTowards 57 = .ok (.ldc 129, 2) := by decide +kernel
theorem dX5_lengthTowards_59 : decode cX5_lengthTowards 59 = .ok (.iadd, 1) := by decide +kernel
theorem dX5_lengthTowards_60 : decode cX5_lengthTowards 60 = .ok (.invokestatic 122, 3) := by decide +kernel
theorem dX5_lengthTowards_63 : decode cX5_lengthTowards 63 = .ok (.istore 6, 2) := by decide +kernel
theorem dX5_lengthTowards_65 : decode cX5_lengthTowards 65 = .ok (.ldc 46, 2) := by decide +kernel
theorem dX5_lengthTowards_67 : decode cX5_lengthTowards 67 = .ok (.istore 7, 2) := by decide +kernel
theorem dX5_lengthTowards_69 : decode cX5_lengthTowards 69 = .ok (.lconst 0, 1) := by decide +kernel
theorem dX5_lengthTowards_70 : decode cX5_lengthTowards 70 = .ok (.lstore 8, 2) := by decide +kernel
theorem dX5_lengthTowards_72 : decode cX5_lengthTowards 72 = .ok (.iconst 1, 1) := by decide +kernel
theorem dX5_lengthTowards_73 : decode cX5_lengthTowards 73 = .ok (.istore 10, 2) := by decide +kernel
theorem dX5_lengthTowards_75 : decode cX5_lengthTowards 75 = .ok (.iload 10, 2) := by decide +kernel
theorem dX5_lengthTowards_77 : decode cX5_lengthTowards 77 = .ok (.iload_n 3, 1) := by decide +kernel
theorem dX5_lengthTowards_78 : decode cX5_lengthTowards 78 = .ok (.if_icmp .gt 98, 3) := by decide +kernel
theorem dX5_lengthTowards_81 : decode cX5_lengthTowards 81 = .ok (.sipush 1000, 3) := by decide +kernel
theorem dX5_lengthTowards_84 : decode cX5_lengthTowards 84 = .ok (.iload 10, 2) := by decide +kernel
theorem dX5_lengthTowards_86 : decode cX5_lengthTowards 86 = .ok (.imul, 1) := by decide +kernel
theorem dX5_lengthTowards_87 : decode cX5_lengthTowards 87 = .ok (.istore 11, 2) := by decide +kernel
theorem dX5_lengthTowards_89 : decode cX5_lengthTowards 89 = .ok (.aload_n 0, 1) := by decide +kernel
theorem dX5_lengthTowards_90 : decode cX5_lengthTowards 90 = .ok (.getfield 100, 3) := by decide +kernel
theorem dX5_lengthTowards_93 : decode cX5_lengthTowards 93 = .ok (.iload 11, 2) := by decide +kernel
theorem dX5_lengthTowards_95 : decode cX5_lengthTowards 95 = .ok (.i2l, 1) := by decide +kernel
theorem dX5_lengthTowards_96 : decode cX5_lengthTowards 96 = .ok (.iload 5, 2) := by decide +kernel
theorem dX5_lengthTowards_98 : decode cX5_lengthTowards 98 = .ok (.invokestatic 125, 3) := by decide +kernel
theorem dX5_lengthTowards_101 : decode cX5_lengthTowards 101 = .ok (.iadd, 1) := by decide +kernel
theorem dX5_lengthTowards_102 : decode cX5_lengthTowards 102 = .ok (.aload_n 1, 1) := by decide +kernel
theorem dX5_lengthTowards_103 : decode cX5_lengthTowards 103 = .ok (.getfield 100, 3) := by decide +kernel
theorem dX5_lengthTowards_106 : decode cX5_lengthTowards 106 = .ok (.isub, 1) := by decide +kernel
theorem dX5_lengthTowards_107 : decode cX5_lengthTowards 107 = .ok (.istore 12, 2) := by decide +kernel
theorem dX5_lengthTowards_109 : decode cX5_lengthTowards 109 = .ok (.aload_n 0, 1) := by decide +kernel
theorem dX5_lengthTowards_110 : decode cX5_lengthTowards 110 = .ok (.getfield 109, 3) := by decide +kernel
theorem dX5_lengthTowards_113 : decode cX5_lengthTowards 113 = .ok (.iload 11, 2) := by decide +kernel
theorem dX5_lengthTowards_115 : decode cX5_lengthTowards 115 = .ok (.i2l, 1) := by decide +kernel
theorem dX5_lengthTowards_116 : decode cX5_lengthTowards 116 = .ok (.iload 6, 2) := by decide +kernel
theorem dX5_lengthTowards_118 : decode cX5_lengthTowards 118 = .ok (.invokestatic 125, 3) := by decide +kernel
theorem dX5_lengthTowards_121 : decode cX5_lengthTowards 121 = .ok (.iadd, 1) := by decide +kernel
theorem dX5_lengthTowards_122 : decode cX5_lengthTowards 122 = .ok (.aload_n 1, 1) := by decide +kernel
theorem dX5_lengthTowards_123 : decode cX5_lengthTowards 123 = .ok (.getfield 109, 3) := by decide +kernel
theorem dX5_lengthTowards_126 : decode cX5_lengthTowards 126 = .ok (.isub, 1) := by decide +kernel
theorem dX5_lengthTowards_127 : decode cX5_lengthTowards 127 = .ok (.istore 13, 2) := by decide +kernel
theorem dX5_lengthTowards_129 : decode cX5_lengthTowards 129 = .ok (.iload 7, 2) := by decide +kernel
theorem dX5_lengthTowards_131 : decode cX5_lengthTowards 131 = .ok (.ldc 46, 2) := by decide +kernel
theorem dX5_lengthTowards_133 : decode cX5_lengthTowards 133 = .ok (.if_icmp .eq 21, 3) := by decide +kernel
theorem dX5_lengthTowards_136 : decode cX5_lengthTowards 136 = .ok (.iload 12, 2) := by decide +kernel
theorem dX5_lengthTowards_138 : decode cX5_lengthTowards 138 = .ok (.i2l, 1) := by decide +kernel
theorem dX5_lengthTowards_139 : decode cX5_lengthTowards 139 = .ok (.iload 13, 2) := by decide +kernel
theorem dX5_lengthTowards_141 : decode cX5_lengthTowards 141 = .ok (.i2l, 1) := by decide +kernel
theorem dX5_lengthTowards_142 : decode cX5_lengthTowards 142 = .ok (.invokestatic 151, 3) := by decide +kernel
theorem dX5_lengthTowards_145 : decode cX5_lengthTowards 145 = .ok (.lload 8, 2) := by decide +kernel
theorem dX5_lengthTowards_147 : decode cX5_lengthTowards 147 = .ok (.lload 8, 2) := by decide +kernel
theorem dX5_lengthTowards_149 : decode cX5_lengthTowards 149 = .ok (.lmul, 1) := by decide +kernel
theorem dX5_lengthTowards_150 : decode cX5_lengthTowards 150 = .ok (.lcmp, 1) := by decide +kernel
theorem dX5_lengthTowards_151 : decode cX5_lengthTowards 151 = .ok (.ifCond .ge 19, 3) := by decide +kernel
theorem dX5_lengthTowards_154 : decode cX5_lengthTowards 154 = .ok (.iload 12, 2) := by decide +kernel
theorem dX5_lengthTowards_156 : decode cX5_lengthTowards 156 = .ok (.i2l, 1) := by decide +kernel
theorem dX5_lengthTowards_157 : decode cX5_lengthTowards 157 = .ok (.iload 13, 2) := by decide +kernel
theorem dX5_lengthTowards_159 : decode cX5_lengthTowards 159 = .ok (.i2l, 1) := by decide +kernel
theorem dX5_lengthTowards_160 : decode cX5_lengthTowards 160 = .ok (.invokestatic 142, 3) := by decide +kernel
theorem dX5_lengthTowards_163 : decode cX5_lengthTowards 163 = .ok (.i2l, 1) := by decide +kernel
theorem dX5_lengthTowards_164 : decode cX5_lengthTowards 164 = .ok (.lstore 8, 2) := by decide +kernel
theorem dX5_lengthTowards_166 : decode cX5_lengthTowards 166 = .ok (.iload 11, 2) := by decide +kernel
theorem dX5_lengthTowards_168 : decode cX5_lengthTowards 168 = .ok (.istore 7, 2) := by decide +kernel
theorem dX5_lengthTowards_170 : decode cX5_lengthTowards 170 = .ok (.iinc 10 1, 3) := by decide +kernel
theorem dX5_lengthTowards_173 : decode cX5_lengthTowards 173 = .ok (.goto (-98), 3) := by decide +kernel
theorem dX5_lengthTowards_176 : decode cX5_lengthTowards 176 = .ok (.iload 7, 2) := by decide +kernel
theorem dX5_lengthTowards_178 : decode cX5_lengthTowards 178 = .ok (.ireturn, 1) := by decide +kernel
theorem dX6_init_0 : decode cX6_init 0 = .ok (.aload_n 0, 1) := by decide +kernel
theorem dX6_init_1 : decode cX6_init 1 = .ok (.invokespecial 3, 3) := by decide +kernel
theorem dX6_init_4 : decode cX6_init 4 = .ok (.aload_n 0, 1) := by decide +kernel
theorem dX6_init_5 : decode cX6_init 5 = .ok (.bipush 9, 2) := by decide +kernel
theorem dX6_init_7 : decode cX6_init 7 = .ok (.newarray .int, 2) := by decide +kernel
theorem dX6_init_9 : decode cX6_init 9 = .ok (.putfield 9, 3) := by decide +kernel
theorem dX6_init_12 : decode cX6_init 12 = .ok (.return_, 1) := by decide +kernel
theorem dX6_copyFrom_0 : decode cX6_copyFrom 0 = .ok (.aload_n 0, 1) := by decide +kernel
theorem dX6_copyFrom_1 : decode cX6_copyFrom 1 = .ok (.aload_n 1, 1) := by decide +kernel
theorem dX6_copyFrom_2 : decode cX6_copyFrom 2 = .ok (.getfield 15, 3) := by decide +kernel
theorem dX6_copyFrom_5 : decode cX6_copyFrom 5 = .ok (.putfield 15, 3) := by decide +kernel
theorem dX6_copyFrom_8 : decode cX6_copyFrom 8 = .ok (.aload_n 0, 1) := by decide +kernel
theorem dX6_copyFrom_9 : decode cX6_copyFrom 9 = .ok (.aload_n 1, 1) := by decide +kernel
theorem dX6_copyFrom_10 : decode cX6_copyFrom 10 = .ok (.getfield 19, 3) := by decide +kernel
theorem dX6_copyFrom_13 : decode cX6_copyFrom 13 = .ok (.putfield 19, 3) := by decide +kernel
theorem dX6_copyFrom_16 : decode cX6_copyFrom 16 = .ok (.aload_n 0, 1) := by decide +kernel
theorem dX6_copyFrom_17 : decode cX6_copyFrom 17 = .ok (.aload_n 1, 1) := by decide +kernel
theorem dX6_copyFrom_18 : decode cX6_copyFrom 18 = .ok (.getfield 22, 3) := by decide +kernel
theorem dX6_copyFrom_21 : decode cX6_copyFrom 21 = .ok (.putfield 22, 3) := by decide +kernel
theorem dX6_copyFrom_24 : decode cX6_copyFrom 24 = .ok (.aload_n 1, 1) := by decide +kernel
theorem dX6_copyFrom_25 : decode cX6_copyFrom 25 = .ok (.getfield 9, 3) := by decide +kernel
theorem dX6_copyFrom_28 : decode cX6_copyFrom 28 = .ok (.iconst 0, 1) := by decide +kernel
theorem dX6_copyFrom_29 : decode cX6_copyFrom 29 = .ok (.aload_n 0, 1) := by decide +kernel
theorem dX6_copyFrom_30 : decode cX6_copyFrom 30 = .ok (.getfield 9, 3) := by decide +kernel
theorem dX6_copyFrom_33 : decode cX6_copyFrom 33 = .ok (.iconst 0, 1) := by decide +kernel
theorem dX6_copyFrom_34 : decode cX6_copyFrom 34 = .ok (.bipush 9, 2) := by decide +kernel
theorem dX6_copyFrom_36 : decode cX6_copyFrom 36 = .ok (.invokestatic 25, 3) := by decide +kernel
theorem dX6_copyFrom_39 : decode cX6_copyFrom 39 = .ok (.return_, 1) := by decide +kernel
theorem dX6_hangAt_0 : decode cX6_hangAt 0 = .ok (.aload_n 0, 1) := by decide +kernel
theorem dX6_hangAt_1 : decode cX6_hangAt 1 = .ok (.iload_n 1, 1) := by decide +kernel
theorem dX6_hangAt_2 : decode cX6_hangAt 2 = .ok (.putfield 15, 3) := by decide +kernel
theorem dX6_hangAt_5 : decode cX6_hangAt 5 = .ok (.aload_n 0, 1) := by decide +kernel
theorem dX6_hangAt_6 : decode cX6_hangAt 6 = .ok (.iload_n 2, 1) := by decide +kernel
theorem dX6_hangAt_7 : decode cX6_hangAt 7 = .ok (.putfield 19, 3) := by decide +kernel
theorem dX6_hangAt_10 : decode cX6_hangAt 10 = .ok (.aload_n 0, 1) := by decide +kernel
theorem dX6_hangAt_11 : decode cX6_hangAt 11 = .ok (.iconst 0, 1) := by decide +kernel
theorem dX6_hangAt_12 : decode cX6_hangAt 12 = .ok (.putfield 22, 3) := by decide +kernel
theorem dX6_hangAt_15 : decode cX6_hangAt 15 = .ok (.return_, 1) := by decide +kernel
theorem dX6_addTurn_0 : decode cX6_addTurn 0 = .ok (.aload_n 0, 1) := by decide +kernel
theorem dX6_addTurn_1 : decode cX6_addTurn 1 = .ok (.getfield 22, 3) := by decide +kernel
theorem dX6_addTurn_4 : decode cX6_addTurn 4 = .ok (.ifCond .lt 35, 3) := by decide +kernel
theorem dX6_addTurn_7 : decode cX6_addTurn 7 = .ok (.aload_n 0, 1) := by decide +kernel
theorem dX6_addTurn_8 : decode cX6_addTurn 8 = .ok (.getfield 22, 3) := by decide +kernel
theorem dX6_addTurn_11 : decode cX6_addTurn 11 = .ok (.aload_n 0, 1) := by decide +kernel
theorem dX6_addTurn_12 : decode cX6_addTurn 12 = .ok (.getfield 9, 3) := by decide +kernel
theorem dX6_addTurn_15 : decode cX6_addTurn 15 = .ok (.arraylength, 1) := by decide +kernel
theorem dX6_addTurn_16 : decode cX6_addTurn 16 = .ok (.if_icmp .ge 23, 3) := by decide +kernel
theorem dX6_addTurn_19 : decode cX6_addTurn 19 = .ok (.aload_n 0, 1) := by decide +kernel
theorem dX6_addTurn_20 : decode cX6_addTurn 20 = .ok (.getfield 9, 3) := by decide +kernel
theorem dX6_addTurn_23 : decode cX6_addTurn 23 = .ok (.aload_n 0, 1) := by decide +kernel
theorem dX6_addTurn_24 : decode cX6_addTurn 24 = .ok (.getfield 22, 3) := by decide +kernel
theorem dX6_addTurn_27 : decode cX6_addTurn 27 = .ok (.iload_n 1, 1) := by decide +kernel
theorem dX6_addTurn_28 : decode cX6_addTurn 28 = .ok (.iastore, 1) := by decide +kernel
theorem dX6_addTurn_29 : decode cX6_addTurn 29 = .ok (.aload_n 0, 1) := by decide +kernel
theorem dX6_addTurn_30 : decode cX6_addTurn 30 = .ok (.dup, 1) := by decide +kernel
theorem dX6_addTurn_31 : decode cX6_addTurn 31 = .ok (.getfield 22, 3) := by decide +kernel
theorem dX6_addTurn_34 : decode cX6_addTurn 34 = .ok (.iconst 1, 1) := by decide +kernel
theorem dX6_addTurn_35 : decode cX6_addTurn 35 = .ok (.iadd, 1) := by decide +kernel
theorem dX6_addTurn_36 : decode cX6_addTurn 36 = .ok (.putfield 22, 3) := by decide +kernel
theorem dX6_addTurn_39 : decode cX6_addTurn 39 = .ok (.aload_n 0, 1) := by decide +kernel
theorem dX6_addTurn_40 : decode cX6_addTurn 40 = .ok (.getfield 22, 3) := by decide +kernel
theorem dX6_addTurn_43 : decode cX6_addTurn 43 = .ok (.ireturn, 1) := by decide +kernel
theorem dX6_dropTurns_0 : decode cX6_dropTurns 0 = .ok (.aload_n 0, 1) := by decide +kernel
theorem dX6_dropTurns_1 : decode cX6_dropTurns 1 = .ok (.getfield 22, 3) := by decide +kernel
theorem dX6_dropTurns_4 : decode cX6_dropTurns 4 = .ok (.istore_n 1, 1) := by decide +kernel
theorem dX6_dropTurns_5 : decode cX6_dropTurns 5 = .ok (.aload_n 0, 1) := by decide +kernel
theorem dX6_dropTurns_6 : decode cX6_dropTurns 6 = .ok (.iconst 0, 1) := by decide +kernel
theorem dX6_dropTurns_7 : decode cX6_dropTurns 7 = .ok (.putfield 22, 3) := by decide +kernel
theorem dX6_dropTurns_10 : decode cX6_dropTurns 10 = .ok (.iload_n 1, 1) := by decide +kernel
theorem dX6_dropTurns_11 : decode cX6_dropTurns 11 = .ok (.ireturn, 1) := by decide +kernel
theorem dX6_judge_0 : decode cX6_judge 0 = .ok (.aload_n 0, 1) := by decide +kernel
theorem dX6_judge_1 : decode cX6_judge 1 = .ok (.aload_n 0, 1) := by decide +kernel
theorem dX6_judge_2 : decode cX6_judge 2 = .ok (.invokevirtual 31, 3) := by decide +kernel
theorem dX6_judge_5 : decode cX6_judge 5 = .ok (.putfield 35, 3) := by decide +kernel
theorem dX6_judge_8 : decode cX6_judge 8 = .ok (.aload_n 0, 1) := by decide +kernel
theorem dX6_judge_9 : decode cX6_judge 9 = .ok (.aload_n 0, 1) := by decide +kernel
theorem dX6_judge_10 : decode cX6_judge 10 = .ok (.invokevirtual 38, 3) := by decide +kernel
theorem dX6_judge_13 : decode cX6_judge 13 = .ok (.putfield 41, 3) := by decide +kernel
theorem dX6_judge_16 : decode cX6_judge 16 = .ok (.aload_n 0, 1) := by decide +kernel
theorem dX6_judge_17 : decode cX6_judge 17 = .ok (.aload_n 0, 1) := by decide +kernel
theorem dX6_judge_18 : decode cX6_judge 18 = .ok (.getfield 22, 3) := by decide +kernel
theorem dX6_judge_21 : decode cX6_judge 21 = .ok (.iconst 3, 1) := by decide +kernel
theorem dX6_judge_22 : decode cX6_judge 22 = .ok (.if_icmp .ge 7, 3) := by decide +kernel
theorem dX6_judge_25 : decode cX6_judge 25 = .ok (.iconst 1, 1) := by decide +kernel
theorem dX6_judge_26 : decode cX6_judge 26 = .ok (.goto 16, 3) := by decide +kernel
theorem dX6_judge_29 : decode cX6_judge 29 = .ok (.aload_n 0, 1) := by decide +kernel
theorem dX6_judge_30 : decode cX6_judge 30 = .ok (.getfield 41, 3) := by decide +kernel
theorem dX6_judge_33 : decode cX6_judge 33 = .ok (.iload_n 1, 1) := by decide +kernel
theorem dX6_judge_34 : decode cX6_judge 34 = .ok (.if_icmp .le 7, 3) := by decide +kernel
theorem dX6_judge_37 : decode cX6_judge 37 = .ok (.iconst 2, 1) := by decide +kernel
theorem dX6_judge_38 : decode cX6_judge 38 = .ok (.goto 4, 3) := by decide +kernel
theorem dX6_judge_41 : decode cX6_judge 41 = .ok (.iconst 0, 1) := by decide +kernel
theorem dX6_judge_42 : decode cX6_judge 42 = .ok (.putfield 44, 3) := by decide +kernel
theorem dX6_judge_45 : decode cX6_judge 45 = .ok (.return_, 1) := by decide +kernel
theorem dX6_number_0 : decode cX6_number 0 = .ok (.iload_n 1, 1) := by decide +kernel
theorem dX6_number_1 : decode cX6_number 1 = .ok (.tableswitch 60 0 4 #[35, 40, 45, 50, 55], 35) := by decide +kernel
theorem dX6_number_36 : decode cX6_number 36 = .ok (.aload_n 0, 1) := by decide +kernel
theorem dX6_number_37 : decode cX6_number 37 = .ok (.getfield 15, 3) := by decide +kernel
theorem dX6_number_40 : decode cX6_number 40 = .ok (.ireturn, 1) := by decide +kernel
theorem dX6_number_41 : decode cX6_number 41 = .ok (.aload_n 0, 1) := by decide +kernel
theorem dX6_number_42 : decode cX6_number 42 = .ok (.getfield 19, 3) := by decide +kernel
theorem dX6_number_45 : decode cX6_number 45 = .ok (.ireturn, 1) := by decide +kernel
theorem dX6_number_46 : decode cX6_number 46 = .ok (.aload_n 0, 1) := by decide +kernel
theorem dX6_number_47 : decode cX6_number 47 = .ok (.getfield 22, 3) := by decide +kernel
theorem dX6_number_50 : decode cX6_number 50 = .ok (.ireturn, 1) := by decide +kernel
theorem dX6_number_51 : decode cX6_number 51 = .ok (.aload_n 0, 1) := by decide +kernel
theorem dX6_number_52 : decode cX6_number 52 = .ok (.getfield 35, 3) := by decide +kernel
theorem dX6_number_55 : decode cX6_number 55 = .ok (.ireturn, 1) := by decide +kernel
theorem dX6_number_56 : decode cX6_number 56 = .ok (.aload_n 0, 1) := by decide +kernel
theorem dX6_number_57 : decode cX6_number 57 = .ok (.getfield 44, 3) := by decide +kernel
theorem dX6_number_60 : decode cX6_number 60 = .ok (.ireturn, 1) := by decide +kernel
theorem dX6_number_61 : decode cX6_number 61 = .ok (.aload_n 0, 1) := by decide +kernel
theorem dX6_number_62 : decode cX6_number 62 = .ok (.getfield 41, 3) := by decide +kernel
theorem dX6_number_65 : decode cX6_number 65 = .ok (.ireturn, 1) := by decide +kernel
theorem dX6_meanOfTurns_0 : decode cX6_meanOfTurns 0 = .ok (.aload_n 0, 1) := by decide +kernel
theorem dX6_meanOfTurns_1 : decode cX6_meanOfTurns 1 = .ok (.getfield 22, 3) := by decide +kernel
theorem dX6_meanOfTurns_4 : decode cX6_meanOfTurns 4 = .ok (.iconst 3, 1) := by decide +kernel
theorem dX6_meanOfTurns_5 : decode cX6_meanOfTurns 5 = .ok (.if_icmp .lt 15, 3) := by decide +kernel
theorem dX6_meanOfTurns_8 : decode cX6_meanOfTurns 8 = .ok (.aload_n 0, 1) := by decide +kernel
theorem dX6_meanOfTurns_9 : decode cX6_meanOfTurns 9 = .ok (.getfield 22, 3) := by decide +kernel
theorem dX6_meanOfTurns_12 : decode cX6_meanOfTurns 12 = .ok (.aload_n 0, 1) := by decide +kernel
theorem dX6_meanOfTurns_13 : decode cX6_meanOfTurns 13 = .ok (.getfield 9, 3) := by decide +kernel
theorem dX6_meanOfTurns_16 : decode cX6_meanOfTurns 16 = .ok (.arraylength, 1) := by decide +kernel
theorem dX6_meanOfTurns_17 : decode cX6_meanOfTurns 17 = .ok (.if_icmp .le 6, 3) := by decide +kernel
theorem dX6_meanOfTurns_20 : decode cX6_meanOfTurns 20 = .ok (.ldc 47, 2) := by decide +kernel
theorem dX6_meanOfTurns_22 : decode cX6_meanOfTurns 22 = .ok (.ireturn, 1) := by decide +kernel
theorem dX6_meanOfTurns_23 : decode cX6_meanOfTurns 23 = .ok (.aload_n 0, 1) := by decide +kernel
theorem dX6_meanOfTurns_24 : decode cX6_meanOfTurns 24 = .ok (.getfield 9, 3) := by decide +kernel
theorem dX6_meanOfTurns_27 : decode cX6_meanOfTurns 27 = .ok (.iconst 0, 1) := by decide +kernel
theorem dX6_meanOfTurns_28 : decode cX6_meanOfTurns 28 = .ok (.iaload, 1) := by decide +kernel
theorem dX6_meanOfTurns_29 : decode cX6_meanOfTurns 29 = .ok (.aload_n 0, 1) := by decide +kernel
theorem dX6_meanOfTurns_30 : decode cX6_meanOfTurns 30 = .ok (.getfield 9, 3) := by decide +kernel
theorem dX6_meanOfTurns_33 : decode cX6_meanOfTurns 33 = .ok (.aload_n 0, 1) := by decide +kernel
theorem dX6_meanOfTurns_34 : decode cX6_meanOfTurns 34 = .ok (.getfield 22, 3) := by decide +kernel
theorem dX6_meanOfTurns_37 : decode cX6_meanOfTurns 37 = .ok (.iconst 1, 1) := by decide +kernel
theorem dX6_meanOfTurns_38 : decode cX6_meanOfTurns 38 = .ok (.isub, 1) := by decide +kernel
theorem dX6_meanOfTurns_39 : decode cX6_meanOfTurns 39 = .ok (.iaload, 1) := by decide +kernel
theorem dX6_meanOfTurns_40 : decode cX6_meanOfTurns 40 = .ok (.iadd, 1) := by decide +kernel
theorem dX6_meanOfTurns_41 : decode cX6_meanOfTurns 41 = .ok (.istore_n 1, 1) := by decide +kernel
theorem dX6_meanOfTurns_42 : decode cX6_meanOfTurns 42 = .ok (.iconst 1, 1) := by decide +kernel
theorem dX6_meanOfTurns_43 : decode cX6_meanOfTurns 43 = .ok (.istore_n 2, 1) := by decide +kernel
theorem dX6_meanOfTurns_44 : decode cX6_meanOfTurns 44 = .ok (.iload_n 2, 1) := by decide +kernel
theorem dX6_meanOfTurns_45 : decode cX6_meanOfTurns 45 = .ok (.aload_n 0, 1) := by decide +kernel
theorem dX6_meanOfTurns_46 : decode cX6_meanOfTurns 46 = .ok (.getfield 22, 3) := by decide +kernel
theorem dX6_meanOfTurns_49 : decode cX6_meanOfTurns 49 = .ok (.iconst 1, 1) := by decide +kernel
theorem dX6_meanOfTurns_50 : decode cX6_meanOfTurns 50 = .ok (.isub, 1) := by decide +kernel
theorem dX6_meanOfTurns_51 : decode cX6_meanOfTurns 51 = .ok (.if_icmp .ge 20, 3) := by decide +kernel
theorem dX6_meanOfTurns_54 : decode cX6_meanOfTurns 54 = .ok (.iload_n 1, 1) := by decide +kernel
theorem dX6_meanOfTurns_55 : decode cX6_meanOfTurns 55 = .ok (.iconst 2, 1) := by decide +kernel
theorem dX6_meanOfTurns_56 : decode cX6_meanOfTurns 56 = .ok (.aload_n 0, 1) := by decide +kernel
theorem dX6_meanOfTurns_57 : decode cX6_meanOfTurns 57 = .ok (.getfield 9, 3) := by decide +kernel
theorem dX6_meanOfTurns_60 : decode cX6_meanOfTurns 60 = .ok (.iload_n 2, 1) := by decide +kernel
theorem dX6_meanOfTurns_61 : decode cX6_meanOfTurns 61 = .ok (.iaload, 1) := by decide +kernel
theorem dX6_meanOfTurns_62 : decode cX6_meanOfTurns 62 = .ok (.imul, 1) := by decide +kernel
theorem dX6_meanOfTurns_63 : decode cX6_meanOfTurns 63 = .ok (.iadd, 1) := by decide +kernel
theorem dX6_meanOfTurns_64 : decode cX6_meanOfTurns 64 = .ok (.istore_n 1, 1) := by decide +kernel
theorem dX6_meanOfTurns_65 : decode cX6_meanOfTurns 65 = .ok (.iinc 2 1, 3) := by decide +kernel
theorem dX6_meanOfTurns_68 : decode cX6_meanOfTurns 68 = .ok (.goto (-24), 3) := by decide +kernel
theorem dX6_meanOfTurns_71 : decode cX6_meanOfTurns 71 = .ok (.iload_n 1, 1) := by decide +kernel
theorem dX6_meanOfTurns_72 : decode cX6_meanOfTurns 72 = .ok (.i2l, 1) := by decide +kernel
theorem dX6_meanOfTurns_73 : decode cX6_meanOfTurns 73 = .ok (.iconst 2, 1) := by decide +kernel
theorem dX6_meanOfTurns_74 : decode cX6_meanOfTurns 74 = .ok (.aload_n 0, 1) := by decide +kernel
theorem dX6_meanOfTurns_75 : decode cX6_meanOfTurns 75 = .ok (.getfield 22, 3) := by decide +kernel
theorem dX6_meanOfTurns_78 : decode cX6_meanOfTurns 78 = .ok (.iconst 1, 1) := by decide +kernel
theorem dX6_meanOfTurns_79 : decode cX6_meanOfTurns 79 = .ok (.isub, 1) := by decide +kernel
theorem dX6_meanOfTurns_80 : decode cX6_meanOfTurns 80 = .ok (.imul, 1) := by decide +kernel
theorem dX6_meanOfTurns_81 : decode cX6_meanOfTurns 81 = .ok (.i2l, 1) := by decide +kernel
theorem dX6_meanOfTurns_82 : decode cX6_meanOfTurns 82 = .ok (.invokestatic 48, 3) := by decide +kernel
theorem dX6_meanOfTurns_85 : decode cX6_meanOfTurns 85 = .ok (.ireturn, 1) := by decide +kernel
theorem dX6_greatestDifference_0 : decode cX6_greatestDifference 0 = .ok (.iconst 0, 1) := by decide +kernel
theorem dX6_greatestDifference_1 : decode cX6_greatestDifference 1 = .ok (.istore_n 1, 1) := by decide +kernel
theorem dX6_greatestDifference_2 : decode cX6_greatestDifference 2 = .ok (.iconst 2, 1) := by decide +kernel
theorem dX6_greatestDifference_3 : decode cX6_greatestDifference 3 = .ok (.istore_n 2, 1) := by decide +kernel
theorem dX6_greatestDifference_4 : decode cX6_greatestDifference 4 = .ok (.iload_n 2, 1) := by decide +kernel
theorem dX6_greatestDifference_5 : decode cX6_greatestDifference 5 = .ok (.aload_n 0, 1) := by decide +kernel
theorem dX6_greatestDifference_6 : decode cX6_greatestDifference 6 = .ok (.getfield 22, 3) := by decide +kernel
theorem dX6_greatestDifference_9 : decode cX6_greatestDifference 9 = .ok (.if_icmp .ge 41, 3) := by decide +kernel
theorem dX6_greatestDifference_12 : decode cX6_greatestDifference 12 = .ok (.iload_n 2, 1) := by decide +kernel
theorem dX6_greatestDifference_13 : decode cX6_greatestDifference 13 = .ok (.aload_n 0, 1) := by decide +kernel
theorem dX6_greatestDifference_14 : decode cX6_greatestDifference 14 = .ok (.getfield 9, 3) := by decide +kernel
theorem dX6_greatestDifference_17 : decode cX6_greatestDifference 17 = .ok (.arraylength, 1) := by decide +kernel
theorem dX6_greatestDifference_18 : decode cX6_greatestDifference 18 = .ok (.if_icmp .ge 32, 3) := by decide +kernel
theorem dX6_greatestDifference_21 : decode cX6_greatestDifference 21 = .ok (.iload_n 1, 1) := by decide +kernel
theorem dX6_greatestDifference_22 : decode cX6_greatestDifference 22 = .ok (.aload_n 0, 1) := by decide +kernel
theorem dX6_greatestDifference_23 : decode cX6_greatestDifference 23 = .ok (.getfield 9, 3) := by decide +kernel
theorem dX6_greatestDifference_26 : decode cX6_greatestDifference 26 = .ok (.iload_n 2, 1) := by decide +kernel
theorem dX6_greatestDifference_27 : decode cX6_greatestDifference 27 = .ok (.iaload, 1) := by decide +kernel
theorem dX6_greatestDifference_28 : decode cX6_greatestDifference 28 = .ok (.aload_n 0, 1) := by decide +kernel
theorem dX6_greatestDifference_29 : decode cX6_greatestDifference 29 = .ok (.getfield 9, 3) := by decide +kernel
theorem dX6_greatestDifference_32 : decode cX6_greatestDifference 32 = .ok (.iload_n 2, 1) := by decide +kernel
theorem dX6_greatestDifference_33 : decode cX6_greatestDifference 33 = .ok (.iconst 2, 1) := by decide +kernel
theorem dX6_greatestDifference_34 : decode cX6_greatestDifference 34 = .ok (.isub, 1) := by decide +kernel
theorem dX6_greatestDifference_35 : decode cX6_greatestDifference 35 = .ok (.iaload, 1) := by decide +kernel
theorem dX6_greatestDifference_36 : decode cX6_greatestDifference 36 = .ok (.isub, 1) := by decide +kernel
theorem dX6_greatestDifference_37 : decode cX6_greatestDifference 37 = .ok (.invokestatic 54, 3) := by decide +kernel
theorem dX6_greatestDifference_40 : decode cX6_greatestDifference 40 = .ok (.invokestatic 60, 3) := by decide +kernel
theorem dX6_greatestDifference_43 : decode cX6_greatestDifference 43 = .ok (.istore_n 1, 1) := by decide +kernel
theorem dX6_greatestDifference_44 : decode cX6_greatestDifference 44 = .ok (.iinc 2 1, 3) := by decide +kernel
theorem dX6_greatestDifference_47 : decode cX6_greatestDifference 47 = .ok (.goto (-43), 3) := by decide +kernel
theorem dX6_greatestDifference_50 : decode cX6_greatestDifference 50 = .ok (.iload_n 1, 1) := by decide +kernel
theorem dX6_greatestDifference_51 : decode cX6_greatestDifference 51 = .ok (.ireturn, 1) := by decide +kernel
theorem dX7_init_0 : decode cX7_init 0 = .ok (.aload_n 0, 1) := by decide +kernel
theorem dX7_init_1 : decode cX7_init 1 = .ok (.invokespecial 1, 3) := by decide +kernel
theorem dX7_init_4 : decode cX7_init 4 = .ok (.aload_n 0, 1) := by decide +kernel
theorem dX7_init_5 : decode cX7_init 5 = .ok (.new 7, 3) := by decide +kernel
theorem dX7_init_8 : decode cX7_init 8 = .ok (.dup, 1) := by decide +kernel
theorem dX7_init_9 : decode cX7_init 9 = .ok (.invokespecial 9, 3) := by decide +kernel
theorem dX7_init_12 : decode cX7_init 12 = .ok (.putfield 10, 3) := by decide +kernel
theorem dX7_init_15 : decode cX7_init 15 = .ok (.aload_n 0, 1) := by decide +kernel
theorem dX7_init_16 : decode cX7_init 16 = .ok (.new 16, 3) := by decide +kernel
theorem dX7_init_19 : decode cX7_init 19 = .ok (.dup, 1) := by decide +kernel
theorem dX7_init_20 : decode cX7_init 20 = .ok (.invokespecial 18, 3) := by decide +kernel
theorem dX7_init_23 : decode cX7_init 23 = .ok (.putfield 19, 3) := by decide +kernel
theorem dX7_init_26 : decode cX7_init 26 = .ok (.aload_n 0, 1) := by decide +kernel
theorem dX7_init_27 : decode cX7_init 27 = .ok (.new 23, 3) := by decide +kernel
theorem dX7_init_30 : decode cX7_init 30 = .ok (.dup, 1) := by decide +kernel
theorem dX7_init_31 : decode cX7_init 31 = .ok (.invokespecial 25, 3) := by decide +kernel
theorem dX7_init_34 : decode cX7_init 34 = .ok (.putfield 26, 3) := by decide +kernel
theorem dX7_init_37 : decode cX7_init 37 = .ok (.return_, 1) := by decide +kernel
theorem dX7_set_0 : decode cX7_set 0 = .ok (.aload_n 0, 1) := by decide +kernel
theorem dX7_set_1 : decode cX7_set 1 = .ok (.getfield 10, 3) := by decide +kernel
theorem dX7_set_4 : decode cX7_set 4 = .ok (.iload_n 1, 1) := by decide +kernel
theorem dX7_set_5 : decode cX7_set 5 = .ok (.iload_n 2, 1) := by decide +kernel
theorem dX7_set_6 : decode cX7_set 6 = .ok (.invokevirtual 30, 3) := by decide +kernel
theorem dX7_set_9 : decode cX7_set 9 = .ok (.ifCond .ne 13, 3) := by decide +kernel
theorem dX7_set_12 : decode cX7_set 12 = .ok (.new 34, 3) := by decide +kernel
theorem dX7_set_15 : decode cX7_set 15 = .ok (.dup, 1) := by decide +kernel
theorem dX7_set_16 : decode cX7_set 16 = .ok (.ldc 36, 2) := by decide +kernel
theorem dX7_set_18 : decode cX7_set 18 = .ok (.invokespecial 38, 3) := by decide +kernel
theorem dX7_set_21 : decode cX7_set 21 = .ok (.athrow, 1) := by decide +kernel
theorem dX7_set_22 : decode cX7_set 22 = .ok (.aload_n 0, 1) := by decide +kernel
theorem dX7_set_23 : decode cX7_set 23 = .ok (.getfield 19, 3) := by decide +kernel
theorem dX7_set_26 : decode cX7_set 26 = .ok (.aload_n 0, 1) := by decide +kernel
theorem dX7_set_27 : decode cX7_set 27 = .ok (.getfield 10, 3) := by decide +kernel
theorem dX7_set_30 : decode cX7_set 30 = .ok (.invokevirtual 41, 3) := by decide +kernel
theorem dX7_set_33 : decode cX7_set 33 = .ok (.aload_n 0, 1) := by decide +kernel
theorem dX7_set_34 : decode cX7_set 34 = .ok (.getfield 10, 3) := by decide +kernel
theorem dX7_set_37 : decode cX7_set 37 = .ok (.iload_n 1, 1) := by decide +kernel
theorem dX7_set_38 : decode cX7_set 38 = .ok (.iload_n 2, 1) := by decide +kernel
theorem dX7_set_39 : decode cX7_set 39 = .ok (.invokevirtual 45, 3) := by decide +kernel
theorem dX7_set_42 : decode cX7_set 42 = .ok (.istore_n 3, 1) := by decide +kernel
theorem dX7_set_43 : decode cX7_set 43 = .ok (.aload_n 0, 1) := by decide +kernel
theorem dX7_set_44 : decode cX7_set 44 = .ok (.getfield 10, 3) := by decide +kernel
theorem dX7_set_47 : decode cX7_set 47 = .ok (.invokevirtual 49, 3) := by decide +kernel
theorem dX7_set_50 : decode cX7_set 50 = .ok (.iload_n 3, 1) := by decide +kernel
theorem dX7_set_51 : decode cX7_set 51 = .ok (.ireturn, 1) := by decide +kernel
theorem dX7_info_0 : decode cX7_info 0 = .ok (.iload_n 1, 1) := by decide +kernel
theorem dX7_info_1 : decode cX7_info 1 = .ok (.iconst 0, 1) := by decide +kernel
theorem dX7_info_2 : decode cX7_info 2 = .ok (.bipush 7, 2) := by decide +kernel
theorem dX7_info_4 : decode cX7_info 4 = .ok (.invokestatic 52, 3) := by decide +kernel
theorem dX7_info_7 : decode cX7_info 7 = .ok (.ifCond .ne 13, 3) := by decide +kernel
theorem dX7_info_10 : decode cX7_info 10 = .ok (.new 34, 3) := by decide +kernel
theorem dX7_info_13 : decode cX7_info 13 = .ok (.dup, 1) := by decide +kernel
theorem dX7_info_14 : decode cX7_info 14 = .ok (.ldc 56, 2) := by decide +kernel
theorem dX7_info_16 : decode cX7_info 16 = .ok (.invokespecial 38, 3) := by decide +kernel
theorem dX7_info_19 : decode cX7_info 19 = .ok (.athrow, 1) := by decide +kernel
theorem dX7_info_20 : decode cX7_info 20 = .ok (.aload_n 0, 1) := by decide +kernel
theorem dX7_info_21 : decode cX7_info 21 = .ok (.getfield 10, 3) := by decide +kernel
theorem dX7_info_24 : decode cX7_info 24 = .ok (.iload_n 1, 1) := by decide +kernel
theorem dX7_info_25 : decode cX7_info 25 = .ok (.invokevirtual 58, 3) := by decide +kernel
theorem dX7_info_28 : decode cX7_info 28 = .ok (.ireturn, 1) := by decide +kernel
theorem dX7_hang_0 : decode cX7_hang 0 = .ok (.iload_n 1, 1) := by decide +kernel
theorem dX7_hang_1 : decode cX7_hang 1 = .ok (.ldc 62, 2) := by decide +kernel
theorem dX7_hang_3 : decode cX7_hang 3 = .ok (.ldc 63, 2) := by decide +kernel
theorem dX7_hang_5 : decode cX7_hang 5 = .ok (.invokestatic 52, 3) := by decide +kernel
theorem dX7_hang_8 : decode cX7_hang 8 = .ok (.ifCond .eq 14, 3) := by decide +kernel
theorem dX7_hang_11 : decode cX7_hang 11 = .ok (.iload_n 2, 1) := by decide +kernel
theorem dX7_hang_12 : decode cX7_hang 12 = .ok (.ldc 62, 2) := by decide +kernel
theorem dX7_hang_14 : decode cX7_hang 14 = .ok (.ldc 63, 2) := by decide +kernel
theorem dX7_hang_16 : decode cX7_hang 16 = .ok (.invokestatic 52, 3) := by decide +kernel
theorem dX7_hang_19 : decode cX7_hang 19 = .ok (.ifCond .ne 13, 3) := by decide +kernel
theorem dX7_hang_22 : decode cX7_hang 22 = .ok (.new 34, 3) := by decide +kernel
theorem dX7_hang_25 : decode cX7_hang 25 = .ok (.dup, 1) := by decide +kernel
theorem dX7_hang_26 : decode cX7_hang 26 = .ok (.ldc 64, 2) := by decide +kernel
theorem dX7_hang_28 : decode cX7_hang 28 = .ok (.invokespecial 38, 3) := by decide +kernel
theorem dX7_hang_31 : decode cX7_hang 31 = .ok (.athrow, 1) := by decide +kernel
theorem dX7_hang_32 : decode cX7_hang 32 = .ok (.aload_n 0, 1) := by decide +kernel
theorem dX7_hang_33 : decode cX7_hang 33 = .ok (.getfield 10, 3) := by decide +kernel
theorem dX7_hang_36 : decode cX7_hang 36 = .ok (.getfield 66, 3) := by decide +kernel
theorem dX7_hang_39 : decode cX7_hang 39 = .ok (.bipush 6, 2) := by decide +kernel
theorem dX7_hang_41 : decode cX7_hang 41 = .ok (.if_icmp .lt 13, 3) := by decide +kernel
theorem dX7_hang_44 : decode cX7_hang 44 = .ok (.new 70, 3) := by decide +kernel
theorem dX7_hang_47 : decode cX7_hang 47 = .ok (.dup, 1) := by decide +kernel
theorem dX7_hang_48 : decode cX7_hang 48 = .ok (.ldc 72, 2) := by decide +kernel
theorem dX7_hang_50 : decode cX7_hang 50 = .ok (.invokespecial 74, 3) := by decide +kernel
theorem dX7_hang_53 : decode cX7_hang 53 = .ok (.athrow, 1) := by decide +kernel
theorem dX7_hang_54 : decode cX7_hang 54 = .ok (.aload_n 0, 1) := by decide +kernel
theorem dX7_hang_55 : decode cX7_hang 55 = .ok (.getfield 19, 3) := by decide +kernel
theorem dX7_hang_58 : decode cX7_hang 58 = .ok (.aload_n 0, 1) := by decide +kernel
theorem dX7_hang_59 : decode cX7_hang 59 = .ok (.getfield 10, 3) := by decide +kernel
theorem dX7_hang_62 : decode cX7_hang 62 = .ok (.invokevirtual 41, 3) := by decide +kernel
theorem dX7_hang_65 : decode cX7_hang 65 = .ok (.aload_n 0, 1) := by decide +kernel
theorem dX7_hang_66 : decode cX7_hang 66 = .ok (.getfield 10, 3) := by decide +kernel
theorem dX7_hang_69 : decode cX7_hang 69 = .ok (.iload_n 1, 1) := by decide +kernel
theorem dX7_hang_70 : decode cX7_hang 70 = .ok (.iload_n 2, 1) := by decide +kernel
theorem dX7_hang_71 : decode cX7_hang 71 = .ok (.invokevirtual 75, 3) := by decide +kernel
theorem dX7_hang_74 : decode cX7_hang 74 = .ok (.istore_n 3, 1) := by decide +kernel
theorem dX7_hang_75 : decode cX7_hang 75 = .ok (.aload_n 0, 1) := by decide +kernel
theorem dX7_hang_76 : decode cX7_hang 76 = .ok (.getfield 10, 3) := by decide +kernel
theorem dX7_hang_79 : decode cX7_hang 79 = .ok (.invokevirtual 49, 3) := by decide +kernel
theorem dX7_hang_82 : decode cX7_hang 82 = .ok (.iload_n 3, 1) := by decide +kernel
theorem dX7_hang_83 : decode cX7_hang 83 = .ok (.ireturn, 1) := by decide +kernel
theorem dX7_swing_0 : decode cX7_swing 0 = .ok (.aload_n 0, 1) := by decide +kernel
theorem dX7_swing_1 : decode cX7_swing 1 = .ok (.bipush 116, 2) := by decide +kernel
theorem dX7_swing_3 : decode cX7_swing 3 = .ok (.iload_n 1, 1) := by decide +kernel
theorem dX7_swing_4 : decode cX7_swing 4 = .ok (.iload_n 2, 1) := by decide +kernel
theorem dX7_swing_5 : decode cX7_swing 5 = .ok (.iconst 0, 1) := by decide +kernel
theorem dX7_swing_6 : decode cX7_swing 6 = .ok (.invokevirtual 78, 3) := by decide +kernel
theorem dX7_swing_9 : decode cX7_swing 9 = .ok (.ireturn, 1) := by decide +kernel
theorem dX7_still_0 : decode cX7_still 0 = .ok (.aload_n 0, 1) := by decide +kernel
theorem dX7_still_1 : decode cX7_still 1 = .ok (.getfield 10, 3) := by decide +kernel
theorem dX7_still_4 : decode cX7_still 4 = .ok (.iload_n 1, 1) := by decide +kernel
theorem dX7_still_5 : decode cX7_still 5 = .ok (.invokevirtual 82, 3) := by decide +kernel
theorem dX7_still_8 : decode cX7_still 8 = .ok (.astore_n 2, 1) := by decide +kernel
theorem dX7_still_9 : decode cX7_still 9 = .ok (.aload_n 2, 1) := by decide +kernel
theorem dX7_still_10 : decode cX7_still 10 = .ok (.ifnonnull 13, 3) := by decide +kernel
theorem dX7_still_13 : decode cX7_still 13 = .ok (.new 86, 3) := by decide +kernel
theorem dX7_still_16 : decode cX7_still 16 = .ok (.dup, 1) := by decide +kernel
theorem dX7_still_17 : decode cX7_still 17 = .ok (.ldc 88, 2) := by decide +kernel
theorem dX7_still_19 : decode cX7_still 19 = .ok (.invokespecial 90, 3) := by decide +kernel
theorem dX7_still_22 : decode cX7_still 22 = .ok (.athrow, 1) := by decide +kernel
theorem dX7_still_23 : decode cX7_still 23 = .ok (.aload_n 0, 1) := by decide +kernel
theorem dX7_still_24 : decode cX7_still 24 = .ok (.getfield 19, 3) := by decide +kernel
theorem dX7_still_27 : decode cX7_still 27 = .ok (.aload_n 0, 1) := by decide +kernel
theorem dX7_still_28 : decode cX7_still 28 = .ok (.getfield 10, 3) := by decide +kernel
theorem dX7_still_31 : decode cX7_still 31 = .ok (.invokevirtual 41, 3) := by decide +kernel
theorem dX7_still_34 : decode cX7_still 34 = .ok (.aload_n 2, 1) := by decide +kernel
theorem dX7_still_35 : decode cX7_still 35 = .ok (.invokevirtual 91, 3) := by decide +kernel
theorem dX7_still_38 : decode cX7_still 38 = .ok (.istore_n 3, 1) := by decide +kernel
theorem dX7_still_39 : decode cX7_still 39 = .ok (.aload_n 0, 1) := by decide +kernel
theorem dX7_still_40 : decode cX7_still 40 = .ok (.getfield 10, 3) := by decide +kernel
theorem dX7_still_43 : decode cX7_still 43 = .ok (.invokevirtual 49, 3) := by decide +kernel
theorem dX7_still_46 : decode cX7_still 46 = .ok (.iload_n 3, 1) := by decide +kernel
theorem dX7_still_47 : decode cX7_still 47 = .ok (.ireturn, 1) := by decide +kernel
theorem dX7_wire_0 : decode cX7_wire 0 = .ok (.aload_n 0, 1) := by decide +kernel
theorem dX7_wire_1 : decode cX7_wire 1 = .ok (.getfield 10, 3) := by decide +kernel
theorem dX7_wire_4 : decode cX7_wire 4 = .ok (.iload_n 1, 1) := by decide +kernel
theorem dX7_wire_5 : decode cX7_wire 5 = .ok (.invokevirtual 82, 3) := by decide +kernel
theorem dX7_wire_8 : decode cX7_wire 8 = .ok (.astore_n 3, 1) := by decide +kernel
theorem dX7_wire_9 : decode cX7_wire 9 = .ok (.aload_n 3, 1) := by decide +kernel
theorem dX7_wire_10 : decode cX7_wire 10 = .ok (.ifnonnull 13, 3) := by decide +kernel
theorem dX7_wire_13 : decode cX7_wire 13 = .ok (.new 86, 3) := by decide +kernel
theorem dX7_wire_16 : decode cX7_wire 16 = .ok (.dup, 1) := by decide +kernel
theorem dX7_wire_17 : decode cX7_wire 17 = .ok (.ldc 88, 2) := by decide +kernel
theorem dX7_wire_19 : decode cX7_wire 19 = .ok (.invokespecial 90, 3) := by decide +kernel
theorem dX7_wire_22 : decode cX7_wire 22 = .ok (.athrow, 1) := by decide +kernel
theorem dX7_wire_23 : decode cX7_wire 23 = .ok (.iload_n 2, 1) := by decide +kernel
theorem dX7_wire_24 : decode cX7_wire 24 = .ok (.iconst 0, 1) := by decide +kernel
theorem dX7_wire_25 : decode cX7_wire 25 = .ok (.iconst 5, 1) := by decide +kernel
theorem dX7_wire_26 : decode cX7_wire 26 = .ok (.invokestatic 52, 3) := by decide +kernel
theorem dX7_wire_29 : decode cX7_wire 29 = .ok (.ifCond .ne 13, 3) := by decide +kernel
theorem dX7_wire_32 : decode cX7_wire 32 = .ok (.new 34, 3) := by decide +kernel
theorem dX7_wire_35 : decode cX7_wire 35 = .ok (.dup, 1) := by decide +kernel
theorem dX7_wire_36 : decode cX7_wire 36 = .ok (.ldc 97, 2) := by decide +kernel
theorem dX7_wire_38 : decode cX7_wire 38 = .ok (.invokespecial 38, 3) := by decide +kernel
theorem dX7_wire_41 : decode cX7_wire 41 = .ok (.athrow, 1) := by decide +kernel
theorem dX7_wire_42 : decode cX7_wire 42 = .ok (.aload_n 3, 1) := by decide +kernel
theorem dX7_wire_43 : decode cX7_wire 43 = .ok (.iload_n 2, 1) := by decide +kernel
theorem dX7_wire_44 : decode cX7_wire 44 = .ok (.invokevirtual 99, 3) := by decide +kernel
theorem dX7_wire_47 : decode cX7_wire 47 = .ok (.ireturn, 1) := by decide +kernel
theorem dX7_join_0 : decode cX7_join 0 = .ok (.aload_n 0, 1) := by decide +kernel
theorem dX7_join_1 : decode cX7_join 1 = .ok (.getfield 10, 3) := by decide +kernel
theorem dX7_join_4 : decode cX7_join 4 = .ok (.iload_n 1, 1) := by decide +kernel
theorem dX7_join_5 : decode cX7_join 5 = .ok (.invokevirtual 82, 3) := by decide +kernel
theorem dX7_join_8 : decode cX7_join 8 = .ok (.ifnull 14, 3) := by decide +kernel
theorem dX7_join_11 : decode cX7_join 11 = .ok (.aload_n 0, 1) := by decide +kernel
theorem dX7_join_12 : decode cX7_join 12 = .ok (.getfield 10, 3) := by decide +kernel
theorem dX7_join_15 : decode cX7_join 15 = .ok (.iload_n 2, 1) := by decide +kernel
theorem dX7_join_16 : decode cX7_join 16 = .ok (.invokevirtual 82, 3) := by decide +kernel
theorem dX7_join_19 : decode cX7_join 19 = .ok (.ifnonnull 13, 3) := by decide +kernel
theorem dX7_join_22 : decode cX7_join 22 = .ok (.new 86, 3) := by decide +kernel
theorem dX7_join_25 : decode cX7_join 25 = .ok (.dup, 1) := by decide +kernel
theorem dX7_join_26 : decode cX7_join 26 = .ok (.ldc 88, 2) := by decide +kernel
theorem dX7_join_28 : decode cX7_join 28 = .ok (.invokespecial 90, 3) := by decide +kernel
theorem dX7_join_31 : decode cX7_join 31 = .ok (.athrow, 1) := by decide +kernel
theorem dX7_join_32 : decode cX7_join 32 = .ok (.iload_n 1, 1) := by decide +kernel
theorem dX7_join_33 : decode cX7_join 33 = .ok (.iload_n 2, 1) := by decide +kernel
theorem dX7_join_34 : decode cX7_join 34 = .ok (.if_icmp .eq 43, 3) := by decide +kernel
theorem dX7_join_37 : decode cX7_join 37 = .ok (.iload_n 3, 1) := by decide +kernel
theorem dX7_join_38 : decode cX7_join 38 = .ok (.invokestatic 100, 3) := by decide +kernel
theorem dX7_join_41 : decode cX7_join 41 = .ok (.ifCond .eq 36, 3) := by decide +kernel
theorem dX7_join_44 : decode cX7_join 44 = .ok (.iload 4, 2) := by decide +kernel
theorem dX7_join_46 : decode cX7_join 46 = .ok (.bipush 100, 2) := by decide +kernel
theorem dX7_join_48 : decode cX7_join 48 = .ok (.sipush 20000, 3) := by decide +kernel
theorem dX7_join_51 : decode cX7_join 51 = .ok (.invokestatic 52, 3) := by decide +kernel
theorem dX7_join_54 : decode cX7_join 54 = .ok (.ifCond .eq 23, 3) := by decide +kernel
theorem dX7_join_57 : decode cX7_join 57 = .ok (.iload 5, 2) := by decide +kernel
theorem dX7_join_59 : decode cX7_join 59 = .ok (.bipush 100, 2) := by decide +kernel
theorem dX7_join_61 : decode cX7_join 61 = .ok (.ldc 104, 2) := by decide +kernel
theorem dX7_join_63 : decode cX7_join 63 = .ok (.invokestatic 52, 3) := by decide +kernel
theorem dX7_join_66 : decode cX7_join 66 = .ok (.ifCond .eq 11, 3) := by decide +kernel
theorem dX7_join_69 : decode cX7_join 69 = .ok (.iload 6, 2) := by decide +kernel
theorem dX7_join_71 : decode cX7_join 71 = .ok (.invokestatic 105, 3) := by decide +kernel
theorem dX7_join_74 : decode cX7_join 74 = .ok (.ifCond .ne 13, 3) := by decide +kernel
theorem dX7_join_77 : decode cX7_join 77 = .ok (.new 34, 3) := by decide +kernel
theorem dX7_join_80 : decode cX7_join 80 = .ok (.dup, 1) := by decide +kernel
theorem dX7_join_81 : decode cX7_join 81 = .ok (.ldc 108, 2) := by decide +kernel
theorem dX7_join_83 : decode cX7_join 83 = .ok (.invokespecial 38, 3) := by decide +kernel
theorem dX7_join_86 : decode cX7_join 86 = .ok (.athrow, 1) := by decide +kernel
theorem dX7_join_87 : decode cX7_join 87 = .ok (.aload_n 0, 1) := by decide +kernel
theorem dX7_join_88 : decode cX7_join 88 = .ok (.getfield 10, 3) := by decide +kernel
theorem dX7_join_91 : decode cX7_join 91 = .ok (.getfield 110, 3) := by decide +kernel
theorem dX7_join_94 : decode cX7_join 94 = .ok (.iconst 4, 1) := by decide +kernel
theorem dX7_join_95 : decode cX7_join 95 = .ok (.if_icmp .lt 13, 3) := by decide +kernel
theorem dX7_join_98 : decode cX7_join 98 = .ok (.new 70, 3) := by decide +kernel
theorem dX7_join_101 : decode cX7_join 101 = .ok (.dup, 1) := by decide +kernel
theorem dX7_join_102 : decode cX7_join 102 = .ok (.ldc 113, 2) := by decide +kernel
theorem dX7_join_104 : decode cX7_join 104 = .ok (.invokespecial 74, 3) := by decide +kernel
theorem dX7_join_107 : decode cX7_join 107 = .ok (.athrow, 1) := by decide +kernel
theorem dX7_join_108 : decode cX7_join 108 = .ok (.aload_n 0, 1) := by decide +kernel
theorem dX7_join_109 : decode cX7_join 109 = .ok (.getfield 19, 3) := by decide +kernel
theorem dX7_join_112 : decode cX7_join 112 = .ok (.aload_n 0, 1) := by decide +kernel
theorem dX7_join_113 : decode cX7_join 113 = .ok (.getfield 10, 3) := by decide +kernel
theorem dX7_join_116 : decode cX7_join 116 = .ok (.invokevirtual 41, 3) := by decide +kernel
theorem dX7_join_119 : decode cX7_join 119 = .ok (.aload_n 0, 1) := by decide +kernel
theorem dX7_join_120 : decode cX7_join 120 = .ok (.getfield 10, 3) := by decide +kernel
theorem dX7_join_123 : decode cX7_join 123 = .ok (.iload_n 1, 1) := by decide +kernel
theorem dX7_join_124 : decode cX7_join 124 = .ok (.iload_n 2, 1) := by decide +kernel
theorem dX7_join_125 : decode cX7_join 125 = .ok (.iload_n 3, 1) := by decide +kernel
theorem dX7_join_126 : decode cX7_join 126 = .ok (.iload 4, 2) := by decide +kernel
theorem dX7_join_128 : decode cX7_join 128 = .ok (.iload 5, 2) := by decide +kernel
theorem dX7_join_130 : decode cX7_join 130 = .ok (.iload 6, 2) := by decide +kernel
theorem dX7_join_132 : decode cX7_join 132 = .ok (.invokevirtual 115, 3) := by decide +kernel
theorem dX7_join_135 : decode cX7_join 135 = .ok (.istore 7, 2) := by decide +kernel
theorem dX7_join_137 : decode cX7_join 137 = .ok (.aload_n 0, 1) := by decide +kernel
theorem dX7_join_138 : decode cX7_join 138 = .ok (.getfield 10, 3) := by decide +kernel
theorem dX7_join_141 : decode cX7_join 141 = .ok (.invokevirtual 49, 3) := by decide +kernel
theorem dX7_join_144 : decode cX7_join 144 = .ok (.iload 7, 2) := by decide +kernel
theorem dX7_join_146 : decode cX7_join 146 = .ok (.ireturn, 1) := by decide +kernel
theorem dX7_measure_0 : decode cX7_measure 0 = .ok (.aload_n 0, 1) := by decide +kernel
theorem dX7_measure_1 : decode cX7_measure 1 = .ok (.getfield 10, 3) := by decide +kernel
theorem dX7_measure_4 : decode cX7_measure 4 = .ok (.iload_n 1, 1) := by decide +kernel
theorem dX7_measure_5 : decode cX7_measure 5 = .ok (.invokevirtual 119, 3) := by decide +kernel
theorem dX7_measure_8 : decode cX7_measure 8 = .ok (.astore_n 3, 1) := by decide +kernel
theorem dX7_measure_9 : decode cX7_measure 9 = .ok (.aload_n 3, 1) := by decide +kernel
theorem dX7_measure_10 : decode cX7_measure 10 = .ok (.ifnonnull 13, 3) := by decide +kernel
theorem dX7_measure_13 : decode cX7_measure 13 = .ok (.new 86, 3) := by decide +kernel
theorem dX7_measure_16 : decode cX7_measure 16 = .ok (.dup, 1) := by decide +kernel
theorem dX7_measure_17 : decode cX7_measure 17 = .ok (.ldc 123, 2) := by decide +kernel
theorem dX7_measure_19 : decode cX7_measure 19 = .ok (.invokespecial 90, 3) := by decide +kernel
theorem dX7_measure_22 : decode cX7_measure 22 = .ok (.athrow, 1) := by decide +kernel
theorem dX7_measure_23 : decode cX7_measure 23 = .ok (.iload_n 2, 1) := by decide +kernel
theorem dX7_measure_24 : decode cX7_measure 24 = .ok (.invokestatic 105, 3) := by decide +kernel
theorem dX7_measure_27 : decode cX7_measure 27 = .ok (.ifCond .ne 13, 3) := by decide +kernel
theorem dX7_measure_30 : decode cX7_measure 30 = .ok (.new 34, 3) := by decide +kernel
theorem dX7_measure_33 : decode cX7_measure 33 = .ok (.dup, 1) := by decide +kernel
theorem dX7_measure_34 : decode cX7_measure 34 = .ok (.ldc 125, 2) := by decide +kernel
theorem dX7_measure_36 : decode cX7_measure 36 = .ok (.invokespecial 38, 3) := by decide +kernel
theorem dX7_measure_39 : decode cX7_measure 39 = .ok (.athrow, 1) := by decide +kernel
theorem dX7_measure_40 : decode cX7_measure 40 = .ok (.aload_n 0, 1) := by decide +kernel
theorem dX7_measure_41 : decode cX7_measure 41 = .ok (.getfield 19, 3) := by decide +kernel
theorem dX7_measure_44 : decode cX7_measure 44 = .ok (.aload_n 0, 1) := by decide +kernel
theorem dX7_measure_45 : decode cX7_measure 45 = .ok (.getfield 10, 3) := by decide +kernel
theorem dX7_measure_48 : decode cX7_measure 48 = .ok (.invokevirtual 41, 3) := by decide +kernel
theorem dX7_measure_51 : decode cX7_measure 51 = .ok (.aload_n 3, 1) := by decide +kernel
theorem dX7_measure_52 : decode cX7_measure 52 = .ok (.getfield 127, 3) := by decide +kernel
theorem dX7_measure_55 : decode cX7_measure 55 = .ok (.istore 4, 2) := by decide +kernel
theorem dX7_measure_57 : decode cX7_measure 57 = .ok (.aload_n 3, 1) := by decide +kernel
theorem dX7_measure_58 : decode cX7_measure 58 = .ok (.iload_n 2, 1) := by decide +kernel
theorem dX7_measure_59 : decode cX7_measure 59 = .ok (.putfield 127, 3) := by decide +kernel
theorem dX7_measure_62 : decode cX7_measure 62 = .ok (.aload_n 0, 1) := by decide +kernel
theorem dX7_measure_63 : decode cX7_measure 63 = .ok (.getfield 10, 3) := by decide +kernel
theorem dX7_measure_66 : decode cX7_measure 66 = .ok (.invokevirtual 49, 3) := by decide +kernel
theorem dX7_measure_69 : decode cX7_measure 69 = .ok (.iload 4, 2) := by decide +kernel
theorem dX7_measure_71 : decode cX7_measure 71 = .ok (.ireturn, 1) := by decide +kernel
theorem dX7_joinOf_0 : decode cX7_joinOf 0 = .ok (.aload_n 0, 1) := by decide +kernel
theorem dX7_joinOf_1 : decode cX7_joinOf 1 = .ok (.getfield 10, 3) := by decide +kernel
theorem dX7_joinOf_4 : decode cX7_joinOf 4 = .ok (.iload_n 1, 1) := by decide +kernel
theorem dX7_joinOf_5 : decode cX7_joinOf 5 = .ok (.invokevirtual 119, 3) := by decide +kernel
theorem dX7_joinOf_8 : decode cX7_joinOf 8 = .ok (.astore_n 3, 1) := by decide +kernel
theorem dX7_joinOf_9 : decode cX7_joinOf 9 = .ok (.aload_n 3, 1) := by decide +kernel
theorem dX7_joinOf_10 : decode cX7_joinOf 10 = .ok (.ifnonnull 13, 3) := by decide +kernel
theorem dX7_joinOf_13 : decode cX7_joinOf 13 = .ok (.new 86, 3) := by decide +kernel
theorem dX7_joinOf_16 : decode cX7_joinOf 16 = .ok (.dup, 1) := by decide +kernel
theorem dX7_joinOf_17 : decode cX7_joinOf 17 = .ok (.ldc 123, 2) := by decide +kernel
theorem dX7_joinOf_19 : decode cX7_joinOf 19 = .ok (.invokespecial 90, 3) := by decide +kernel
theorem dX7_joinOf_22 : decode cX7_joinOf 22 = .ok (.athrow, 1) := by decide +kernel
theorem dX7_joinOf_23 : decode cX7_joinOf 23 = .ok (.iload_n 2, 1) := by decide +kernel
theorem dX7_joinOf_24 : decode cX7_joinOf 24 = .ok (.iconst 0, 1) := by decide +kernel
theorem dX7_joinOf_25 : decode cX7_joinOf 25 = .ok (.bipush 7, 2) := by decide +kernel
theorem dX7_joinOf_27 : decode cX7_joinOf 27 = .ok (.invokestatic 52, 3) := by decide +kernel
theorem dX7_joinOf_30 : decode cX7_joinOf 30 = .ok (.ifCond .ne 13, 3) := by decide +kernel
theorem dX7_joinOf_33 : decode cX7_joinOf 33 = .ok (.new 34, 3) := by decide +kernel
theorem dX7_joinOf_36 : decode cX7_joinOf 36 = .ok (.dup, 1) := by decide +kernel
theorem dX7_joinOf_37 : decode cX7_joinOf 37 = .ok (.ldc 56, 2) := by decide +kernel
theorem dX7_joinOf_39 : decode cX7_joinOf 39 = .ok (.invokespecial 38, 3) := by decide +kernel
theorem dX7_joinOf_42 : decode cX7_joinOf 42 = .ok (.athrow, 1) := by decide +kernel
theorem dX7_joinOf_43 : decode cX7_joinOf 43 = .ok (.aload_n 3, 1) := by decide +kernel
theorem dX7_joinOf_44 : decode cX7_joinOf 44 = .ok (.iload_n 2, 1) := by decide +kernel
theorem dX7_joinOf_45 : decode cX7_joinOf 45 = .ok (.invokevirtual 132, 3) := by decide +kernel
theorem dX7_joinOf_48 : decode cX7_joinOf 48 = .ok (.ireturn, 1) := by decide +kernel
theorem dX7_begin_0 : decode cX7_begin 0 = .ok (.aload_n 0, 1) := by decide +kernel
theorem dX7_begin_1 : decode cX7_begin 1 = .ok (.getfield 10, 3) := by decide +kernel
theorem dX7_begin_4 : decode cX7_begin 4 = .ok (.iload_n 1, 1) := by decide +kernel
theorem dX7_begin_5 : decode cX7_begin 5 = .ok (.invokevirtual 119, 3) := by decide +kernel
theorem dX7_begin_8 : decode cX7_begin 8 = .ok (.ifnonnull 13, 3) := by decide +kernel
theorem dX7_begin_11 : decode cX7_begin 11 = .ok (.new 86, 3) := by decide +kernel
theorem dX7_begin_14 : decode cX7_begin 14 = .ok (.dup, 1) := by decide +kernel
theorem dX7_begin_15 : decode cX7_begin 15 = .ok (.ldc 123, 2) := by decide +kernel
theorem dX7_begin_17 : decode cX7_begin 17 = .ok (.invokespecial 90, 3) := by decide +kernel
theorem dX7_begin_20 : decode cX7_begin 20 = .ok (.athrow, 1) := by decide +kernel
theorem dX7_begin_21 : decode cX7_begin 21 = .ok (.aload_n 0, 1) := by decide +kernel
theorem dX7_begin_22 : decode cX7_begin 22 = .ok (.getfield 10, 3) := by decide +kernel
theorem dX7_begin_25 : decode cX7_begin 25 = .ok (.getfield 133, 3) := by decide +kernel
theorem dX7_begin_28 : decode cX7_begin 28 = .ok (.iconst 4, 1) := by decide +kernel
theorem dX7_begin_29 : decode cX7_begin 29 = .ok (.if_icmp .lt 13, 3) := by decide +kernel
theorem dX7_begin_32 : decode cX7_begin 32 = .ok (.new 70, 3) := by decide +kernel
theorem dX7_begin_35 : decode cX7_begin 35 = .ok (.dup, 1) := by decide +kernel
theorem dX7_begin_36 : decode cX7_begin 36 = .ok (.ldc 136, 2) := by decide +kernel
theorem dX7_begin_38 : decode cX7_begin 38 = .ok (.invokespecial 74, 3) := by decide +kernel
theorem dX7_begin_41 : decode cX7_begin 41 = .ok (.athrow, 1) := by decide +kernel
theorem dX7_begin_42 : decode cX7_begin 42 = .ok (.aload_n 0, 1) := by decide +kernel
theorem dX7_begin_43 : decode cX7_begin 43 = .ok (.getfield 19, 3) := by decide +kernel
theorem dX7_begin_46 : decode cX7_begin 46 = .ok (.aload_n 0, 1) := by decide +kernel
theorem dX7_begin_47 : decode cX7_begin 47 = .ok (.getfield 10, 3) := by decide +kernel
theorem dX7_begin_50 : decode cX7_begin 50 = .ok (.invokevirtual 41, 3) := by decide +kernel
theorem dX7_begin_53 : decode cX7_begin 53 = .ok (.aload_n 0, 1) := by decide +kernel
theorem dX7_begin_54 : decode cX7_begin 54 = .ok (.getfield 10, 3) := by decide +kernel
theorem dX7_begin_57 : decode cX7_begin 57 = .ok (.iload_n 1, 1) := by decide +kernel
theorem dX7_begin_58 : decode cX7_begin 58 = .ok (.invokevirtual 138, 3) := by decide +kernel
theorem dX7_begin_61 : decode cX7_begin 61 = .ok (.istore_n 2, 1) := by decide +kernel
theorem dX7_begin_62 : decode cX7_begin 62 = .ok (.aload_n 0, 1) := by decide +kernel
theorem dX7_begin_63 : decode cX7_begin 63 = .ok (.getfield 10, 3) := by decide +kernel
theorem dX7_begin_66 : decode cX7_begin 66 = .ok (.invokevirtual 49, 3) := by decide +kernel
theorem dX7_begin_69 : decode cX7_begin 69 = .ok (.iload_n 2, 1) := by decide +kernel
theorem dX7_begin_70 : decode cX7_begin 70 = .ok (.ireturn, 1) := by decide +kernel
theorem dX7_addLeg_0 : decode cX7_addLeg 0 = .ok (.aload_n 0, 1) := by decide +kernel
theorem dX7_addLeg_1 : decode cX7_addLeg 1 = .ok (.bipush 108, 2) := by decide +kernel
theorem dX7_addLeg_3 : decode cX7_addLeg 3 = .ok (.iload_n 1, 1) := by decide +kernel
theorem dX7_addLeg_4 : decode cX7_addLeg 4 = .ok (.iload_n 2, 1) := by decide +kernel
theorem dX7_addLeg_5 : decode cX7_addLeg 5 = .ok (.iload_n 3, 1) := by decide +kernel
theorem dX7_addLeg_6 : decode cX7_addLeg 6 = .ok (.invokevirtual 78, 3) := by decide +kernel
theorem dX7_addLeg_9 : decode cX7_addLeg 9 = .ok (.ireturn, 1) := by decide +kernel
theorem dX7_dropLeg_0 : decode cX7_dropLeg 0 = .ok (.aload_n 0, 1) := by decide +kernel
theorem dX7_dropLeg_1 : decode cX7_dropLeg 1 = .ok (.bipush 107, 2) := by decide +kernel
theorem dX7_dropLeg_3 : decode cX7_dropLeg 3 = .ok (.iload_n 1, 1) := by decide +kernel
theorem dX7_dropLeg_4 : decode cX7_dropLeg 4 = .ok (.iconst 0, 1) := by decide +kernel
theorem dX7_dropLeg_5 : decode cX7_dropLeg 5 = .ok (.iconst 0, 1) := by decide +kernel
theorem dX7_dropLeg_6 : decode cX7_dropLeg 6 = .ok (.invokevirtual 78, 3) := by decide +kernel
theorem dX7_dropLeg_9 : decode cX7_dropLeg 9 = .ok (.ireturn, 1) := by decide +kernel
theorem dX7_close_0 : decode cX7_close 0 = .ok (.aload_n 0, 1) := by decide +kernel
theorem dX7_close_1 : decode cX7_close 1 = .ok (.getfield 10, 3) := by decide +kernel
theorem dX7_close_4 : decode cX7_close 4 = .ok (.iload_n 1, 1) := by decide +kernel
theorem dX7_close_5 : decode cX7_close 5 = .ok (.invokevirtual 141, 3) := by decide +kernel
theorem dX7_close_8 : decode cX7_close 8 = .ok (.astore 4, 2) := by decide +kernel
theorem dX7_close_10 : decode cX7_close 10 = .ok (.aload 4, 2) := by decide +kernel
theorem dX7_close_12 : decode cX7_close 12 = .ok (.ifnull 14, 3) := by decide +kernel
theorem dX7_close_15 : decode cX7_close 15 = .ok (.aload_n 0, 1) := by decide +kernel
theorem dX7_close_16 : decode cX7_close 16 = .ok (.getfield 10, 3) := by decide +kernel
theorem dX7_close_19 : decode cX7_close 19 = .ok (.iload_n 2, 1) := by decide +kernel
theorem dX7_close_20 : decode cX7_close 20 = .ok (.invokevirtual 119, 3) := by decide +kernel
theorem dX7_close_23 : decode cX7_close 23 = .ok (.ifnonnull 13, 3) := by decide +kernel
theorem dX7_close_26 : decode cX7_close 26 = .ok (.new 86, 3) := by decide +kernel
theorem dX7_close_29 : decode cX7_close 29 = .ok (.dup, 1) := by decide +kernel
theorem dX7_close_30 : decode cX7_close 30 = .ok (.ldc 145, 2) := by decide +kernel
theorem dX7_close_32 : decode cX7_close 32 = .ok (.invokespecial 90, 3) := by decide +kernel
theorem dX7_close_35 : decode cX7_close 35 = .ok (.athrow, 1) := by decide +kernel
theorem dX7_close_36 : decode cX7_close 36 = .ok (.iload_n 2, 1) := by decide +kernel
theorem dX7_close_37 : decode cX7_close 37 = .ok (.aload 4, 2) := by decide +kernel
theorem dX7_close_39 : decode cX7_close 39 = .ok (.getfield 147, 3) := by decide +kernel
theorem dX7_close_42 : decode cX7_close 42 = .ok (.if_icmp .eq 10, 3) := by decide +kernel
theorem dX7_close_45 : decode cX7_close 45 = .ok (.iload_n 3, 1) := by decide +kernel
theorem dX7_close_46 : decode cX7_close 46 = .ok (.invokestatic 100, 3) := by decide +kernel
theorem dX7_close_49 : decode cX7_close 49 = .ok (.ifCond .ne 13, 3) := by decide +kernel
theorem dX7_close_52 : decode cX7_close 52 = .ok (.new 34, 3) := by decide +kernel
theorem dX7_close_55 : decode cX7_close 55 = .ok (.dup, 1) := by decide +kernel
theorem dX7_close_56 : decode cX7_close 56 = .ok (.ldc 152, 2) := by decide +kernel
theorem dX7_close_58 : decode cX7_close 58 = .ok (.invokespecial 38, 3) := by decide +kernel
theorem dX7_close_61 : decode cX7_close 61 = .ok (.athrow, 1) := by decide +kernel
theorem dX7_close_62 : decode cX7_close 62 = .ok (.aload 4, 2) := by decide +kernel
theorem dX7_close_64 : decode cX7_close 64 = .ok (.getfield 154, 3) := by decide +kernel
theorem dX7_close_67 : decode cX7_close 67 = .ok (.ifCond .ne 13, 3) := by decide +kernel
theorem dX7_close_70 : decode cX7_close 70 = .ok (.new 70, 3) := by decide +kernel
theorem dX7_close_73 : decode cX7_close 73 = .ok (.dup, 1) := by decide +kernel
theorem dX7_close_74 : decode cX7_close 74 = .ok (.ldc 157, 2) := by decide +kernel
theorem dX7_close_76 : decode cX7_close 76 = .ok (.invokespecial 74, 3) := by decide +kernel
theorem dX7_close_79 : decode cX7_close 79 = .ok (.athrow, 1) := by decide +kernel
theorem dX7_close_80 : decode cX7_close 80 = .ok (.aload_n 0, 1) := by decide +kernel
theorem dX7_close_81 : decode cX7_close 81 = .ok (.getfield 19, 3) := by decide +kernel
theorem dX7_close_84 : decode cX7_close 84 = .ok (.aload_n 0, 1) := by decide +kernel
theorem dX7_close_85 : decode cX7_close 85 = .ok (.getfield 10, 3) := by decide +kernel
theorem dX7_close_88 : decode cX7_close 88 = .ok (.invokevirtual 41, 3) := by decide +kernel
theorem dX7_close_91 : decode cX7_close 91 = .ok (.aload 4, 2) := by decide +kernel
theorem dX7_close_93 : decode cX7_close 93 = .ok (.iload_n 2, 1) := by decide +kernel
theorem dX7_close_94 : decode cX7_close 94 = .ok (.iload_n 3, 1) := by decide +kernel
theorem dX7_close_95 : decode cX7_close 95 = .ok (.invokevirtual 159, 3) := by decide +kernel
theorem dX7_close_98 : decode cX7_close 98 = .ok (.aload_n 0, 1) := by decide +kernel
theorem dX7_close_99 : decode cX7_close 99 = .ok (.getfield 10, 3) := by decide +kernel
theorem dX7_close_102 : decode cX7_close 102 = .ok (.invokevirtual 49, 3) := by decide +kernel
theorem dX7_close_105 : decode cX7_close 105 = .ok (.aload 4, 2) := by decide +kernel
theorem dX7_close_107 : decode cX7_close 107 = .ok (.getfield 163, 3) := by decide +kernel
theorem dX7_close_110 : decode cX7_close 110 = .ok (.ireturn, 1) := by decide +kernel
theorem dX7_adjust_0 : decode cX7_adjust 0 = .ok (.aload_n 0, 1) := by decide +kernel
theorem dX7_adjust_1 : decode cX7_adjust 1 = .ok (.bipush 97, 2) := by decide +kernel
theorem dX7_adjust_3 : decode cX7_adjust 3 = .ok (.iload_n 1, 1) := by decide +kernel
theorem dX7_adjust_4 : decode cX7_adjust 4 = .ok (.iconst 0, 1) := by decide +kernel
theorem dX7_adjust_5 : decode cX7_adjust 5 = .ok (.iconst 0, 1) := by decide +kernel
theorem dX7_adjust_6 : decode cX7_adjust 6 = .ok (.invokevirtual 78, 3) := by decide +kernel
theorem dX7_adjust_9 : decode cX7_adjust 9 = .ok (.ireturn, 1) := by decide +kernel
theorem dX7_traverse_0 : decode cX7_traverse 0 = .ok (.aload_n 0, 1) := by decide +kernel
theorem dX7_traverse_1 : decode cX7_traverse 1 = .ok (.getfield 10, 3) := by decide +kernel
theorem dX7_traverse_4 : decode cX7_traverse 4 = .ok (.iload_n 1, 1) := by decide +kernel
theorem dX7_traverse_5 : decode cX7_traverse 5 = .ok (.invokevirtual 141, 3) := by decide +kernel
theorem dX7_traverse_8 : decode cX7_traverse 8 = .ok (.astore_n 3, 1) := by decide +kernel
theorem dX7_traverse_9 : decode cX7_traverse 9 = .ok (.aload_n 3, 1) := by decide +kernel
theorem dX7_traverse_10 : decode cX7_traverse 10 = .ok (.ifnonnull 13, 3) := by decide +kernel
theorem dX7_traverse_13 : decode cX7_traverse 13 = .ok (.new 86, 3) := by decide +kernel
theorem dX7_traverse_16 : decode cX7_traverse 16 = .ok (.dup, 1) := by decide +kernel
theorem dX7_traverse_17 : decode cX7_traverse 17 = .ok (.ldc 166, 2) := by decide +kernel
theorem dX7_traverse_19 : decode cX7_traverse 19 = .ok (.invokespecial 90, 3) := by decide +kernel
theorem dX7_traverse_22 : decode cX7_traverse 22 = .ok (.athrow, 1) := by decide +kernel
theorem dX7_traverse_23 : decode cX7_traverse 23 = .ok (.iload_n 2, 1) := by decide +kernel
theorem dX7_traverse_24 : decode cX7_traverse 24 = .ok (.iconst 0, 1) := by decide +kernel
theorem dX7_traverse_25 : decode cX7_traverse 25 = .ok (.bipush 9, 2) := by decide +kernel
theorem dX7_traverse_27 : decode cX7_traverse 27 = .ok (.invokestatic 52, 3) := by decide +kernel
theorem dX7_traverse_30 : decode cX7_traverse 30 = .ok (.ifCond .ne 13, 3) := by decide +kernel
theorem dX7_traverse_33 : decode cX7_traverse 33 = .ok (.new 34, 3) := by decide +kernel
theorem dX7_traverse_36 : decode cX7_traverse 36 = .ok (.dup, 1) := by decide +kernel
theorem dX7_traverse_37 : decode cX7_traverse 37 = .ok (.ldc 168, 2) := by decide +kernel
theorem dX7_traverse_39 : decode cX7_traverse 39 = .ok (.invokespecial 38, 3) := by decide +kernel
theorem dX7_traverse_42 : decode cX7_traverse 42 = .ok (.athrow, 1) := by decide +kernel
theorem dX7_traverse_43 : decode cX7_traverse 43 = .ok (.aload_n 3, 1) := by decide +kernel
theorem dX7_traverse_44 : decode cX7_traverse 44 = .ok (.iload_n 2, 1) := by decide +kernel
theorem dX7_traverse_45 : decode cX7_traverse 45 = .ok (.invokevirtual 170, 3) := by decide +kernel
theorem dX7_traverse_48 : decode cX7_traverse 48 = .ok (.ireturn, 1) := by decide +kernel
theorem dX7_leg_0 : decode cX7_leg 0 = .ok (.aload_n 0, 1) := by decide +kernel
theorem dX7_leg_1 : decode cX7_leg 1 = .ok (.getfield 10, 3) := by decide +kernel
theorem dX7_leg_4 : decode cX7_leg 4 = .ok (.iload_n 1, 1) := by decide +kernel
theorem dX7_leg_5 : decode cX7_leg 5 = .ok (.invokevirtual 141, 3) := by decide +kernel
theorem dX7_leg_8 : decode cX7_leg 8 = .ok (.astore 4, 2) := by decide +kernel
theorem dX7_leg_10 : decode cX7_leg 10 = .ok (.aload 4, 2) := by decide +kernel
theorem dX7_leg_12 : decode cX7_leg 12 = .ok (.ifnull 12, 3) := by decide +kernel
theorem dX7_leg_15 : decode cX7_leg 15 = .ok (.aload 4, 2) := by decide +kernel
theorem dX7_leg_17 : decode cX7_leg 17 = .ok (.iload_n 2, 1) := by decide +kernel
theorem dX7_leg_18 : decode cX7_leg 18 = .ok (.invokevirtual 171, 3) := by decide +kernel
theorem dX7_leg_21 : decode cX7_leg 21 = .ok (.ifCond .ne 13, 3) := by decide +kernel
theorem dX7_leg_24 : decode cX7_leg 24 = .ok (.new 86, 3) := by decide +kernel
theorem dX7_leg_27 : decode cX7_leg 27 = .ok (.dup, 1) := by decide +kernel
theorem dX7_leg_28 : decode cX7_leg 28 = .ok (.ldc 174, 2) := by decide +kernel
theorem dX7_leg_30 : decode cX7_leg 30 = .ok (.invokespecial 90, 3) := by decide +kernel
theorem dX7_leg_33 : decode cX7_leg 33 = .ok (.athrow, 1) := by decide +kernel
theorem dX7_leg_34 : decode cX7_leg 34 = .ok (.iload_n 3, 1) := by decide +kernel
theorem dX7_leg_35 : decode cX7_leg 35 = .ok (.iconst 0, 1) := by decide +kernel
theorem dX7_leg_36 : decode cX7_leg 36 = .ok (.iconst 4, 1) := by decide +kernel
theorem dX7_leg_37 : decode cX7_leg 37 = .ok (.invokestatic 52, 3) := by decide +kernel
theorem dX7_leg_40 : decode cX7_leg 40 = .ok (.ifCond .ne 13, 3) := by decide +kernel
theorem dX7_leg_43 : decode cX7_leg 43 = .ok (.new 34, 3) := by decide +kernel
theorem dX7_leg_46 : decode cX7_leg 46 = .ok (.dup, 1) := by decide +kernel
theorem dX7_leg_47 : decode cX7_leg 47 = .ok (.ldc 176, 2) := by decide +kernel
theorem dX7_leg_49 : decode cX7_leg 49 = .ok (.invokespecial 38, 3) := by decide +kernel
theorem dX7_leg_52 : decode cX7_leg 52 = .ok (.athrow, 1) := by decide +kernel
theorem dX7_leg_53 : decode cX7_leg 53 = .ok (.aload 4, 2) := by decide +kernel
theorem dX7_leg_55 : decode cX7_leg 55 = .ok (.iload_n 2, 1) := by decide +kernel
theorem dX7_leg_56 : decode cX7_leg 56 = .ok (.iload_n 3, 1) := by decide +kernel
theorem dX7_leg_57 : decode cX7_leg 57 = .ok (.invokevirtual 178, 3) := by decide +kernel
theorem dX7_leg_60 : decode cX7_leg 60 = .ok (.ireturn, 1) := by decide +kernel
theorem dX7_trouble_0 : decode cX7_trouble 0 = .ok (.aload_n 0, 1) := by decide +kernel
theorem dX7_trouble_1 : decode cX7_trouble 1 = .ok (.getfield 10, 3) := by decide +kernel
theorem dX7_trouble_4 : decode cX7_trouble 4 = .ok (.iload_n 1, 1) := by decide +kernel
theorem dX7_trouble_5 : decode cX7_trouble 5 = .ok (.invokevirtual 141, 3) := by decide +kernel
theorem dX7_trouble_8 : decode cX7_trouble 8 = .ok (.astore_n 3, 1) := by decide +kernel
theorem dX7_trouble_9 : decode cX7_trouble 9 = .ok (.aload_n 3, 1) := by decide +kernel
theorem dX7_trouble_10 : decode cX7_trouble 10 = .ok (.ifnonnull 13, 3) := by decide +kernel
theorem dX7_trouble_13 : decode cX7_trouble 13 = .ok (.new 86, 3) := by decide +kernel
theorem dX7_trouble_16 : decode cX7_trouble 16 = .ok (.dup, 1) := by decide +kernel
theorem dX7_trouble_17 : decode cX7_trouble 17 = .ok (.ldc 166, 2) := by decide +kernel
theorem dX7_trouble_19 : decode cX7_trouble 19 = .ok (.invokespecial 90, 3) := by decide +kernel
theorem dX7_trouble_22 : decode cX7_trouble 22 = .ok (.athrow, 1) := by decide +kernel
theorem dX7_trouble_23 : decode cX7_trouble 23 = .ok (.aload_n 0, 1) := by decide +kernel
theorem dX7_trouble_24 : decode cX7_trouble 24 = .ok (.getfield 10, 3) := by decide +kernel
theorem dX7_trouble_27 : decode cX7_trouble 27 = .ok (.aload_n 3, 1) := by decide +kernel
theorem dX7_trouble_28 : decode cX7_trouble 28 = .ok (.iload_n 2, 1) := by decide +kernel
theorem dX7_trouble_29 : decode cX7_trouble 29 = .ok (.invokevirtual 181, 3) := by decide +kernel
theorem dX7_trouble_32 : decode cX7_trouble 32 = .ok (.ireturn, 1) := by decide +kernel
theorem dX7_apart_0 : decode cX7_apart 0 = .ok (.aload_n 0, 1) := by decide +kernel
theorem dX7_apart_1 : decode cX7_apart 1 = .ok (.getfield 10, 3) := by decide +kernel
theorem dX7_apart_4 : decode cX7_apart 4 = .ok (.iload_n 1, 1) := by decide +kernel
theorem dX7_apart_5 : decode cX7_apart 5 = .ok (.invokevirtual 141, 3) := by decide +kernel
theorem dX7_apart_8 : decode cX7_apart 8 = .ok (.astore_n 3, 1) := by decide +kernel
theorem dX7_apart_9 : decode cX7_apart 9 = .ok (.aload_n 0, 1) := by decide +kernel
theorem dX7_apart_10 : decode cX7_apart 10 = .ok (.getfield 10, 3) := by decide +kernel
theorem dX7_apart_13 : decode cX7_apart 13 = .ok (.iload_n 2, 1) := by decide +kernel
theorem dX7_apart_14 : decode cX7_apart 14 = .ok (.invokevirtual 141, 3) := by decide +kernel
theorem dX7_apart_17 : decode cX7_apart 17 = .ok (.astore 4, 2) := by decide +kernel
theorem dX7_apart_19 : decode cX7_apart 19 = .ok (.aload_n 3, 1) := by decide +kernel
theorem dX7_apart_20 : decode cX7_apart 20 = .ok (.ifnull 8, 3) := by decide +kernel
theorem dX7_apart_23 : decode cX7_apart 23 = .ok (.aload 4, 2) := by decide +kernel
theorem dX7_apart_25 : decode cX7_apart 25 = .ok (.ifnonnull 13, 3) := by decide +kernel
theorem dX7_apart_28 : decode cX7_apart 28 = .ok (.new 86, 3) := by decide +kernel
theorem dX7_apart_31 : decode cX7_apart 31 = .ok (.dup, 1) := by decide +kernel
theorem dX7_apart_32 : decode cX7_apart 32 = .ok (.ldc 166, 2) := by decide +kernel
theorem dX7_apart_34 : decode cX7_apart 34 = .ok (.invokespecial 90, 3) := by decide +kernel
theorem dX7_apart_37 : decode cX7_apart 37 = .ok (.athrow, 1) := by decide +kernel
theorem dX7_apart_38 : decode cX7_apart 38 = .ok (.aload_n 3, 1) := by decide +kernel
theorem dX7_apart_39 : decode cX7_apart 39 = .ok (.aload 4, 2) := by decide +kernel
theorem dX7_apart_41 : decode cX7_apart 41 = .ok (.invokevirtual 185, 3) := by decide +kernel
theorem dX7_apart_44 : decode cX7_apart 44 = .ok (.ireturn, 1) := by decide +kernel
theorem dX7_meets_0 : decode cX7_meets 0 = .ok (.aload_n 0, 1) := by decide +kernel
theorem dX7_meets_1 : decode cX7_meets 1 = .ok (.getfield 10, 3) := by decide +kernel
theorem dX7_meets_4 : decode cX7_meets 4 = .ok (.iload_n 1, 1) := by decide +kernel
theorem dX7_meets_5 : decode cX7_meets 5 = .ok (.invokevirtual 141, 3) := by decide +kernel
theorem dX7_meets_8 : decode cX7_meets 8 = .ok (.astore_n 3, 1) := by decide +kernel
theorem dX7_meets_9 : decode cX7_meets 9 = .ok (.aload_n 0, 1) := by decide +kernel
theorem dX7_meets_10 : decode cX7_meets 10 = .ok (.getfield 10, 3) := by decide +kernel
theorem dX7_meets_13 : decode cX7_meets 13 = .ok (.iload_n 2, 1) := by decide +kernel
theorem dX7_meets_14 : decode cX7_meets 14 = .ok (.invokevirtual 141, 3) := by decide +kernel
theorem dX7_meets_17 : decode cX7_meets 17 = .ok (.astore 4, 2) := by decide +kernel
theorem dX7_meets_19 : decode cX7_meets 19 = .ok (.aload_n 3, 1) := by decide +kernel
theorem dX7_meets_20 : decode cX7_meets 20 = .ok (.ifnull 8, 3) := by decide +kernel
theorem dX7_meets_23 : decode cX7_meets 23 = .ok (.aload 4, 2) := by decide +kernel
theorem dX7_meets_25 : decode cX7_meets 25 = .ok (.ifnonnull 13, 3) := by decide +kernel
theorem dX7_meets_28 : decode cX7_meets 28 = .ok (.new 86, 3) := by decide +kernel
theorem dX7_meets_31 : decode cX7_meets 31 = .ok (.dup, 1) := by decide +kernel
theorem dX7_meets_32 : decode cX7_meets 32 = .ok (.ldc 166, 2) := by decide +kernel
theorem dX7_meets_34 : decode cX7_meets 34 = .ok (.invokespecial 90, 3) := by decide +kernel
theorem dX7_meets_37 : decode cX7_meets 37 = .ok (.athrow, 1) := by decide +kernel
theorem dX7_meets_38 : decode cX7_meets 38 = .ok (.aload_n 3, 1) := by decide +kernel
theorem dX7_meets_39 : decode cX7_meets 39 = .ok (.aload 4, 2) := by decide +kernel
theorem dX7_meets_41 : decode cX7_meets 41 = .ok (.invokevirtual 185, 3) := by decide +kernel
theorem dX7_meets_44 : decode cX7_meets 44 = .ok (.istore 5, 2) := by decide +kernel
theorem dX7_meets_46 : decode cX7_meets 46 = .ok (.iload 5, 2) := by decide +kernel
theorem dX7_meets_48 : decode cX7_meets 48 = .ok (.ldc 189, 2) := by decide +kernel
theorem dX7_meets_50 : decode cX7_meets 50 = .ok (.if_icmp .eq 21, 3) := by decide +kernel
theorem dX7_meets_53 : decode cX7_meets 53 = .ok (.iload 5, 2) := by decide +kernel
theorem dX7_meets_55 : decode cX7_meets 55 = .ok (.aload_n 0, 1) := by decide +kernel
theorem dX7_meets_56 : decode cX7_meets 56 = .ok (.getfield 10, 3) := by decide +kernel
theorem dX7_meets_59 : decode cX7_meets 59 = .ok (.getfield 190, 3) := by decide +kernel
theorem dX7_meets_62 : decode cX7_meets 62 = .ok (.iconst 2, 1) := by decide +kernel
theorem dX7_meets_63 : decode cX7_meets 63 = .ok (.iaload, 1) := by decide +kernel
theorem dX7_meets_64 : decode cX7_meets 64 = .ok (.if_icmp .gt 7, 3) := by decide +kernel
theorem dX7_meets_67 : decode cX7_meets 67 = .ok (.iconst 1, 1) := by decide +kernel
theorem dX7_meets_68 : decode cX7_meets 68 = .ok (.goto 4, 3) := by decide +kernel
theorem dX7_meets_71 : decode cX7_meets 71 = .ok (.iconst 0, 1) := by decide +kernel
theorem dX7_meets_72 : decode cX7_meets 72 = .ok (.ireturn, 1) := by decide +kernel
theorem dX7_sine_0 : decode cX7_sine 0 = .ok (.iload_n 1, 1) := by decide +kernel
theorem dX7_sine_1 : decode cX7_sine 1 = .ok (.ldc 194, 2) := by decide +kernel
theorem dX7_sine_3 : decode cX7_sine 3 = .ok (.ldc 195, 2) := by decide +kernel
theorem dX7_sine_5 : decode cX7_sine 5 = .ok (.invokestatic 52, 3) := by decide +kernel
theorem dX7_sine_8 : decode cX7_sine 8 = .ok (.ifCond .ne 13, 3) := by decide +kernel
theorem dX7_sine_11 : decode cX7_sine 11 = .ok (.new 34, 3) := by decide +kernel
theorem dX7_sine_14 : decode cX7_sine 14 = .ok (.dup, 1) := by decide +kernel
theorem dX7_sine_15 : decode cX7_sine 15 = .ok (.ldc 196, 2) := by decide +kernel
theorem dX7_sine_17 : decode cX7_sine 17 = .ok (.invokespecial 38, 3) := by decide +kernel
theorem dX7_sine_20 : decode cX7_sine 20 = .ok (.athrow, 1) := by decide +kernel
theorem dX7_sine_21 : decode cX7_sine 21 = .ok (.iload_n 1, 1) := by decide +kernel
theorem dX7_sine_22 : decode cX7_sine 22 = .ok (.invokestatic 198, 3) := by decide +kernel
theorem dX7_sine_25 : decode cX7_sine 25 = .ok (.ireturn, 1) := by decide +kernel
theorem dX7_suspect_0 : decode cX7_suspect 0 = .ok (.aload_n 0, 1) := by decide +kernel
theorem dX7_suspect_1 : decode cX7_suspect 1 = .ok (.getfield 10, 3) := by decide +kernel
theorem dX7_suspect_4 : decode cX7_suspect 4 = .ok (.iload_n 1, 1) := by decide +kernel
theorem dX7_suspect_5 : decode cX7_suspect 5 = .ok (.invokevirtual 141, 3) := by decide +kernel
theorem dX7_suspect_8 : decode cX7_suspect 8 = .ok (.astore_n 2, 1) := by decide +kernel
theorem dX7_suspect_9 : decode cX7_suspect 9 = .ok (.aload_n 2, 1) := by decide +kernel
theorem dX7_suspect_10 : decode cX7_suspect 10 = .ok (.ifnonnull 13, 3) := by decide +kernel
theorem dX7_suspect_13 : decode cX7_suspect 13 = .ok (.new 86, 3) := by decide +kernel
theorem dX7_suspect_16 : decode cX7_suspect 16 = .ok (.dup, 1) := by decide +kernel
theorem dX7_suspect_17 : decode cX7_suspect 17 = .ok (.ldc 166, 2) := by decide +kernel
theorem dX7_suspect_19 : decode cX7_suspect 19 = .ok (.invokespecial 90, 3) := by decide +kernel
theorem dX7_suspect_22 : decode cX7_suspect 22 = .ok (.athrow, 1) := by decide +kernel
theorem dX7_suspect_23 : decode cX7_suspect 23 = .ok (.aload_n 2, 1) := by decide +kernel
theorem dX7_suspect_24 : decode cX7_suspect 24 = .ok (.invokevirtual 203, 3) := by decide +kernel
theorem dX7_suspect_27 : decode cX7_suspect 27 = .ok (.ireturn, 1) := by decide +kernel
theorem dX7_angleFor_0 : decode cX7_angleFor 0 = .ok (.aload_n 0, 1) := by decide +kernel
theorem dX7_angleFor_1 : decode cX7_angleFor 1 = .ok (.getfield 10, 3) := by decide +kernel
theorem dX7_angleFor_4 : decode cX7_angleFor 4 = .ok (.iload_n 1, 1) := by decide +kernel
theorem dX7_angleFor_5 : decode cX7_angleFor 5 = .ok (.invokevirtual 141, 3) := by decide +kernel
theorem dX7_angleFor_8 : decode cX7_angleFor 8 = .ok (.astore 4, 2) := by decide +kernel
theorem dX7_angleFor_10 : decode cX7_angleFor 10 = .ok (.aload_n 0, 1) := by decide +kernel
theorem dX7_angleFor_11 : decode cX7_angleFor 11 = .ok (.getfield 10, 3) := by decide +kernel
theorem dX7_angleFor_14 : decode cX7_angleFor 14 = .ok (.iload_n 2, 1) := by decide +kernel
theorem dX7_angleFor_15 : decode cX7_angleFor 15 = .ok (.invokevirtual 119, 3) := by decide +kernel
theorem dX7_angleFor_18 : decode cX7_angleFor 18 = .ok (.astore 5, 2) := by decide +kernel
theorem dX7_angleFor_20 : decode cX7_angleFor 20 = .ok (.aload 4, 2) := by decide +kernel
theorem dX7_angleFor_22 : decode cX7_angleFor 22 = .ok (.ifnull 8, 3) := by decide +kernel
theorem dX7_angleFor_25 : decode cX7_angleFor 25 = .ok (.aload 5, 2) := by decide +kernel
theorem dX7_angleFor_27 : decode cX7_angleFor 27 = .ok (.ifnonnull 13, 3) := by decide +kernel
theorem dX7_angleFor_30 : decode cX7_angleFor 30 = .ok (.new 86, 3) := by decide +kernel
theorem dX7_angleFor_33 : decode cX7_angleFor 33 = .ok (.dup, 1) := by decide +kernel
theorem dX7_angleFor_34 : decode cX7_angleFor 34 = .ok (.ldc 145, 2) := by decide +kernel
theorem dX7_angleFor_36 : decode cX7_angleFor 36 = .ok (.invokespecial 90, 3) := by decide +kernel
theorem dX7_angleFor_39 : decode cX7_angleFor 39 = .ok (.athrow, 1) := by decide +kernel
theorem dX7_angleFor_40 : decode cX7_angleFor 40 = .ok (.iload_n 3, 1) := by decide +kernel
theorem dX7_angleFor_41 : decode cX7_angleFor 41 = .ok (.iconst 0, 1) := by decide +kernel
theorem dX7_angleFor_42 : decode cX7_angleFor 42 = .ok (.sipush 3600, 3) := by decide +kernel
theorem dX7_angleFor_45 : decode cX7_angleFor 45 = .ok (.invokestatic 52, 3) := by decide +kernel
theorem dX7_angleFor_48 : decode cX7_angleFor 48 = .ok (.ifCond .ne 13, 3) := by decide +kernel
theorem dX7_angleFor_51 : decode cX7_angleFor 51 = .ok (.new 34, 3) := by decide +kernel
theorem dX7_angleFor_54 : decode cX7_angleFor 54 = .ok (.dup, 1) := by decide +kernel
theorem dX7_angleFor_55 : decode cX7_angleFor 55 = .ok (.ldc 206, 2) := by decide +kernel
theorem dX7_angleFor_57 : decode cX7_angleFor 57 = .ok (.invokespecial 38, 3) := by decide +kernel
theorem dX7_angleFor_60 : decode cX7_angleFor 60 = .ok (.athrow, 1) := by decide +kernel
theorem dX7_angleFor_61 : decode cX7_angleFor 61 = .ok (.aload 4, 2) := by decide +kernel
theorem dX7_angleFor_63 : decode cX7_angleFor 63 = .ok (.iload_n 2, 1) := by decide +kernel
theorem dX7_angleFor_64 : decode cX7_angleFor 64 = .ok (.aload 5, 2) := by decide +kernel
theorem dX7_angleFor_66 : decode cX7_angleFor 66 = .ok (.iload_n 3, 1) := by decide +kernel
theorem dX7_angleFor_67 : decode cX7_angleFor 67 = .ok (.invokevirtual 208, 3) := by decide +kernel
theorem dX7_angleFor_70 : decode cX7_angleFor 70 = .ok (.ireturn, 1) := by decide +kernel
theorem dX7_reachBy_0 : decode cX7_reachBy 0 = .ok (.aload_n 0, 1) := by decide +kernel
theorem dX7_reachBy_1 : decode cX7_reachBy 1 = .ok (.getfield 10, 3) := by decide +kernel
theorem dX7_reachBy_4 : decode cX7_reachBy 4 = .ok (.iload_n 1, 1) := by decide +kernel
theorem dX7_reachBy_5 : decode cX7_reachBy 5 = .ok (.invokevirtual 141, 3) := by decide +kernel
theorem dX7_reachBy_8 : decode cX7_reachBy 8 = .ok (.astore 5, 2) := by decide +kernel
theorem dX7_reachBy_10 : decode cX7_reachBy 10 = .ok (.aload_n 0, 1) := by decide +kernel
theorem dX7_reachBy_11 : decode cX7_reachBy 11 = .ok (.getfield 10, 3) := by decide +kernel
theorem dX7_reachBy_14 : decode cX7_reachBy 14 = .ok (.iload_n 2, 1) := by decide +kernel
theorem dX7_reachBy_15 : decode cX7_reachBy 15 = .ok (.invokevirtual 141, 3) := by decide +kernel
theorem dX7_reachBy_18 : decode cX7_reachBy 18 = .ok (.astore 6, 2) := by decide +kernel
theorem dX7_reachBy_20 : decode cX7_reachBy 20 = .ok (.aload 5, 2) := by decide +kernel
theorem dX7_reachBy_22 : decode cX7_reachBy 22 = .ok (.ifnull 8, 3) := by decide +kernel
theorem dX7_reachBy_25 : decode cX7_reachBy 25 = .ok (.aload 6, 2) := by decide +kernel
theorem dX7_reachBy_27 : decode cX7_reachBy 27 = .ok (.ifnonnull 13, 3) := by decide +kernel
theorem dX7_reachBy_30 : decode cX7_reachBy 30 = .ok (.new 86, 3) := by decide +kernel
theorem dX7_reachBy_33 : decode cX7_reachBy 33 = .ok (.dup, 1) := by decide +kernel
theorem dX7_reachBy_34 : decode cX7_reachBy 34 = .ok (.ldc 166, 2) := by decide +kernel
theorem dX7_reachBy_36 : decode cX7_reachBy 36 = .ok (.invokespecial 90, 3) := by decide +kernel
theorem dX7_reachBy_39 : decode cX7_reachBy 39 = .ok (.athrow, 1) := by decide +kernel
theorem dX7_reachBy_40 : decode cX7_reachBy 40 = .ok (.iload_n 3, 1) := by decide +kernel
theorem dX7_reachBy_41 : decode cX7_reachBy 41 = .ok (.invokestatic 100, 3) := by decide +kernel
theorem dX7_reachBy_44 : decode cX7_reachBy 44 = .ok (.ifCond .eq 15, 3) := by decide +kernel
theorem dX7_reachBy_47 : decode cX7_reachBy 47 = .ok (.iload 4, 2) := by decide +kernel
theorem dX7_reachBy_49 : decode cX7_reachBy 49 = .ok (.iconst 1, 1) := by decide +kernel
theorem dX7_reachBy_50 : decode cX7_reachBy 50 = .ok (.sipush 2000, 3) := by decide +kernel
theorem dX7_reachBy_53 : decode cX7_reachBy 53 = .ok (.invokestatic 52, 3) := by decide +kernel
theorem dX7_reachBy_56 : decode cX7_reachBy 56 = .ok (.ifCond .ne 13, 3) := by decide +kernel
theorem dX7_reachBy_59 : decode cX7_reachBy 59 = .ok (.new 34, 3) := by decide +kernel
theorem dX7_reachBy_62 : decode cX7_reachBy 62 = .ok (.dup, 1) := by decide +kernel
theorem dX7_reachBy_63 : decode cX7_reachBy 63 = .ok (.ldc 212, 2) := by decide +kernel
theorem dX7_reachBy_65 : decode cX7_reachBy 65 = .ok (.invokespecial 38, 3) := by decide +kernel
theorem dX7_reachBy_68 : decode cX7_reachBy 68 = .ok (.athrow, 1) := by decide +kernel
theorem dX7_reachBy_69 : decode cX7_reachBy 69 = .ok (.aload 5, 2) := by decide +kernel
theorem dX7_reachBy_71 : decode cX7_reachBy 71 = .ok (.aload 6, 2) := by decide +kernel
theorem dX7_reachBy_73 : decode cX7_reachBy 73 = .ok (.iload_n 3, 1) := by decide +kernel
theorem dX7_reachBy_74 : decode cX7_reachBy 74 = .ok (.iload 4, 2) := by decide +kernel
theorem dX7_reachBy_76 : decode cX7_reachBy 76 = .ok (.invokevirtual 214, 3) := by decide +kernel
theorem dX7_reachBy_79 : decode cX7_reachBy 79 = .ok (.ireturn, 1) := by decide +kernel
theorem dX7_type_0 : decode cX7_type 0 = .ok (.iload_n 1, 1) := by decide +kernel
theorem dX7_type_1 : decode cX7_type 1 = .ok (.bipush 32, 2) := by decide +kernel
theorem dX7_type_3 : decode cX7_type 3 = .ok (.bipush 126, 2) := by decide +kernel
theorem dX7_type_5 : decode cX7_type 5 = .ok (.invokestatic 52, 3) := by decide +kernel
theorem dX7_type_8 : decode cX7_type 8 = .ok (.ifCond .ne 13, 3) := by decide +kernel
theorem dX7_type_11 : decode cX7_type 11 = .ok (.new 34, 3) := by decide +kernel
theorem dX7_type_14 : decode cX7_type 14 = .ok (.dup, 1) := by decide +kernel
theorem dX7_type_15 : decode cX7_type 15 = .ok (.ldc 218, 2) := by decide +kernel
theorem dX7_type_17 : decode cX7_type 17 = .ok (.invokespecial 38, 3) := by decide +kernel
theorem dX7_type_20 : decode cX7_type 20 = .ok (.athrow, 1) := by decide +kernel
theorem dX7_type_21 : decode cX7_type 21 = .ok (.aload_n 0, 1) := by decide +kernel
theorem dX7_type_22 : decode cX7_type 22 = .ok (.getfield 26, 3) := by decide +kernel
theorem dX7_type_25 : decode cX7_type 25 = .ok (.getfield 220, 3) := by decide +kernel
theorem dX7_type_28 : decode cX7_type 28 = .ok (.bipush 90, 2) := by decide +kernel
theorem dX7_type_30 : decode cX7_type 30 = .ok (.if_icmp .lt 13, 3) := by decide +kernel
theorem dX7_type_33 : decode cX7_type 33 = .ok (.new 70, 3) := by decide +kernel
theorem dX7_type_36 : decode cX7_type 36 = .ok (.dup, 1) := by decide +kernel
theorem dX7_type_37 : decode cX7_type 37 = .ok (.ldc 223, 2) := by decide +kernel
theorem dX7_type_39 : decode cX7_type 39 = .ok (.invokespecial 74, 3) := by decide +kernel
theorem dX7_type_42 : decode cX7_type 42 = .ok (.athrow, 1) := by decide +kernel
theorem dX7_type_43 : decode cX7_type 43 = .ok (.aload_n 0, 1) := by decide +kernel
theorem dX7_type_44 : decode cX7_type 44 = .ok (.getfield 26, 3) := by decide +kernel
theorem dX7_type_47 : decode cX7_type 47 = .ok (.iload_n 1, 1) := by decide +kernel
theorem dX7_type_48 : decode cX7_type 48 = .ok (.i2c, 1) := by decide +kernel
theorem dX7_type_49 : decode cX7_type 49 = .ok (.invokevirtual 225, 3) := by decide +kernel
theorem dX7_type_52 : decode cX7_type 52 = .ok (.ireturn, 1) := by decide +kernel
theorem dX7_clearText_0 : decode cX7_clearText 0 = .ok (.aload_n 0, 1) := by decide +kernel
theorem dX7_clearText_1 : decode cX7_clearText 1 = .ok (.getfield 26, 3) := by decide +kernel
theorem dX7_clearText_4 : decode cX7_clearText 4 = .ok (.invokevirtual 229, 3) := by decide +kernel
theorem dX7_clearText_7 : decode cX7_clearText 7 = .ok (.ireturn, 1) := by decide +kernel
theorem dX7_fault_0 : decode cX7_fault 0 = .ok (.aload_n 0, 1) := by decide +kernel
theorem dX7_fault_1 : decode cX7_fault 1 = .ok (.getfield 26, 3) := by decide +kernel
theorem dX7_fault_4 : decode cX7_fault 4 = .ok (.invokevirtual 232, 3) := by decide +kernel
theorem dX7_fault_7 : decode cX7_fault 7 = .ok (.ireturn, 1) := by decide +kernel
theorem dX7_run_0 : decode cX7_run 0 = .ok (.aload_n 0, 1) := by decide +kernel
theorem dX7_run_1 : decode cX7_run 1 = .ok (.getfield 26, 3) := by decide +kernel
theorem dX7_run_4 : decode cX7_run 4 = .ok (.invokevirtual 232, 3) := by decide +kernel
theorem dX7_run_7 : decode cX7_run 7 = .ok (.ldc 189, 2) := by decide +kernel
theorem dX7_run_9 : decode cX7_run 9 = .ok (.if_icmp .eq 13, 3) := by decide +kernel
theorem dX7_run_12 : decode cX7_run 12 = .ok (.new 34, 3) := by decide +kernel
theorem dX7_run_15 : decode cX7_run 15 = .ok (.dup, 1) := by decide +kernel
theorem dX7_run_16 : decode cX7_run 16 = .ok (.ldc 235, 2) := by decide +kernel
theorem dX7_run_18 : decode cX7_run 18 = .ok (.invokespecial 38, 3) := by decide +kernel
theorem dX7_run_21 : decode cX7_run 21 = .ok (.athrow, 1) := by decide +kernel
theorem dX7_run_22 : decode cX7_run 22 = .ok (.aload_n 0, 1) := by decide +kernel
theorem dX7_run_23 : decode cX7_run 23 = .ok (.getfield 19, 3) := by decide +kernel
theorem dX7_run_26 : decode cX7_run 26 = .ok (.aload_n 0, 1) := by decide +kernel
theorem dX7_run_27 : decode cX7_run 27 = .ok (.getfield 10, 3) := by decide +kernel
theorem dX7_run_30 : decode cX7_run 30 = .ok (.invokevirtual 41, 3) := by decide +kernel
theorem dX7_run_33 : decode cX7_run 33 = .ok (.iconst 0, 1) := by decide +kernel
theorem dX7_run_34 : decode cX7_run 34 = .ok (.istore_n 1, 1) := by decide +kernel
theorem dX7_run_35 : decode cX7_run 35 = .ok (.iconst 0, 1) := by decide +kernel
theorem dX7_run_36 : decode cX7_run 36 = .ok (.istore_n 2, 1) := by decide +kernel
theorem dX7_run_37 : decode cX7_run 37 = .ok (.iload_n 2, 1) := by decide +kernel
theorem dX7_run_38 : decode cX7_run 38 = .ok (.aload_n 0, 1) := by decide +kernel
theorem dX7_run_39 : decode cX7_run 39 = .ok (.getfield 26, 3) := by decide +kernel
theorem dX7_run_42 : decode cX7_run 42 = .ok (.getfield 220, 3) := by decide +kernel
theorem dX7_run_45 : decode cX7_run 45 = .ok (.if_icmp .ge 44, 3) := by decide +kernel
theorem dX7_run_48 : decode cX7_run 48 = .ok (.aload_n 0, 1) := by decide +kernel
theorem dX7_run_49 : decode cX7_run 49 = .ok (.getfield 26, 3) := by decide +kernel
theorem dX7_run_52 : decode cX7_run 52 = .ok (.iload_n 2, 1) := by decide +kernel
theorem dX7_run_53 : decode cX7_run 53 = .ok (.invokevirtual 237, 3) := by decide +kernel
theorem dX7_run_56 : decode cX7_run 56 = .ok (.ifCond .eq 27, 3) := by decide +kernel
theorem dX7_run_59 : decode cX7_run 59 = .ok (.aload_n 0, 1) := by decide +kernel
theorem dX7_run_60 : decode cX7_run 60 = .ok (.aload_n 0, 1) := by decide +kernel
theorem dX7_run_61 : decode cX7_run 61 = .ok (.getfield 26, 3) := by decide +kernel
theorem dX7_run_64 : decode cX7_run 64 = .ok (.getfield 240, 3) := by decide +kernel
theorem dX7_run_67 : decode cX7_run 67 = .ok (.aload_n 0, 1) := by decide +kernel
theorem dX7_run_68 : decode cX7_run 68 = .ok (.getfield 26, 3) := by decide +kernel
theorem dX7_run_71 : decode cX7_run 71 = .ok (.getfield 244, 3) := by decide +kernel
theorem dX7_run_74 : decode cX7_run 74 = .ok (.invokevirtual 247, 3) := by decide +kernel
theorem dX7_run_77 : decode cX7_run 77 = .ok (.ifCond .eq 6, 3) := by decide +kernel
theorem dX7_run_80 : decode cX7_run 80 = .ok (.iinc 1 1, 3) := by decide +kernel
theorem dX7_run_83 : decode cX7_run 83 = .ok (.iinc 2 1, 3) := by decide +kernel
theorem dX7_run_86 : decode cX7_run 86 = .ok (.goto (-49), 3) := by decide +kernel
theorem dX7_run_89 : decode cX7_run 89 = .ok (.iload_n 1, 1) := by decide +kernel
theorem dX7_run_90 : decode cX7_run 90 = .ok (.ireturn, 1) := by decide +kernel
theorem dX7_undo_0 : decode cX7_undo 0 = .ok (.aload_n 0, 1) := by decide +kernel
theorem dX7_undo_1 : decode cX7_undo 1 = .ok (.getfield 19, 3) := by decide +kernel
theorem dX7_undo_4 : decode cX7_undo 4 = .ok (.getfield 251, 3) := by decide +kernel
theorem dX7_undo_7 : decode cX7_undo 7 = .ok (.ifCond .ne 13, 3) := by decide +kernel
theorem dX7_undo_10 : decode cX7_undo 10 = .ok (.new 70, 3) := by decide +kernel
theorem dX7_undo_13 : decode cX7_undo 13 = .ok (.dup, 1) := by decide +kernel
theorem dX7_undo_14 : decode cX7_undo 14 = .ok (.ldc 254, 2) := by decide +kernel
theorem dX7_undo_16 : decode cX7_undo 16 = .ok (.invokespecial 74, 3) := by decide +kernel
theorem dX7_undo_19 : decode cX7_undo 19 = .ok (.athrow, 1) := by decide +kernel
theorem dX7_undo_20 : decode cX7_undo 20 = .ok (.aload_n 0, 1) := by decide +kernel
theorem dX7_undo_21 : decode cX7_undo 21 = .ok (.getfield 19, 3) := by decide +kernel
theorem dX7_undo_24 : decode cX7_undo 24 = .ok (.aload_n 0, 1) := by decide +kernel
theorem dX7_undo_25 : decode cX7_undo 25 = .ok (.getfield 10, 3) := by decide +kernel
theorem dX7_undo_28 : decode cX7_undo 28 = .ok (.invokevirtual 256, 3) := by decide +kernel
theorem dX7_undo_31 : decode cX7_undo 31 = .ok (.istore_n 1, 1) := by decide +kernel
theorem dX7_undo_32 : decode cX7_undo 32 = .ok (.aload_n 0, 1) := by decide +kernel
theorem dX7_undo_33 : decode cX7_undo 33 = .ok (.getfield 10, 3) := by decide +kernel
theorem dX7_undo_36 : decode cX7_undo 36 = .ok (.invokevirtual 49, 3) := by decide +kernel
theorem dX7_undo_39 : decode cX7_undo 39 = .ok (.iload_n 1, 1) := by decide +kernel
theorem dX7_undo_40 : decode cX7_undo 40 = .ok (.ireturn, 1) := by decide +kernel
theorem dX7_checksum_0 : decode cX7_checksum 0 = .ok (.ldc2_w 260, 3) := by decide +kernel
theorem dX7_checksum_3 : decode cX7_checksum 3 = .ok (.lstore_n 1, 1) := by decide +kernel
theorem dX7_checksum_4 : decode cX7_checksum 4 = .ok (.iconst 0, 1) := by decide +kernel
theorem dX7_checksum_5 : decode cX7_checksum 5 = .ok (.istore_n 3, 1) := by decide +kernel
theorem dX7_checksum_6 : decode cX7_checksum 6 = .ok (.iload_n 3, 1) := by decide +kernel
theorem dX7_checksum_7 : decode cX7_checksum 7 = .ok (.bipush 7, 2) := by decide +kernel
theorem dX7_checksum_9 : decode cX7_checksum 9 = .ok (.if_icmp .gt 25, 3) := by decide +kernel
theorem dX7_checksum_12 : decode cX7_checksum 12 = .ok (.ldc2_w 262, 3) := by decide +kernel
theorem dX7_checksum_15 : decode cX7_checksum 15 = .ok (.lload_n 1, 1) := by decide +kernel
theorem dX7_checksum_16 : decode cX7_checksum 16 = .ok (.lmul, 1) := by decide +kernel
theorem dX7_checksum_17 : decode cX7_checksum 17 = .ok (.aload_n 0, 1) := by decide +kernel
theorem dX7_checksum_18 : decode cX7_checksum 18 = .ok (.getfield 10, 3) := by decide +kernel
theorem dX7_checksum_21 : decode cX7_checksum 21 = .ok (.iload_n 3, 1) := by decide +kernel
theorem dX7_checksum_22 : decode cX7_checksum 22 = .ok (.invokevirtual 58, 3) := by decide +kernel
theorem dX7_checksum_25 : decode cX7_checksum 25 = .ok (.i2l, 1) := by decide +kernel
theorem dX7_checksum_26 : decode cX7_checksum 26 = .ok (.ladd, 1) := by decide +kernel
theorem dX7_checksum_27 : decode cX7_checksum 27 = .ok (.lstore_n 1, 1) := by decide +kernel
theorem dX7_checksum_28 : decode cX7_checksum 28 = .ok (.iinc 3 1, 3) := by decide +kernel
theorem dX7_checksum_31 : decode cX7_checksum 31 = .ok (.goto (-25), 3) := by decide +kernel
theorem dX7_checksum_34 : decode cX7_checksum 34 = .ok (.aload_n 0, 1) := by decide +kernel
theorem dX7_checksum_35 : decode cX7_checksum 35 = .ok (.lload_n 1, 1) := by decide +kernel
theorem dX7_checksum_36 : decode cX7_checksum 36 = .ok (.invokevirtual 264, 3) := by decide +kernel
theorem dX7_checksum_39 : decode cX7_checksum 39 = .ok (.lstore_n 1, 1) := by decide +kernel
theorem dX7_checksum_40 : decode cX7_checksum 40 = .ok (.aload_n 0, 1) := by decide +kernel
theorem dX7_checksum_41 : decode cX7_checksum 41 = .ok (.lload_n 1, 1) := by decide +kernel
theorem dX7_checksum_42 : decode cX7_checksum 42 = .ok (.invokevirtual 268, 3) := by decide +kernel
theorem dX7_checksum_45 : decode cX7_checksum 45 = .ok (.lstore_n 1, 1) := by decide +kernel
theorem dX7_checksum_46 : decode cX7_checksum 46 = .ok (.iconst 0, 1) := by decide +kernel
theorem dX7_checksum_47 : decode cX7_checksum 47 = .ok (.istore_n 3, 1) := by decide +kernel
theorem dX7_checksum_48 : decode cX7_checksum 48 = .ok (.iload_n 3, 1) := by decide +kernel
theorem dX7_checksum_49 : decode cX7_checksum 49 = .ok (.aload_n 0, 1) := by decide +kernel
theorem dX7_checksum_50 : decode cX7_checksum 50 = .ok (.getfield 10, 3) := by decide +kernel
theorem dX7_checksum_53 : decode cX7_checksum 53 = .ok (.getfield 133, 3) := by decide +kernel
theorem dX7_checksum_56 : decode cX7_checksum 56 = .ok (.if_icmp .ge 23, 3) := by decide +kernel
theorem dX7_checksum_59 : decode cX7_checksum 59 = .ok (.aload_n 0, 1) := by decide +kernel
theorem dX7_checksum_60 : decode cX7_checksum 60 = .ok (.lload_n 1, 1) := by decide +kernel
theorem dX7_checksum_61 : decode cX7_checksum 61 = .ok (.aload_n 0, 1) := by decide +kernel
theorem dX7_checksum_62 : decode cX7_checksum 62 = .ok (.getfield 10, 3) := by decide +kernel
theorem dX7_checksum_65 : decode cX7_checksum 65 = .ok (.iload_n 3, 1) := by decide +kernel
theorem dX7_checksum_66 : decode cX7_checksum 66 = .ok (.invokevirtual 141, 3) := by decide +kernel
theorem dX7_checksum_69 : decode cX7_checksum 69 = .ok (.invokevirtual 271, 3) := by decide +kernel
theorem dX7_checksum_72 : decode cX7_checksum 72 = .ok (.lstore_n 1, 1) := by decide +kernel
theorem dX7_checksum_73 : decode cX7_checksum 73 = .ok (.iinc 3 1, 3) := by decide +kernel
theorem dX7_checksum_76 : decode cX7_checksum 76 = .ok (.goto (-28), 3) := by decide +kernel
theorem dX7_checksum_79 : decode cX7_checksum 79 = .ok (.ldc2_w 262, 3) := by decide +kernel
theorem dX7_checksum_82 : decode cX7_checksum 82 = .ok (.lload_n 1, 1) := by decide +kernel
theorem dX7_checksum_83 : decode cX7_checksum 83 = .ok (.lmul, 1) := by decide +kernel
theorem dX7_checksum_84 : decode cX7_checksum 84 = .ok (.aload_n 0, 1) := by decide +kernel
theorem dX7_checksum_85 : decode cX7_checksum 85 = .ok (.getfield 26, 3) := by decide +kernel
theorem dX7_checksum_88 : decode cX7_checksum 88 = .ok (.getfield 220, 3) := by decide +kernel
theorem dX7_checksum_91 : decode cX7_checksum 91 = .ok (.i2l, 1) := by decide +kernel
theorem dX7_checksum_92 : decode cX7_checksum 92 = .ok (.ladd, 1) := by decide +kernel
theorem dX7_checksum_93 : decode cX7_checksum 93 = .ok (.lstore_n 1, 1) := by decide +kernel
theorem dX7_checksum_94 : decode cX7_checksum 94 = .ok (.ldc2_w 262, 3) := by decide +kernel
theorem dX7_checksum_97 : decode cX7_checksum 97 = .ok (.lload_n 1, 1) := by decide +kernel
theorem dX7_checksum_98 : decode cX7_checksum 98 = .ok (.lmul, 1) := by decide +kernel
theorem dX7_checksum_99 : decode cX7_checksum 99 = .ok (.aload_n 0, 1) := by decide +kernel
theorem dX7_checksum_100 : decode cX7_checksum 100 = .ok (.getfield 19, 3) := by decide +kernel
theorem dX7_checksum_103 : decode cX7_checksum 103 = .ok (.getfield 251, 3) := by decide +kernel
theorem dX7_checksum_106 : decode cX7_checksum 106 = .ok (.i2l, 1) := by decide +kernel
theorem dX7_checksum_107 : decode cX7_checksum 107 = .ok (.ladd, 1) := by decide +kernel
theorem dX7_checksum_108 : decode cX7_checksum 108 = .ok (.lreturn, 1) := by decide +kernel
theorem dX7_checkWires_0 : decode cX7_checkWires 0 = .ok (.lload_n 1, 1) := by decide +kernel
theorem dX7_checkWires_1 : decode cX7_checkWires 1 = .ok (.lstore_n 3, 1) := by decide +kernel
theorem dX7_checkWires_2 : decode cX7_checkWires 2 = .ok (.iconst 0, 1) := by decide +kernel
theorem dX7_checkWires_3 : decode cX7_checkWires 3 = .ok (.istore 5, 2) := by decide +kernel
theorem dX7_checkWires_5 : decode cX7_checkWires 5 = .ok (.iload 5, 2) := by decide +kernel
theorem dX7_checkWires_7 : decode cX7_checkWires 7 = .ok (.aload_n 0, 1) := by decide +kernel
theorem dX7_checkWires_8 : decode cX7_checkWires 8 = .ok (.getfield 10, 3) := by decide +kernel
theorem dX7_checkWires_11 : decode cX7_checkWires 11 = .ok (.getfield 66, 3) := by decide +kernel
theorem dX7_checkWires_14 : decode cX7_checkWires 14 = .ok (.if_icmp .ge 55, 3) := by decide +kernel
theorem dX7_checkWires_17 : decode cX7_checkWires 17 = .ok (.aload_n 0, 1) := by decide +kernel
theorem dX7_checkWires_18 : decode cX7_checkWires 18 = .ok (.getfield 10, 3) := by decide +kernel
theorem dX7_checkWires_21 : decode cX7_checkWires 21 = .ok (.iload 5, 2) := by decide +kernel
theorem dX7_checkWires_23 : decode cX7_checkWires 23 = .ok (.invokevirtual 82, 3) := by decide +kernel
theorem dX7_checkWires_26 : decode cX7_checkWires 26 = .ok (.astore 6, 2) := by decide +kernel
theorem dX7_checkWires_28 : decode cX7_checkWires 28 = .ok (.iconst 0, 1) := by decide +kernel
theorem dX7_checkWires_29 : decode cX7_checkWires 29 = .ok (.istore 7, 2) := by decide +kernel
theorem dX7_checkWires_31 : decode cX7_checkWires 31 = .ok (.iload 7, 2) := by decide +kernel
theorem dX7_checkWires_33 : decode cX7_checkWires 33 = .ok (.iconst 5, 1) := by decide +kernel
theorem dX7_checkWires_34 : decode cX7_checkWires 34 = .ok (.if_icmp .gt 29, 3) := by decide +kernel
theorem dX7_checkWires_37 : decode cX7_checkWires 37 = .ok (.aload 6, 2) := by decide +kernel
theorem dX7_checkWires_39 : decode cX7_checkWires 39 = .ok (.ifnull 24, 3) := by decide +kernel
theorem dX7_checkWires_42 : decode cX7_checkWires 42 = .ok (.ldc2_w 262, 3) := by decide +kernel
theorem dX7_checkWires_45 : decode cX7_checkWires 45 = .ok (.lload_n 3, 1) := by decide +kernel
theorem dX7_checkWires_46 : decode cX7_checkWires 46 = .ok (.lmul, 1) := by decide +kernel
theorem dX7_checkWires_47 : decode cX7_checkWires 47 = .ok (.aload 6, 2) := by decide +kernel
theorem dX7_checkWires_49 : decode cX7_checkWires 49 = .ok (.iload 7, 2) := by decide +kernel
theorem dX7_checkWires_51 : decode cX7_checkWires 51 = .ok (.invokevirtual 99, 3) := by decide +kernel
theorem dX7_checkWires_54 : decode cX7_checkWires 54 = .ok (.i2l, 1) := by decide +kernel
theorem dX7_checkWires_55 : decode cX7_checkWires 55 = .ok (.ladd, 1) := by decide +kernel
theorem dX7_checkWires_56 : decode cX7_checkWires 56 = .ok (.lstore_n 3, 1) := by decide +kernel
theorem dX7_checkWires_57 : decode cX7_checkWires 57 = .ok (.iinc 7 1, 3) := by decide +kernel
theorem dX7_checkWires_60 : decode cX7_checkWires 60 = .ok (.goto (-29), 3) := by decide +kernel
theorem dX7_checkWires_63 : decode cX7_checkWires 63 = .ok (.iinc 5 1, 3) := by decide +kernel
theorem dX7_checkWires_66 : decode cX7_checkWires 66 = .ok (.goto (-61), 3) := by decide +kernel
theorem dX7_checkWires_69 : decode cX7_checkWires 69 = .ok (.lload_n 3, 1) := by decide +kernel
theorem dX7_checkWires_70 : decode cX7_checkWires 70 = .ok (.lreturn, 1) := by decide +kernel
theorem dX7_checkJoins_0 : decode cX7_checkJoins 0 = .ok (.lload_n 1, 1) := by decide +kernel
theorem dX7_checkJoins_1 : decode cX7_checkJoins 1 = .ok (.lstore_n 3, 1) := by decide +kernel
theorem dX7_checkJoins_2 : decode cX7_checkJoins 2 = .ok (.iconst 0, 1) := by decide +kernel
theorem dX7_checkJoins_3 : decode cX7_checkJoins 3 = .ok (.istore 5, 2) := by decide +kernel
theorem dX7_checkJoins_5 : decode cX7_checkJoins 5 = .ok (.iload 5, 2) := by decide +kernel
theorem dX7_checkJoins_7 : decode cX7_checkJoins 7 = .ok (.aload_n 0, 1) := by decide +kernel
theorem dX7_checkJoins_8 : decode cX7_checkJoins 8 = .ok (.getfield 10, 3) := by decide +kernel
theorem dX7_checkJoins_11 : decode cX7_checkJoins 11 = .ok (.getfield 110, 3) := by decide +kernel
theorem dX7_checkJoins_14 : decode cX7_checkJoins 14 = .ok (.if_icmp .ge 56, 3) := by decide +kernel
theorem dX7_checkJoins_17 : decode cX7_checkJoins 17 = .ok (.aload_n 0, 1) := by decide +kernel
theorem dX7_checkJoins_18 : decode cX7_checkJoins 18 = .ok (.getfield 10, 3) := by decide +kernel
theorem dX7_checkJoins_21 : decode cX7_checkJoins 21 = .ok (.iload 5, 2) := by decide +kernel
theorem dX7_checkJoins_23 : decode cX7_checkJoins 23 = .ok (.invokevirtual 119, 3) := by decide +kernel
theorem dX7_checkJoins_26 : decode cX7_checkJoins 26 = .ok (.astore 6, 2) := by decide +kernel
theorem dX7_checkJoins_28 : decode cX7_checkJoins 28 = .ok (.iconst 0, 1) := by decide +kernel
theorem dX7_checkJoins_29 : decode cX7_checkJoins 29 = .ok (.istore 7, 2) := by decide +kernel
theorem dX7_checkJoins_31 : decode cX7_checkJoins 31 = .ok (.iload 7, 2) := by decide +kernel
theorem dX7_checkJoins_33 : decode cX7_checkJoins 33 = .ok (.bipush 7, 2) := by decide +kernel
theorem dX7_checkJoins_35 : decode cX7_checkJoins 35 = .ok (.if_icmp .gt 29, 3) := by decide +kernel
theorem dX7_checkJoins_38 : decode cX7_checkJoins 38 = .ok (.aload 6, 2) := by decide +kernel
theorem dX7_checkJoins_40 : decode cX7_checkJoins 40 = .ok (.ifnull 24, 3) := by decide +kernel
theorem dX7_checkJoins_43 : decode cX7_checkJoins 43 = .ok (.ldc2_w 262, 3) := by decide +kernel
theorem dX7_checkJoins_46 : decode cX7_checkJoins 46 = .ok (.lload_n 3, 1) := by decide +kernel
theorem dX7_checkJoins_47 : decode cX7_checkJoins 47 = .ok (.lmul, 1) := by decide +kernel
theorem dX7_checkJoins_48 : decode cX7_checkJoins 48 = .ok (.aload 6, 2) := by decide +kernel
theorem dX7_checkJoins_50 : decode cX7_checkJoins 50 = .ok (.iload 7, 2) := by decide +kernel
theorem dX7_checkJoins_52 : decode cX7_checkJoins 52 = .ok (.invokevirtual 132, 3) := by decide +kernel
theorem dX7_checkJoins_55 : decode cX7_checkJoins 55 = .ok (.i2l, 1) := by decide +kernel
theorem dX7_checkJoins_56 : decode cX7_checkJoins 56 = .ok (.ladd, 1) := by decide +kernel
theorem dX7_checkJoins_57 : decode cX7_checkJoins 57 = .ok (.lstore_n 3, 1) := by decide +kernel
theorem dX7_checkJoins_58 : decode cX7_checkJoins 58 = .ok (.iinc 7 1, 3) := by decide +kernel
theorem dX7_checkJoins_61 : decode cX7_checkJoins 61 = .ok (.goto (-30), 3) := by decide +kernel
theorem dX7_checkJoins_64 : decode cX7_checkJoins 64 = .ok (.iinc 5 1, 3) := by decide +kernel
theorem dX7_checkJoins_67 : decode cX7_checkJoins 67 = .ok (.goto (-62), 3) := by decide +kernel
theorem dX7_checkJoins_70 : decode cX7_checkJoins 70 = .ok (.lload_n 3, 1) := by decide +kernel
theorem dX7_checkJoins_71 : decode cX7_checkJoins 71 = .ok (.lreturn, 1) := by decide +kernel
theorem dX7_checkTraverse_0 : decode cX7_checkTraverse 0 = .ok (.lload_n 1, 1) := by decide +kernel
theorem dX7_checkTraverse_1 : decode cX7_checkTraverse 1 = .ok (.lstore 4, 2) := by decide +kernel
theorem dX7_checkTraverse_3 : decode cX7_checkTraverse 3 = .ok (.aload_n 3, 1) := by decide +kernel
theorem dX7_checkTraverse_4 : decode cX7_checkTraverse 4 = .ok (.ifnonnull 6, 3) := by decide +kernel
theorem dX7_checkTraverse_7 : decode cX7_checkTraverse 7 = .ok (.lload 4, 2) := by decide +kernel
theorem dX7_checkTraverse_9 : decode cX7_checkTraverse 9 = .ok (.lreturn, 1) := by decide +kernel
theorem dX7_checkTraverse_10 : decode cX7_checkTraverse 10 = .ok (.iconst 0, 1) := by decide +kernel
theorem dX7_checkTraverse_11 : decode cX7_checkTraverse 11 = .ok (.istore 6, 2) := by decide +kernel
theorem dX7_checkTraverse_13 : decode cX7_checkTraverse 13 = .ok (.iload 6, 2) := by decide +kernel
theorem dX7_checkTraverse_15 : decode cX7_checkTraverse 15 = .ok (.bipush 9, 2) := by decide +kernel
theorem dX7_checkTraverse_17 : decode cX7_checkTraverse 17 = .ok (.if_icmp .gt 25, 3) := by decide +kernel
theorem dX7_checkTraverse_20 : decode cX7_checkTraverse 20 = .ok (.ldc2_w 262, 3) := by decide +kernel
theorem dX7_checkTraverse_23 : decode cX7_checkTraverse 23 = .ok (.lload 4, 2) := by decide +kernel
theorem dX7_checkTraverse_25 : decode cX7_checkTraverse 25 = .ok (.lmul, 1) := by decide +kernel
theorem dX7_checkTraverse_26 : decode cX7_checkTraverse 26 = .ok (.aload_n 3, 1) := by decide +kernel
theorem dX7_checkTraverse_27 : decode cX7_checkTraverse 27 = .ok (.iload 6, 2) := by decide +kernel
theorem dX7_checkTraverse_29 : decode cX7_checkTraverse 29 = .ok (.invokevirtual 170, 3) := by decide +kernel
theorem dX7_checkTraverse_32 : decode cX7_checkTraverse 32 = .ok (.i2l, 1) := by decide +kernel
theorem dX7_checkTraverse_33 : decode cX7_checkTraverse 33 = .ok (.ladd, 1) := by decide +kernel
theorem dX7_checkTraverse_34 : decode cX7_checkTraverse 34 = .ok (.lstore 4, 2) := by decide +kernel
theorem dX7_checkTraverse_36 : decode cX7_checkTraverse 36 = .ok (.iinc 6 1, 3) := by decide +kernel
theorem dX7_checkTraverse_39 : decode cX7_checkTraverse 39 = .ok (.goto (-26), 3) := by decide +kernel
theorem dX7_checkTraverse_42 : decode cX7_checkTraverse 42 = .ok (.iconst 0, 1) := by decide +kernel
theorem dX7_checkTraverse_43 : decode cX7_checkTraverse 43 = .ok (.istore 6, 2) := by decide +kernel
theorem dX7_checkTraverse_45 : decode cX7_checkTraverse 45 = .ok (.iload 6, 2) := by decide +kernel
theorem dX7_checkTraverse_47 : decode cX7_checkTraverse 47 = .ok (.aload_n 3, 1) := by decide +kernel
theorem dX7_checkTraverse_48 : decode cX7_checkTraverse 48 = .ok (.getfield 154, 3) := by decide +kernel
theorem dX7_checkTraverse_51 : decode cX7_checkTraverse 51 = .ok (.if_icmp .ge 42, 3) := by decide +kernel
theorem dX7_checkTraverse_54 : decode cX7_checkTraverse 54 = .ok (.iconst 0, 1) := by decide +kernel
theorem dX7_checkTraverse_55 : decode cX7_checkTraverse 55 = .ok (.istore 7, 2) := by decide +kernel
theorem dX7_checkTraverse_57 : decode cX7_checkTraverse 57 = .ok (.iload 7, 2) := by decide +kernel
theorem dX7_checkTraverse_59 : decode cX7_checkTraverse 59 = .ok (.iconst 4, 1) := by decide +kernel
theorem dX7_checkTraverse_60 : decode cX7_checkTraverse 60 = .ok (.if_icmp .gt 27, 3) := by decide +kernel
theorem dX7_checkTraverse_63 : decode cX7_checkTraverse 63 = .ok (.ldc2_w 262, 3) := by decide +kernel
theorem dX7_checkTraverse_66 : decode cX7_checkTraverse 66 = .ok (.lload 4, 2) := by decide +kernel
theorem dX7_checkTraverse_68 : decode cX7_checkTraverse 68 = .ok (.lmul, 1) := by decide +kernel
theorem dX7_checkTraverse_69 : decode cX7_checkTraverse 69 = .ok (.aload_n 3, 1) := by decide +kernel
theorem dX7_checkTraverse_70 : decode cX7_checkTraverse 70 = .ok (.iload 6, 2) := by decide +kernel
theorem dX7_checkTraverse_72 : decode cX7_checkTraverse 72 = .ok (.iload 7, 2) := by decide +kernel
theorem dX7_checkTraverse_74 : decode cX7_checkTraverse 74 = .ok (.invokevirtual 178, 3) := by decide +kernel
theorem dX7_checkTraverse_77 : decode cX7_checkTraverse 77 = .ok (.i2l, 1) := by decide +kernel
theorem dX7_checkTraverse_78 : decode cX7_checkTraverse 78 = .ok (.ladd, 1) := by decide +kernel
theorem dX7_checkTraverse_79 : decode cX7_checkTraverse 79 = .ok (.lstore 4, 2) := by decide +kernel
theorem dX7_checkTraverse_81 : decode cX7_checkTraverse 81 = .ok (.iinc 7 1, 3) := by decide +kernel
theorem dX7_checkTraverse_84 : decode cX7_checkTraverse 84 = .ok (.goto (-27), 3) := by decide +kernel
theorem dX7_checkTraverse_87 : decode cX7_checkTraverse 87 = .ok (.iinc 6 1, 3) := by decide +kernel
theorem dX7_checkTraverse_90 : decode cX7_checkTraverse 90 = .ok (.goto (-45), 3) := by decide +kernel
theorem dX7_checkTraverse_93 : decode cX7_checkTraverse 93 = .ok (.ldc2_w 262, 3) := by decide +kernel
theorem dX7_checkTraverse_96 : decode cX7_checkTraverse 96 = .ok (.lload 4, 2) := by decide +kernel
theorem dX7_checkTraverse_98 : decode cX7_checkTraverse 98 = .ok (.lmul, 1) := by decide +kernel
theorem dX7_checkTraverse_99 : decode cX7_checkTraverse 99 = .ok (.aload_n 3, 1) := by decide +kernel
theorem dX7_checkTraverse_100 : decode cX7_checkTraverse 100 = .ok (.invokevirtual 203, 3) := by decide +kernel
theorem dX7_checkTraverse_103 : decode cX7_checkTraverse 103 = .ok (.i2l, 1) := by decide +kernel
theorem dX7_checkTraverse_104 : decode cX7_checkTraverse 104 = .ok (.ladd, 1) := by decide +kernel
theorem dX7_checkTraverse_105 : decode cX7_checkTraverse 105 = .ok (.lstore 4, 2) := by decide +kernel
theorem dX7_checkTraverse_107 : decode cX7_checkTraverse 107 = .ok (.iconst 0, 1) := by decide +kernel
theorem dX7_checkTraverse_108 : decode cX7_checkTraverse 108 = .ok (.istore 6, 2) := by decide +kernel
theorem dX7_checkTraverse_110 : decode cX7_checkTraverse 110 = .ok (.iload 6, 2) := by decide +kernel
theorem dX7_checkTraverse_112 : decode cX7_checkTraverse 112 = .ok (.iconst 2, 1) := by decide +kernel
theorem dX7_checkTraverse_113 : decode cX7_checkTraverse 113 = .ok (.if_icmp .gt 29, 3) := by decide +kernel
theorem dX7_checkTraverse_116 : decode cX7_checkTraverse 116 = .ok (.ldc2_w 262, 3) := by decide +kernel
theorem dX7_checkTraverse_119 : decode cX7_checkTraverse 119 = .ok (.lload 4, 2) := by decide +kernel
theorem dX7_checkTraverse_121 : decode cX7_checkTraverse 121 = .ok (.lmul, 1) := by decide +kernel
theorem dX7_checkTraverse_122 : decode cX7_checkTraverse 122 = .ok (.aload_n 0, 1) := by decide +kernel
theorem dX7_checkTraverse_123 : decode cX7_checkTraverse 123 = .ok (.getfield 10, 3) := by decide +kernel
theorem dX7_checkTraverse_126 : decode cX7_checkTraverse 126 = .ok (.aload_n 3, 1) := by decide +kernel
theorem dX7_checkTraverse_127 : decode cX7_checkTraverse 127 = .ok (.iload 6, 2) := by decide +kernel
theorem dX7_checkTraverse_129 : decode cX7_checkTraverse 129 = .ok (.invokevirtual 181, 3) := by decide +kernel
theorem dX7_checkTraverse_132 : decode cX7_checkTraverse 132 = .ok (.i2l, 1) := by decide +kernel
theorem dX7_checkTraverse_133 : decode cX7_checkTraverse 133 = .ok (.ladd, 1) := by decide +kernel
theorem dX7_checkTraverse_134 : decode cX7_checkTraverse 134 = .ok (.lstore 4, 2) := by decide +kernel
theorem dX7_checkTraverse_136 : decode cX7_checkTraverse 136 = .ok (.iinc 6 1, 3) := by decide +kernel
theorem dX7_checkTraverse_139 : decode cX7_checkTraverse 139 = .ok (.goto (-29), 3) := by decide +kernel
theorem dX7_checkTraverse_142 : decode cX7_checkTraverse 142 = .ok (.lload 4, 2) := by decide +kernel
theorem dX7_checkTraverse_144 : decode cX7_checkTraverse 144 = .ok (.lreturn, 1) := by decide +kernel
theorem dX7_order_0 : decode cX7_order 0 = .ok (.aload_n 0, 1) := by decide +kernel
theorem dX7_order_1 : decode cX7_order 1 = .ok (.iload_n 1, 1) := by decide +kernel
theorem dX7_order_2 : decode cX7_order 2 = .ok (.iload_n 2, 1) := by decide +kernel
theorem dX7_order_3 : decode cX7_order 3 = .ok (.iload_n 3, 1) := by decide +kernel
theorem dX7_order_4 : decode cX7_order 4 = .ok (.iload 4, 2) := by decide +kernel
theorem dX7_order_6 : decode cX7_order 6 = .ok (.invokevirtual 275, 3) := by decide +kernel
theorem dX7_order_9 : decode cX7_order 9 = .ok (.istore 5, 2) := by decide +kernel
theorem dX7_order_11 : decode cX7_order 11 = .ok (.iload 5, 2) := by decide +kernel
theorem dX7_order_13 : decode cX7_order 13 = .ok (.iconst 1, 1) := by decide +kernel
theorem dX7_order_14 : decode cX7_order 14 = .ok (.if_icmp .ne 14, 3) := by decide +kernel
theorem dX7_order_17 : decode cX7_order 17 = .ok (.new 86, 3) := by decide +kernel
theorem dX7_order_20 : decode cX7_order 20 = .ok (.dup, 1) := by decide +kernel
theorem dX7_order_21 : decode cX7_order 21 = .ok (.ldc_w 278, 3) := by decide +kernel
theorem dX7_order_24 : decode cX7_order 24 = .ok (.invokespecial 90, 3) := by decide +kernel
theorem dX7_order_27 : decode cX7_order 27 = .ok (.athrow, 1) := by decide +kernel
theorem dX7_order_28 : decode cX7_order 28 = .ok (.iload 5, 2) := by decide +kernel
theorem dX7_order_30 : decode cX7_order 30 = .ok (.iconst 2, 1) := by decide +kernel
theorem dX7_order_31 : decode cX7_order 31 = .ok (.if_icmp .ne 14, 3) := by decide +kernel
theorem dX7_order_34 : decode cX7_order 34 = .ok (.new 34, 3) := by decide +kernel
theorem dX7_order_37 : decode cX7_order 37 = .ok (.dup, 1) := by decide +kernel
theorem dX7_order_38 : decode cX7_order 38 = .ok (.ldc_w 280, 3) := by decide +kernel
theorem dX7_order_41 : decode cX7_order 41 = .ok (.invokespecial 38, 3) := by decide +kernel
theorem dX7_order_44 : decode cX7_order 44 = .ok (.athrow, 1) := by decide +kernel
theorem dX7_order_45 : decode cX7_order 45 = .ok (.iload 5, 2) := by decide +kernel
theorem dX7_order_47 : decode cX7_order 47 = .ok (.iconst 3, 1) := by decide +kernel
theorem dX7_order_48 : decode cX7_order 48 = .ok (.if_icmp .ne 14, 3) := by decide +kernel
theorem dX7_order_51 : decode cX7_order 51 = .ok (.new 70, 3) := by decide +kernel
theorem dX7_order_54 : decode cX7_order 54 = .ok (.dup, 1) := by decide +kernel
theorem dX7_order_55 : decode cX7_order 55 = .ok (.ldc_w 282, 3) := by decide +kernel
theorem dX7_order_58 : decode cX7_order 58 = .ok (.invokespecial 74, 3) := by decide +kernel
theorem dX7_order_61 : decode cX7_order 61 = .ok (.athrow, 1) := by decide +kernel
theorem dX7_order_62 : decode cX7_order 62 = .ok (.aload_n 0, 1) := by decide +kernel
theorem dX7_order_63 : decode cX7_order 63 = .ok (.getfield 19, 3) := by decide +kernel
theorem dX7_order_66 : decode cX7_order 66 = .ok (.aload_n 0, 1) := by decide +kernel
theorem dX7_order_67 : decode cX7_order 67 = .ok (.getfield 10, 3) := by decide +kernel
theorem dX7_order_70 : decode cX7_order 70 = .ok (.invokevirtual 41, 3) := by decide +kernel
theorem dX7_order_73 : decode cX7_order 73 = .ok (.aload_n 0, 1) := by decide +kernel
theorem dX7_order_74 : decode cX7_order 74 = .ok (.iload_n 1, 1) := by decide +kernel
theorem dX7_order_75 : decode cX7_order 75 = .ok (.iload_n 2, 1) := by decide +kernel
theorem dX7_order_76 : decode cX7_order 76 = .ok (.iload_n 3, 1) := by decide +kernel
theorem dX7_order_77 : decode cX7_order 77 = .ok (.iload 4, 2) := by decide +kernel
theorem dX7_order_79 : decode cX7_order 79 = .ok (.invokevirtual 284, 3) := by decide +kernel
theorem dX7_order_82 : decode cX7_order 82 = .ok (.istore 6, 2) := by decide +kernel
theorem dX7_order_84 : decode cX7_order 84 = .ok (.aload_n 0, 1) := by decide +kernel
theorem dX7_order_85 : decode cX7_order 85 = .ok (.getfield 10, 3) := by decide +kernel
theorem dX7_order_88 : decode cX7_order 88 = .ok (.invokevirtual 49, 3) := by decide +kernel
theorem dX7_order_91 : decode cX7_order 91 = .ok (.iload 6, 2) := by decide +kernel
theorem dX7_order_93 : decode cX7_order 93 = .ok (.ireturn, 1) := by decide +kernel
theorem dX7_obey_0 : decode cX7_obey 0 = .ok (.aload_n 2, 1) := by decide +kernel
theorem dX7_obey_1 : decode cX7_obey 1 = .ok (.arraylength, 1) := by decide +kernel
theorem dX7_obey_2 : decode cX7_obey 2 = .ok (.iconst 3, 1) := by decide +kernel
theorem dX7_obey_3 : decode cX7_obey 3 = .ok (.if_icmp .lt 20, 3) := by decide +kernel
theorem dX7_obey_6 : decode cX7_obey 6 = .ok (.aload_n 0, 1) := by decide +kernel
theorem dX7_obey_7 : decode cX7_obey 7 = .ok (.iload_n 1, 1) := by decide +kernel
theorem dX7_obey_8 : decode cX7_obey 8 = .ok (.aload_n 2, 1) := by decide +kernel
theorem dX7_obey_9 : decode cX7_obey 9 = .ok (.iconst 0, 1) := by decide +kernel
theorem dX7_obey_10 : decode cX7_obey 10 = .ok (.iaload, 1) := by decide +kernel
theorem dX7_obey_11 : decode cX7_obey 11 = .ok (.aload_n 2, 1) := by decide +kernel
theorem dX7_obey_12 : decode cX7_obey 12 = .ok (.iconst 1, 1) := by decide +kernel
theorem dX7_obey_13 : decode cX7_obey 13 = .ok (.iaload, 1) := by decide +kernel
theorem dX7_obey_14 : decode cX7_obey 14 = .ok (.aload_n 2, 1) := by decide +kernel
theorem dX7_obey_15 : decode cX7_obey 15 = .ok (.iconst 2, 1) := by decide +kernel
theorem dX7_obey_16 : decode cX7_obey 16 = .ok (.iaload, 1) := by decide +kernel
theorem dX7_obey_17 : decode cX7_obey 17 = .ok (.invokevirtual 275, 3) := by decide +kernel
theorem dX7_obey_20 : decode cX7_obey 20 = .ok (.ifCond .eq 5, 3) := by decide +kernel
theorem dX7_obey_23 : decode cX7_obey 23 = .ok (.iconst 0, 1) := by decide +kernel
theorem dX7_obey_24 : decode cX7_obey 24 = .ok (.ireturn, 1) := by decide +kernel
theorem dX7_obey_25 : decode cX7_obey 25 = .ok (.aload_n 0, 1) := by decide +kernel
theorem dX7_obey_26 : decode cX7_obey 26 = .ok (.iload_n 1, 1) := by decide +kernel
theorem dX7_obey_27 : decode cX7_obey 27 = .ok (.aload_n 2, 1) := by decide +kernel
theorem dX7_obey_28 : decode cX7_obey 28 = .ok (.iconst 0, 1) := by decide +kernel
theorem dX7_obey_29 : decode cX7_obey 29 = .ok (.iaload, 1) := by decide +kernel
theorem dX7_obey_30 : decode cX7_obey 30 = .ok (.aload_n 2, 1) := by decide +kernel
theorem dX7_obey_31 : decode cX7_obey 31 = .ok (.iconst 1, 1) := by decide +kernel
theorem dX7_obey_32 : decode cX7_obey 32 = .ok (.iaload, 1) := by decide +kernel
theorem dX7_obey_33 : decode cX7_obey 33 = .ok (.aload_n 2, 1) := by decide +kernel
theorem dX7_obey_34 : decode cX7_obey 34 = .ok (.iconst 2, 1) := by decide +kernel
theorem dX7_obey_35 : decode cX7_obey 35 = .ok (.iaload, 1) := by decide +kernel
theorem dX7_obey_36 : decode cX7_obey 36 = .ok (.invokevirtual 284, 3) := by decide +kernel
theorem dX7_obey_39 : decode cX7_obey 39 = .ok (.pop, 1) := by decide +kernel
theorem dX7_obey_40 : decode cX7_obey 40 = .ok (.aload_n 0, 1) := by decide +kernel
theorem dX7_obey_41 : decode cX7_obey 41 = .ok (.getfield 10, 3) := by decide +kernel
theorem dX7_obey_44 : decode cX7_obey 44 = .ok (.invokevirtual 49, 3) := by decide +kernel
theorem dX7_obey_47 : decode cX7_obey 47 = .ok (.iconst 1, 1) := by decide +kernel
theorem dX7_obey_48 : decode cX7_obey 48 = .ok (.ireturn, 1) := by decide +kernel
theorem dX7_refusalOf_0 : decode cX7_refusalOf 0 = .ok (.iload_n 1, 1) := by decide +kernel
theorem dX7_refusalOf_1 : decode cX7_refusalOf 1 = .ok (.bipush 116, 2) := by decide +kernel
theorem dX7_refusalOf_3 : decode cX7_refusalOf 3 = .ok (.if_icmp .ne 16, 3) := by decide +kernel
theorem dX7_refusalOf_6 : decode cX7_refusalOf 6 = .ok (.aload_n 0, 1) := by decide +kernel
theorem dX7_refusalOf_7 : decode cX7_refusalOf 7 = .ok (.getfield 10, 3) := by decide +kernel
theorem dX7_refusalOf_10 : decode cX7_refusalOf 10 = .ok (.iload_n 2, 1) := by decide +kernel
theorem dX7_refusalOf_11 : decode cX7_refusalOf 11 = .ok (.invokevirtual 82, 3) := by decide +kernel
theorem dX7_refusalOf_14 : decode cX7_refusalOf 14 = .ok (.iload_n 3, 1) := by decide +kernel
theorem dX7_refusalOf_15 : decode cX7_refusalOf 15 = .ok (.invokestatic 287, 3) := by decide +kernel
theorem dX7_refusalOf_18 : decode cX7_refusalOf 18 = .ok (.ireturn, 1) := by decide +kernel
theorem dX7_refusalOf_19 : decode cX7_refusalOf 19 = .ok (.aload_n 0, 1) := by decide +kernel
theorem dX7_refusalOf_20 : decode cX7_refusalOf 20 = .ok (.getfield 10, 3) := by decide +kernel
theorem dX7_refusalOf_23 : decode cX7_refusalOf 23 = .ok (.iload_n 2, 1) := by decide +kernel
theorem dX7_refusalOf_24 : decode cX7_refusalOf 24 = .ok (.invokevirtual 141, 3) := by decide +kernel
theorem dX7_refusalOf_27 : decode cX7_refusalOf 27 = .ok (.astore 5, 2) := by decide +kernel
theorem dX7_refusalOf_29 : decode cX7_refusalOf 29 = .ok (.aload 5, 2) := by decide +kernel
theorem dX7_refusalOf_31 : decode cX7_refusalOf 31 = .ok (.ifnonnull 5, 3) := by decide +kernel
theorem dX7_refusalOf_34 : decode cX7_refusalOf 34 = .ok (.iconst 1, 1) := by decide +kernel
theorem dX7_refusalOf_35 : decode cX7_refusalOf 35 = .ok (.ireturn, 1) := by decide +kernel
theorem dX7_refusalOf_36 : decode cX7_refusalOf 36 = .ok (.iload_n 1, 1) := by decide +kernel
theorem dX7_refusalOf_37 : decode cX7_refusalOf 37 = .ok (.bipush 108, 2) := by decide +kernel
theorem dX7_refusalOf_39 : decode cX7_refusalOf 39 = .ok (.if_icmp .ne 12, 3) := by decide +kernel
theorem dX7_refusalOf_42 : decode cX7_refusalOf 42 = .ok (.aload 5, 2) := by decide +kernel
theorem dX7_refusalOf_44 : decode cX7_refusalOf 44 = .ok (.iload_n 3, 1) := by decide +kernel
theorem dX7_refusalOf_45 : decode cX7_refusalOf 45 = .ok (.iload 4, 2) := by decide +kernel
theorem dX7_refusalOf_47 : decode cX7_refusalOf 47 = .ok (.invokestatic 291, 3) := by decide +kernel
theorem dX7_refusalOf_50 : decode cX7_refusalOf 50 = .ok (.ireturn, 1) := by decide +kernel
theorem dX7_refusalOf_51 : decode cX7_refusalOf 51 = .ok (.iload_n 1, 1) := by decide +kernel
theorem dX7_refusalOf_52 : decode cX7_refusalOf 52 = .ok (.bipush 107, 2) := by decide +kernel
theorem dX7_refusalOf_54 : decode cX7_refusalOf 54 = .ok (.if_icmp .ne 17, 3) := by decide +kernel
theorem dX7_refusalOf_57 : decode cX7_refusalOf 57 = .ok (.aload 5, 2) := by decide +kernel
theorem dX7_refusalOf_59 : decode cX7_refusalOf 59 = .ok (.getfield 154, 3) := by decide +kernel
theorem dX7_refusalOf_62 : decode cX7_refusalOf 62 = .ok (.ifCond .ne 7, 3) := by decide +kernel
theorem dX7_refusalOf_65 : decode cX7_refusalOf 65 = .ok (.iconst 3, 1) := by decide +kernel
theorem dX7_refusalOf_66 : decode cX7_refusalOf 66 = .ok (.goto 4, 3) := by decide +kernel
theorem dX7_refusalOf_69 : decode cX7_refusalOf 69 = .ok (.iconst 0, 1) := by decide +kernel
theorem dX7_refusalOf_70 : decode cX7_refusalOf 70 = .ok (.ireturn, 1) := by decide +kernel
theorem dX7_refusalOf_71 : decode cX7_refusalOf 71 = .ok (.aload 5, 2) := by decide +kernel
theorem dX7_refusalOf_73 : decode cX7_refusalOf 73 = .ok (.invokevirtual 294, 3) := by decide +kernel
theorem dX7_refusalOf_76 : decode cX7_refusalOf 76 = .ok (.ifCond .eq 15, 3) := by decide +kernel
theorem dX7_refusalOf_79 : decode cX7_refusalOf 79 = .ok (.aload 5, 2) := by decide +kernel
theorem dX7_refusalOf_81 : decode cX7_refusalOf 81 = .ok (.getfield 163, 3) := by decide +kernel
theorem dX7_refusalOf_84 : decode cX7_refusalOf 84 = .ok (.ifCond .ne 7, 3) := by decide +kernel
theorem dX7_refusalOf_87 : decode cX7_refusalOf 87 = .ok (.iconst 0, 1) := by decide +kernel
theorem dX7_refusalOf_88 : decode cX7_refusalOf 88 = .ok (.goto 4, 3) := by decide +kernel
theorem dX7_refusalOf_91 : decode cX7_refusalOf 91 = .ok (.iconst 3, 1) := by decide +kernel
theorem dX7_refusalOf_92 : decode cX7_refusalOf 92 = .ok (.ireturn, 1) := by decide +kernel
theorem dX7_refusalOfTurn_0 : decode cX7_refusalOfTurn 0 = .ok (.aload_n 0, 1) := by decide +kernel
theorem dX7_refusalOfTurn_1 : decode cX7_refusalOfTurn 1 = .ok (.ifnonnull 5, 3) := by decide +kernel
theorem dX7_refusalOfTurn_4 : decode cX7_refusalOfTurn 4 = .ok (.iconst 1, 1) := by decide +kernel
theorem dX7_refusalOfTurn_5 : decode cX7_refusalOfTurn 5 = .ok (.ireturn, 1) := by decide +kernel
theorem dX7_refusalOfTurn_6 : decode cX7_refusalOfTurn 6 = .ok (.iload_n 1, 1) := by decide +kernel
theorem dX7_refusalOfTurn_7 : decode cX7_refusalOfTurn 7 = .ok (.iconst 0, 1) := by decide +kernel
theorem dX7_refusalOfTurn_8 : decode cX7_refusalOfTurn 8 = .ok (.sipush 999, 3) := by decide +kernel
theorem dX7_refusalOfTurn_11 : decode cX7_refusalOfTurn 11 = .ok (.invokestatic 52, 3) := by decide +kernel
theorem dX7_refusalOfTurn_14 : decode cX7_refusalOfTurn 14 = .ok (.ifCond .ne 5, 3) := by decide +kernel
theorem dX7_refusalOfTurn_17 : decode cX7_refusalOfTurn 17 = .ok (.iconst 2, 1) := by decide +kernel
theorem dX7_refusalOfTurn_18 : decode cX7_refusalOfTurn 18 = .ok (.ireturn, 1) := by decide +kernel
theorem dX7_refusalOfTurn_19 : decode cX7_refusalOfTurn 19 = .ok (.aload_n 0, 1) := by decide +kernel
theorem dX7_refusalOfTurn_20 : decode cX7_refusalOfTurn 20 = .ok (.getfield 298, 3) := by decide +kernel
theorem dX7_refusalOfTurn_23 : decode cX7_refusalOfTurn 23 = .ok (.bipush 9, 2) := by decide +kernel
theorem dX7_refusalOfTurn_25 : decode cX7_refusalOfTurn 25 = .ok (.if_icmp .lt 7, 3) := by decide +kernel
theorem dX7_refusalOfTurn_28 : decode cX7_refusalOfTurn 28 = .ok (.iconst 3, 1) := by decide +kernel
theorem dX7_refusalOfTurn_29 : decode cX7_refusalOfTurn 29 = .ok (.goto 4, 3) := by decide +kernel
theorem dX7_refusalOfTurn_32 : decode cX7_refusalOfTurn 32 = .ok (.iconst 0, 1) := by decide +kernel
theorem dX7_refusalOfTurn_33 : decode cX7_refusalOfTurn 33 = .ok (.ireturn, 1) := by decide +kernel
theorem dX7_refusalOfLeg_0 : decode cX7_refusalOfLeg 0 = .ok (.iload_n 1, 1) := by decide +kernel
theorem dX7_refusalOfLeg_1 : decode cX7_refusalOfLeg 1 = .ok (.invokestatic 100, 3) := by decide +kernel
theorem dX7_refusalOfLeg_4 : decode cX7_refusalOfLeg 4 = .ok (.ifCond .eq 14, 3) := by decide +kernel
theorem dX7_refusalOfLeg_7 : decode cX7_refusalOfLeg 7 = .ok (.iload_n 2, 1) := by decide +kernel
theorem dX7_refusalOfLeg_8 : decode cX7_refusalOfLeg 8 = .ok (.iconst 1, 1) := by decide +kernel
theorem dX7_refusalOfLeg_9 : decode cX7_refusalOfLeg 9 = .ok (.ldc_w 301, 3) := by decide +kernel
theorem dX7_refusalOfLeg_12 : decode cX7_refusalOfLeg 12 = .ok (.invokestatic 52, 3) := by decide +kernel
theorem dX7_refusalOfLeg_15 : decode cX7_refusalOfLeg 15 = .ok (.ifCond .ne 5, 3) := by decide +kernel
theorem dX7_refusalOfLeg_18 : decode cX7_refusalOfLeg 18 = .ok (.iconst 2, 1) := by decide +kernel
theorem dX7_refusalOfLeg_19 : decode cX7_refusalOfLeg 19 = .ok (.ireturn, 1) := by decide +kernel
theorem dX7_refusalOfLeg_20 : decode cX7_refusalOfLeg 20 = .ok (.aload_n 0, 1) := by decide +kernel
theorem dX7_refusalOfLeg_21 : decode cX7_refusalOfLeg 21 = .ok (.invokevirtual 294, 3) := by decide +kernel
theorem dX7_refusalOfLeg_24 : decode cX7_refusalOfLeg 24 = .ok (.ifCond .ne 12, 3) := by decide +kernel
theorem dX7_refusalOfLeg_27 : decode cX7_refusalOfLeg 27 = .ok (.aload_n 0, 1) := by decide +kernel
theorem dX7_refusalOfLeg_28 : decode cX7_refusalOfLeg 28 = .ok (.getfield 154, 3) := by decide +kernel
theorem dX7_refusalOfLeg_31 : decode cX7_refusalOfLeg 31 = .ok (.bipush 12, 2) := by decide +kernel
theorem dX7_refusalOfLeg_33 : decode cX7_refusalOfLeg 33 = .ok (.if_icmp .lt 7, 3) := by decide +kernel
theorem dX7_refusalOfLeg_36 : decode cX7_refusalOfLeg 36 = .ok (.iconst 3, 1) := by decide +kernel
theorem dX7_refusalOfLeg_37 : decode cX7_refusalOfLeg 37 = .ok (.goto 4, 3) := by decide +kernel
theorem dX7_refusalOfLeg_40 : decode cX7_refusalOfLeg 40 = .ok (.iconst 0, 1) := by decide +kernel
theorem dX7_refusalOfLeg_41 : decode cX7_refusalOfLeg 41 = .ok (.ireturn, 1) := by decide +kernel
theorem dX7_carryOut_0 : decode cX7_carryOut 0 = .ok (.iload_n 1, 1) := by decide +kernel
theorem dX7_carryOut_1 : decode cX7_carryOut 1 = .ok (.bipush 116, 2) := by decide +kernel
theorem dX7_carryOut_3 : decode cX7_carryOut 3 = .ok (.if_icmp .ne 30, 3) := by decide +kernel
theorem dX7_carryOut_6 : decode cX7_carryOut 6 = .ok (.aload_n 0, 1) := by decide +kernel
theorem dX7_carryOut_7 : decode cX7_carryOut 7 = .ok (.getfield 10, 3) := by decide +kernel
theorem dX7_carryOut_10 : decode cX7_carryOut 10 = .ok (.iload_n 2, 1) := by decide +kernel
theorem dX7_carryOut_11 : decode cX7_carryOut 11 = .ok (.invokevirtual 82, 3) := by decide +kernel
theorem dX7_carryOut_14 : decode cX7_carryOut 14 = .ok (.astore 5, 2) := by decide +kernel
theorem dX7_carryOut_16 : decode cX7_carryOut 16 = .ok (.aload 5, 2) := by decide +kernel
theorem dX7_carryOut_18 : decode cX7_carryOut 18 = .ok (.ifnonnull 8, 3) := by decide +kernel
theorem dX7_carryOut_21 : decode cX7_carryOut 21 = .ok (.ldc 189, 2) := by decide +kernel
theorem dX7_carryOut_23 : decode cX7_carryOut 23 = .ok (.goto 9, 3) := by decide +kernel
theorem dX7_carryOut_26 : decode cX7_carryOut 26 = .ok (.aload 5, 2) := by decide +kernel
theorem dX7_carryOut_28 : decode cX7_carryOut 28 = .ok (.iload_n 3, 1) := by decide +kernel
theorem dX7_carryOut_29 : decode cX7_carryOut 29 = .ok (.invokevirtual 302, 3) := by decide +kernel
theorem dX7_carryOut_32 : decode cX7_carryOut 32 = .ok (.ireturn, 1) := by decide +kernel
theorem dX7_carryOut_33 : decode cX7_carryOut 33 = .ok (.aload_n 0, 1) := by decide +kernel
theorem dX7_carryOut_34 : decode cX7_carryOut 34 = .ok (.getfield 10, 3) := by decide +kernel
theorem dX7_carryOut_37 : decode cX7_carryOut 37 = .ok (.iload_n 2, 1) := by decide +kernel
theorem dX7_carryOut_38 : decode cX7_carryOut 38 = .ok (.invokevirtual 141, 3) := by decide +kernel
theorem dX7_carryOut_41 : decode cX7_carryOut 41 = .ok (.astore 5, 2) := by decide +kernel
theorem dX7_carryOut_43 : decode cX7_carryOut 43 = .ok (.aload 5, 2) := by decide +kernel
theorem dX7_carryOut_45 : decode cX7_carryOut 45 = .ok (.ifnonnull 6, 3) := by decide +kernel
theorem dX7_carryOut_48 : decode cX7_carryOut 48 = .ok (.ldc 189, 2) := by decide +kernel
theorem dX7_carryOut_50 : decode cX7_carryOut 50 = .ok (.ireturn, 1) := by decide +kernel
theorem dX7_carryOut_51 : decode cX7_carryOut 51 = .ok (.iload_n 1, 1) := by decide +kernel
theorem dX7_carryOut_52 : decode cX7_carryOut 52 = .ok (.bipush 108, 2) := by decide +kernel
theorem dX7_carryOut_54 : decode cX7_carryOut 54 = .ok (.if_icmp .ne 12, 3) := by decide +kernel
theorem dX7_carryOut_57 : decode cX7_carryOut 57 = .ok (.aload 5, 2) := by decide +kernel
theorem dX7_carryOut_59 : decode cX7_carryOut 59 = .ok (.iload_n 3, 1) := by decide +kernel
theorem dX7_carryOut_60 : decode cX7_carryOut 60 = .ok (.iload 4, 2) := by decide +kernel
theorem dX7_carryOut_62 : decode cX7_carryOut 62 = .ok (.invokevirtual 305, 3) := by decide +kernel
theorem dX7_carryOut_65 : decode cX7_carryOut 65 = .ok (.ireturn, 1) := by decide +kernel
theorem dX7_carryOut_66 : decode cX7_carryOut 66 = .ok (.iload_n 1, 1) := by decide +kernel
theorem dX7_carryOut_67 : decode cX7_carryOut 67 = .ok (.bipush 107, 2) := by decide +kernel
theorem dX7_carryOut_69 : decode cX7_carryOut 69 = .ok (.if_icmp .ne 11, 3) := by decide +kernel
theorem dX7_carryOut_72 : decode cX7_carryOut 72 = .ok (.aload 5, 2) := by decide +kernel
theorem dX7_carryOut_74 : decode cX7_carryOut 74 = .ok (.invokevirtual 307, 3) := by decide +kernel
theorem dX7_carryOut_77 : decode cX7_carryOut 77 = .ok (.goto 8, 3) := by decide +kernel
theorem dX7_carryOut_80 : decode cX7_carryOut 80 = .ok (.aload 5, 2) := by decide +kernel
theorem dX7_carryOut_82 : decode cX7_carryOut 82 = .ok (.invokevirtual 310, 3) := by decide +kernel
theorem dX7_carryOut_85 : decode cX7_carryOut 85 = .ok (.ireturn, 1) := by decide +kernel
theorem dX7_isIn_0 : decode cX7_isIn 0 = .ok (.iload_n 0, 1) := by decide +kernel
theorem dX7_isIn_1 : decode cX7_isIn 1 = .ok (.iload_n 1, 1) := by decide +kernel
theorem dX7_isIn_2 : decode cX7_isIn 2 = .ok (.if_icmp .lt 12, 3) := by decide +kernel
theorem dX7_isIn_5 : decode cX7_isIn 5 = .ok (.iload_n 0, 1) := by decide +kernel
theorem dX7_isIn_6 : decode cX7_isIn 6 = .ok (.iload_n 2, 1) := by decide +kernel
theorem dX7_isIn_7 : decode cX7_isIn 7 = .ok (.if_icmp .gt 7, 3) := by decide +kernel
theorem dX7_isIn_10 : decode cX7_isIn 10 = .ok (.iconst 1, 1) := by decide +kernel
theorem dX7_isIn_11 : decode cX7_isIn 11 = .ok (.goto 4, 3) := by decide +kernel
theorem dX7_isIn_14 : decode cX7_isIn 14 = .ok (.iconst 0, 1) := by decide +kernel
theorem dX7_isIn_15 : decode cX7_isIn 15 = .ok (.ireturn, 1) := by decide +kernel
theorem dX7_isBearing_0 : decode cX7_isBearing 0 = .ok (.iload_n 0, 1) := by decide +kernel
theorem dX7_isBearing_1 : decode cX7_isBearing 1 = .ok (.iconst 0, 1) := by decide +kernel
theorem dX7_isBearing_2 : decode cX7_isBearing 2 = .ok (.ldc_w 313, 3) := by decide +kernel
theorem dX7_isBearing_5 : decode cX7_isBearing 5 = .ok (.invokestatic 52, 3) := by decide +kernel
theorem dX7_isBearing_8 : decode cX7_isBearing 8 = .ok (.ireturn, 1) := by decide +kernel
theorem dX7_isSmall_0 : decode cX7_isSmall 0 = .ok (.iload_n 0, 1) := by decide +kernel
theorem dX7_isSmall_1 : decode cX7_isSmall 1 = .ok (.sipush (-3600), 3) := by decide +kernel
theorem dX7_isSmall_4 : decode cX7_isSmall 4 = .ok (.sipush 3600, 3) := by decide +kernel
theorem dX7_isSmall_7 : decode cX7_isSmall 7 = .ok (.invokestatic 52, 3) := by decide +kernel
theorem dX7_isSmall_10 : decode cX7_isSmall 10 = .ok (.ireturn, 1) := by decide +kernel
theorem dX8_init_0 : decode cX8_init 0 = .ok (.aload_n 0, 1) := by decide +kernel
theorem dX8_init_1 : decode cX8_init 1 = .ok (.invokespecial 1, 3) := by decide +kernel
theorem dX8_init_4 : decode cX8_init 4 = .ok (.aload_n 0, 1) := by decide +kernel
theorem dX8_init_5 : decode cX8_init 5 = .ok (.sipush 214, 3) := by decide +kernel
theorem dX8_init_8 : decode cX8_init 8 = .ok (.newarray .int, 2) := by decide +kernel
theorem dX8_init_10 : decode cX8_init 10 = .ok (.putfield 7, 3) := by decide +kernel
theorem dX8_init_13 : decode cX8_init 13 = .ok (.aload_n 0, 1) := by decide +kernel
theorem dX8_init_14 : decode cX8_init 14 = .ok (.sipush 856, 3) := by decide +kernel
theorem dX8_init_17 : decode cX8_init 17 = .ok (.newarray .int, 2) := by decide +kernel
theorem dX8_init_19 : decode cX8_init 19 = .ok (.putfield 13, 3) := by decide +kernel
theorem dX8_init_22 : decode cX8_init 22 = .ok (.aload_n 0, 1) := by decide +kernel
theorem dX8_init_23 : decode cX8_init 23 = .ok (.bipush 90, 2) := by decide +kernel
end
section
theorem dX8_init_25 : decode cX8_init 25 = .ok (.newarray .int, 2) := by decide +kernel
theorem dX8_init_27 : decode cX8_init 27 = .ok (.putfield 16, 3) := by decide +kernel
theorem dX8_init_30 : decode cX8_init 30 = .ok (.aload_n 0, 1) := by decide +kernel
theorem dX8_init_31 : decode cX8_init 31 = .ok (.iconst 3, 1) := by decide +kernel
theorem dX8_init_32 : decode cX8_init 32 = .ok (.newarray .int, 2) := by decide +kernel
theorem dX8_init_34 : decode cX8_init 34 = .ok (.putfield 19, 3) := by decide +kernel
theorem dX8_init_37 : decode cX8_init 37 = .ok (.aload_n 0, 1) := by decide +kernel
theorem dX8_init_38 : decode cX8_init 38 = .ok (.getfield 7, 3) := by decide +kernel
theorem dX8_init_41 : decode cX8_init 41 = .ok (.iconst 0, 1) := by decide +kernel
theorem dX8_init_42 : decode cX8_init 42 = .ok (.bipush 20, 2) := by decide +kernel
theorem dX8_init_44 : decode cX8_init 44 = .ok (.iastore, 1) := by decide +kernel
theorem dX8_init_45 : decode cX8_init 45 = .ok (.aload_n 0, 1) := by decide +kernel
theorem dX8_init_46 : decode cX8_init 46 = .ok (.getfield 7, 3) := by decide +kernel
theorem dX8_init_49 : decode cX8_init 49 = .ok (.iconst 1, 1) := by decide +kernel
theorem dX8_init_50 : decode cX8_init 50 = .ok (.bipush 30, 2) := by decide +kernel
theorem dX8_init_52 : decode cX8_init 52 = .ok (.iastore, 1) := by decide +kernel
theorem dX8_init_53 : decode cX8_init 53 = .ok (.aload_n 0, 1) := by decide +kernel
theorem dX8_init_54 : decode cX8_init 54 = .ok (.getfield 7, 3) := by decide +kernel
theorem dX8_init_57 : decode cX8_init 57 = .ok (.iconst 2, 1) := by decide +kernel
theorem dX8_init_58 : decode cX8_init 58 = .ok (.sipush 500, 3) := by decide +kernel
theorem dX8_init_61 : decode cX8_init 61 = .ok (.iastore, 1) := by decide +kernel
theorem dX8_init_62 : decode cX8_init 62 = .ok (.return_, 1) := by decide +kernel
theorem dX8_thrown_0 : decode cX8_thrown 0 = .ok (.aload_n 0, 1) := by decide +kernel
theorem dX8_thrown_1 : decode cX8_thrown 1 = .ok (.getfield 22, 3) := by decide +kernel
theorem dX8_thrown_4 : decode cX8_thrown 4 = .ok (.ireturn, 1) := by decide +kernel
theorem dX8_in_0 : decode cX8_in 0 = .ok (.lload_n 0, 1) := by decide +kernel
theorem dX8_in_1 : decode cX8_in 1 = .ok (.lload_n 2, 1) := by decide +kernel
theorem dX8_in_2 : decode cX8_in 2 = .ok (.lcmp, 1) := by decide +kernel
theorem dX8_in_3 : decode cX8_in 3 = .ok (.ifCond .lt 14, 3) := by decide +kernel
theorem dX8_in_6 : decode cX8_in 6 = .ok (.lload_n 0, 1) := by decide +kernel
theorem dX8_in_7 : decode cX8_in 7 = .ok (.lload 4, 2) := by decide +kernel
theorem dX8_in_9 : decode cX8_in 9 = .ok (.lcmp, 1) := by decide +kernel
theorem dX8_in_10 : decode cX8_in 10 = .ok (.ifCond .gt 7, 3) := by decide +kernel
theorem dX8_in_13 : decode cX8_in 13 = .ok (.iconst 1, 1) := by decide +kernel
theorem dX8_in_14 : decode cX8_in 14 = .ok (.goto 4, 3) := by decide +kernel
theorem dX8_in_17 : decode cX8_in 17 = .ok (.iconst 0, 1) := by decide +kernel
theorem dX8_in_18 : decode cX8_in 18 = .ok (.ireturn, 1) := by decide +kernel
theorem dX8_throwsAt_0 : decode cX8_throwsAt 0 = .ok (.aload_n 0, 1) := by decide +kernel
theorem dX8_throwsAt_1 : decode cX8_throwsAt 1 = .ok (.iload_n 1, 1) := by decide +kernel
theorem dX8_throwsAt_2 : decode cX8_throwsAt 2 = .ok (.putfield 22, 3) := by decide +kernel
theorem dX8_throwsAt_5 : decode cX8_throwsAt 5 = .ok (.iload_n 1, 1) := by decide +kernel
theorem dX8_throwsAt_6 : decode cX8_throwsAt 6 = .ok (.ifCond .le 7, 3) := by decide +kernel
theorem dX8_throwsAt_9 : decode cX8_throwsAt 9 = .ok (.iconst 1, 1) := by decide +kernel
theorem dX8_throwsAt_10 : decode cX8_throwsAt 10 = .ok (.goto 4, 3) := by decide +kernel
theorem dX8_throwsAt_13 : decode cX8_throwsAt 13 = .ok (.iconst 0, 1) := by decide +kernel
theorem dX8_throwsAt_14 : decode cX8_throwsAt 14 = .ok (.ireturn, 1) := by decide +kernel
theorem dX8_saves_0 : decode cX8_saves 0 = .ok (.aload_n 0, 1) := by decide +kernel
theorem dX8_saves_1 : decode cX8_saves 1 = .ok (.getfield 26, 3) := by decide +kernel
theorem dX8_saves_4 : decode cX8_saves 4 = .ok (.ifCond .eq 4, 3) := by decide +kernel
theorem dX8_saves_7 : decode cX8_saves 7 = .ok (.return_, 1) := by decide +kernel
theorem dX8_saves_8 : decode cX8_saves 8 = .ok (.aload_n 0, 1) := by decide +kernel
theorem dX8_saves_9 : decode cX8_saves 9 = .ok (.getfield 30, 3) := by decide +kernel
theorem dX8_saves_12 : decode cX8_saves 12 = .ok (.iconst 4, 1) := by decide +kernel
theorem dX8_saves_13 : decode cX8_saves 13 = .ok (.if_icmp .ne 44, 3) := by decide +kernel
theorem dX8_saves_16 : decode cX8_saves 16 = .ok (.iconst 0, 1) := by decide +kernel
theorem dX8_saves_17 : decode cX8_saves 17 = .ok (.istore_n 1, 1) := by decide +kernel
theorem dX8_saves_18 : decode cX8_saves 18 = .ok (.iload_n 1, 1) := by decide +kernel
theorem dX8_saves_19 : decode cX8_saves 19 = .ok (.sipush 642, 3) := by decide +kernel
theorem dX8_saves_22 : decode cX8_saves 22 = .ok (.if_icmp .ge 25, 3) := by decide +kernel
theorem dX8_saves_25 : decode cX8_saves 25 = .ok (.aload_n 0, 1) := by decide +kernel
theorem dX8_saves_26 : decode cX8_saves 26 = .ok (.getfield 13, 3) := by decide +kernel
theorem dX8_saves_29 : decode cX8_saves 29 = .ok (.iload_n 1, 1) := by decide +kernel
theorem dX8_saves_30 : decode cX8_saves 30 = .ok (.aload_n 0, 1) := by decide +kernel
theorem dX8_saves_31 : decode cX8_saves 31 = .ok (.getfield 13, 3) := by decide +kernel
theorem dX8_saves_34 : decode cX8_saves 34 = .ok (.iload_n 1, 1) := by decide +kernel
theorem dX8_saves_35 : decode cX8_saves 35 = .ok (.sipush 214, 3) := by decide +kernel
theorem dX8_saves_38 : decode cX8_saves 38 = .ok (.iadd, 1) := by decide +kernel
theorem dX8_saves_39 : decode cX8_saves 39 = .ok (.iaload, 1) := by decide +kernel
theorem dX8_saves_40 : decode cX8_saves 40 = .ok (.iastore, 1) := by decide +kernel
theorem dX8_saves_41 : decode cX8_saves 41 = .ok (.iinc 1 1, 3) := by decide +kernel
theorem dX8_saves_44 : decode cX8_saves 44 = .ok (.goto (-26), 3) := by decide +kernel
theorem dX8_saves_47 : decode cX8_saves 47 = .ok (.aload_n 0, 1) := by decide +kernel
theorem dX8_saves_48 : decode cX8_saves 48 = .ok (.dup, 1) := by decide +kernel
theorem dX8_saves_49 : decode cX8_saves 49 = .ok (.getfield 30, 3) := by decide +kernel
theorem dX8_saves_52 : decode cX8_saves 52 = .ok (.iconst 1, 1) := by decide +kernel
theorem dX8_saves_53 : decode cX8_saves 53 = .ok (.isub, 1) := by decide +kernel
theorem dX8_saves_54 : decode cX8_saves 54 = .ok (.putfield 30, 3) := by decide +kernel
theorem dX8_saves_57 : decode cX8_saves 57 = .ok (.iconst 0, 1) := by decide +kernel
theorem dX8_saves_58 : decode cX8_saves 58 = .ok (.istore_n 1, 1) := by decide +kernel
theorem dX8_saves_59 : decode cX8_saves 59 = .ok (.iload_n 1, 1) := by decide +kernel
theorem dX8_saves_60 : decode cX8_saves 60 = .ok (.sipush 214, 3) := by decide +kernel
theorem dX8_saves_63 : decode cX8_saves 63 = .ok (.if_icmp .ge 30, 3) := by decide +kernel
theorem dX8_saves_66 : decode cX8_saves 66 = .ok (.aload_n 0, 1) := by decide +kernel
theorem dX8_saves_67 : decode cX8_saves 67 = .ok (.getfield 13, 3) := by decide +kernel
theorem dX8_saves_70 : decode cX8_saves 70 = .ok (.sipush 214, 3) := by decide +kernel
theorem dX8_saves_73 : decode cX8_saves 73 = .ok (.aload_n 0, 1) := by decide +kernel
theorem dX8_saves_74 : decode cX8_saves 74 = .ok (.getfield 30, 3) := by decide +kernel
theorem dX8_saves_77 : decode cX8_saves 77 = .ok (.imul, 1) := by decide +kernel
theorem dX8_saves_78 : decode cX8_saves 78 = .ok (.iload_n 1, 1) := by decide +kernel
theorem dX8_saves_79 : decode cX8_saves 79 = .ok (.iadd, 1) := by decide +kernel
theorem dX8_saves_80 : decode cX8_saves 80 = .ok (.aload_n 0, 1) := by decide +kernel
theorem dX8_saves_81 : decode cX8_saves 81 = .ok (.getfield 7, 3) := by decide +kernel
theorem dX8_saves_84 : decode cX8_saves 84 = .ok (.iload_n 1, 1) := by decide +kernel
theorem dX8_saves_85 : decode cX8_saves 85 = .ok (.iaload, 1) := by decide +kernel
theorem dX8_saves_86 : decode cX8_saves 86 = .ok (.iastore, 1) := by decide +kernel
theorem dX8_saves_87 : decode cX8_saves 87 = .ok (.iinc 1 1, 3) := by decide +kernel
theorem dX8_saves_90 : decode cX8_saves 90 = .ok (.goto (-31), 3) := by decide +kernel
theorem dX8_saves_93 : decode cX8_saves 93 = .ok (.aload_n 0, 1) := by decide +kernel
theorem dX8_saves_94 : decode cX8_saves 94 = .ok (.dup, 1) := by decide +kernel
theorem dX8_saves_95 : decode cX8_saves 95 = .ok (.getfield 30, 3) := by decide +kernel
theorem dX8_saves_98 : decode cX8_saves 98 = .ok (.iconst 1, 1) := by decide +kernel
theorem dX8_saves_99 : decode cX8_saves 99 = .ok (.iadd, 1) := by decide +kernel
theorem dX8_saves_100 : decode cX8_saves 100 = .ok (.putfield 30, 3) := by decide +kernel
theorem dX8_saves_103 : decode cX8_saves 103 = .ok (.return_, 1) := by decide +kernel
theorem dX8_isWire_0 : decode cX8_isWire 0 = .ok (.iload_n 1, 1) := by decide +kernel
theorem dX8_isWire_1 : decode cX8_isWire 1 = .ok (.ifCond .lt 17, 3) := by decide +kernel
theorem dX8_isWire_4 : decode cX8_isWire 4 = .ok (.iload_n 1, 1) := by decide +kernel
theorem dX8_isWire_5 : decode cX8_isWire 5 = .ok (.aload_n 0, 1) := by decide +kernel
theorem dX8_isWire_6 : decode cX8_isWire 6 = .ok (.getfield 7, 3) := by decide +kernel
theorem dX8_isWire_9 : decode cX8_isWire 9 = .ok (.iconst 3, 1) := by decide +kernel
theorem dX8_isWire_10 : decode cX8_isWire 10 = .ok (.iaload, 1) := by decide +kernel
theorem dX8_isWire_11 : decode cX8_isWire 11 = .ok (.if_icmp .ge 7, 3) := by decide +kernel
theorem dX8_isWire_14 : decode cX8_isWire 14 = .ok (.iconst 1, 1) := by decide +kernel
theorem dX8_isWire_15 : decode cX8_isWire 15 = .ok (.goto 4, 3) := by decide +kernel
theorem dX8_isWire_18 : decode cX8_isWire 18 = .ok (.iconst 0, 1) := by decide +kernel
theorem dX8_isWire_19 : decode cX8_isWire 19 = .ok (.ireturn, 1) := by decide +kernel
theorem dX8_isJoin_0 : decode cX8_isJoin 0 = .ok (.iload_n 1, 1) := by decide +kernel
theorem dX8_isJoin_1 : decode cX8_isJoin 1 = .ok (.ifCond .lt 17, 3) := by decide +kernel
theorem dX8_isJoin_4 : decode cX8_isJoin 4 = .ok (.iload_n 1, 1) := by decide +kernel
theorem dX8_isJoin_5 : decode cX8_isJoin 5 = .ok (.aload_n 0, 1) := by decide +kernel
theorem dX8_isJoin_6 : decode cX8_isJoin 6 = .ok (.getfield 7, 3) := by decide +kernel
theorem dX8_isJoin_9 : decode cX8_isJoin 9 = .ok (.iconst 4, 1) := by decide +kernel
theorem dX8_isJoin_10 : decode cX8_isJoin 10 = .ok (.iaload, 1) := by decide +kernel
theorem dX8_isJoin_11 : decode cX8_isJoin 11 = .ok (.if_icmp .ge 7, 3) := by decide +kernel
theorem dX8_isJoin_14 : decode cX8_isJoin 14 = .ok (.iconst 1, 1) := by decide +kernel
theorem dX8_isJoin_15 : decode cX8_isJoin 15 = .ok (.goto 4, 3) := by decide +kernel
theorem dX8_isJoin_18 : decode cX8_isJoin 18 = .ok (.iconst 0, 1) := by decide +kernel
theorem dX8_isJoin_19 : decode cX8_isJoin 19 = .ok (.ireturn, 1) := by decide +kernel
theorem dX8_isTraverse_0 : decode cX8_isTraverse 0 = .ok (.iload_n 1, 1) := by decide +kernel
theorem dX8_isTraverse_1 : decode cX8_isTraverse 1 = .ok (.ifCond .lt 17, 3) := by decide +kernel
theorem dX8_isTraverse_4 : decode cX8_isTraverse 4 = .ok (.iload_n 1, 1) := by decide +kernel
theorem dX8_isTraverse_5 : decode cX8_isTraverse 5 = .ok (.aload_n 0, 1) := by decide +kernel
theorem dX8_isTraverse_6 : decode cX8_isTraverse 6 = .ok (.getfield 7, 3) := by decide +kernel
theorem dX8_isTraverse_9 : decode cX8_isTraverse 9 = .ok (.iconst 5, 1) := by decide +kernel
theorem dX8_isTraverse_10 : decode cX8_isTraverse 10 = .ok (.iaload, 1) := by decide +kernel
theorem dX8_isTraverse_11 : decode cX8_isTraverse 11 = .ok (.if_icmp .ge 7, 3) := by decide +kernel
theorem dX8_isTraverse_14 : decode cX8_isTraverse 14 = .ok (.iconst 1, 1) := by decide +kernel
theorem dX8_isTraverse_15 : decode cX8_isTraverse 15 = .ok (.goto 4, 3) := by decide +kernel
theorem dX8_isTraverse_18 : decode cX8_isTraverse 18 = .ok (.iconst 0, 1) := by decide +kernel
theorem dX8_isTraverse_19 : decode cX8_isTraverse 19 = .ok (.ireturn, 1) := by decide +kernel
theorem dX8_ofWire_0 : decode cX8_ofWire 0 = .ok (.aload_n 0, 1) := by decide +kernel
theorem dX8_ofWire_1 : decode cX8_ofWire 1 = .ok (.getfield 7, 3) := by decide +kernel
theorem dX8_ofWire_4 : decode cX8_ofWire 4 = .ok (.bipush 6, 2) := by decide +kernel
theorem dX8_ofWire_6 : decode cX8_ofWire 6 = .ok (.bipush 12, 2) := by decide +kernel
theorem dX8_ofWire_8 : decode cX8_ofWire 8 = .ok (.iload_n 1, 1) := by decide +kernel
theorem dX8_ofWire_9 : decode cX8_ofWire 9 = .ok (.imul, 1) := by decide +kernel
theorem dX8_ofWire_10 : decode cX8_ofWire 10 = .ok (.iadd, 1) := by decide +kernel
theorem dX8_ofWire_11 : decode cX8_ofWire 11 = .ok (.iload_n 2, 1) := by decide +kernel
theorem dX8_ofWire_12 : decode cX8_ofWire 12 = .ok (.iadd, 1) := by decide +kernel
theorem dX8_ofWire_13 : decode cX8_ofWire 13 = .ok (.iaload, 1) := by decide +kernel
theorem dX8_ofWire_14 : decode cX8_ofWire 14 = .ok (.ireturn, 1) := by decide +kernel
theorem dX8_ofJoin_0 : decode cX8_ofJoin 0 = .ok (.aload_n 0, 1) := by decide +kernel
theorem dX8_ofJoin_1 : decode cX8_ofJoin 1 = .ok (.getfield 7, 3) := by decide +kernel
theorem dX8_ofJoin_4 : decode cX8_ofJoin 4 = .ok (.bipush 78, 2) := by decide +kernel
theorem dX8_ofJoin_6 : decode cX8_ofJoin 6 = .ok (.bipush 6, 2) := by decide +kernel
theorem dX8_ofJoin_8 : decode cX8_ofJoin 8 = .ok (.iload_n 1, 1) := by decide +kernel
theorem dX8_ofJoin_9 : decode cX8_ofJoin 9 = .ok (.imul, 1) := by decide +kernel
theorem dX8_ofJoin_10 : decode cX8_ofJoin 10 = .ok (.iadd, 1) := by decide +kernel
theorem dX8_ofJoin_11 : decode cX8_ofJoin 11 = .ok (.iload_n 2, 1) := by decide +kernel
theorem dX8_ofJoin_12 : decode cX8_ofJoin 12 = .ok (.iadd, 1) := by decide +kernel
theorem dX8_ofJoin_13 : decode cX8_ofJoin 13 = .ok (.iaload, 1) := by decide +kernel
theorem dX8_ofJoin_14 : decode cX8_ofJoin 14 = .ok (.ireturn, 1) := by decide +kernel
theorem dX8_of_0 : decode cX8_of 0 = .ok (.aload_n 0, 1) := by decide +kernel
theorem dX8_of_1 : decode cX8_of 1 = .ok (.getfield 7, 3) := by decide +kernel
theorem dX8_of_4 : decode cX8_of 4 = .ok (.bipush 102, 2) := by decide +kernel
theorem dX8_of_6 : decode cX8_of 6 = .ok (.bipush 28, 2) := by decide +kernel
theorem dX8_of_8 : decode cX8_of 8 = .ok (.iload_n 1, 1) := by decide +kernel
theorem dX8_of_9 : decode cX8_of 9 = .ok (.imul, 1) := by decide +kernel
theorem dX8_of_10 : decode cX8_of 10 = .ok (.iadd, 1) := by decide +kernel
theorem dX8_of_11 : decode cX8_of 11 = .ok (.iload_n 2, 1) := by decide +kernel
theorem dX8_of_12 : decode cX8_of 12 = .ok (.iadd, 1) := by decide +kernel
theorem dX8_of_13 : decode cX8_of 13 = .ok (.iaload, 1) := by decide +kernel
theorem dX8_of_14 : decode cX8_of 14 = .ok (.ireturn, 1) := by decide +kernel
theorem dX8_legs_0 : decode cX8_legs 0 = .ok (.aload_n 0, 1) := by decide +kernel
theorem dX8_legs_1 : decode cX8_legs 1 = .ok (.iload_n 1, 1) := by decide +kernel
theorem dX8_legs_2 : decode cX8_legs 2 = .ok (.iconst 1, 1) := by decide +kernel
theorem dX8_legs_3 : decode cX8_legs 3 = .ok (.invokevirtual 33, 3) := by decide +kernel
theorem dX8_legs_6 : decode cX8_legs 6 = .ok (.ireturn, 1) := by decide +kernel
theorem dX8_isClosed_0 : decode cX8_isClosed 0 = .ok (.aload_n 0, 1) := by decide +kernel
theorem dX8_isClosed_1 : decode cX8_isClosed 1 = .ok (.iload_n 1, 1) := by decide +kernel
theorem dX8_isClosed_2 : decode cX8_isClosed 2 = .ok (.iconst 2, 1) := by decide +kernel
theorem dX8_isClosed_3 : decode cX8_isClosed 3 = .ok (.invokevirtual 33, 3) := by decide +kernel
theorem dX8_isClosed_6 : decode cX8_isClosed 6 = .ok (.ifCond .lt 7, 3) := by decide +kernel
theorem dX8_isClosed_9 : decode cX8_isClosed 9 = .ok (.iconst 1, 1) := by decide +kernel
theorem dX8_isClosed_10 : decode cX8_isClosed 10 = .ok (.goto 4, 3) := by decide +kernel
theorem dX8_isClosed_13 : decode cX8_isClosed 13 = .ok (.iconst 0, 1) := by decide +kernel
theorem dX8_isClosed_14 : decode cX8_isClosed 14 = .ok (.ireturn, 1) := by decide +kernel
theorem dX8_angle_0 : decode cX8_angle 0 = .ok (.aload_n 0, 1) := by decide +kernel
theorem dX8_angle_1 : decode cX8_angle 1 = .ok (.iload_n 1, 1) := by decide +kernel
theorem dX8_angle_2 : decode cX8_angle 2 = .ok (.iconst 4, 1) := by decide +kernel
theorem dX8_angle_3 : decode cX8_angle 3 = .ok (.iconst 2, 1) := by decide +kernel
theorem dX8_angle_4 : decode cX8_angle 4 = .ok (.iload_n 2, 1) := by decide +kernel
theorem dX8_angle_5 : decode cX8_angle 5 = .ok (.imul, 1) := by decide +kernel
theorem dX8_angle_6 : decode cX8_angle 6 = .ok (.iadd, 1) := by decide +kernel
theorem dX8_angle_7 : decode cX8_angle 7 = .ok (.invokevirtual 33, 3) := by decide +kernel
theorem dX8_angle_10 : decode cX8_angle 10 = .ok (.ireturn, 1) := by decide +kernel
theorem dX8_length_0 : decode cX8_length 0 = .ok (.aload_n 0, 1) := by decide +kernel
theorem dX8_length_1 : decode cX8_length 1 = .ok (.iload_n 1, 1) := by decide +kernel
theorem dX8_length_2 : decode cX8_length 2 = .ok (.iconst 5, 1) := by decide +kernel
theorem dX8_length_3 : decode cX8_length 3 = .ok (.iconst 2, 1) := by decide +kernel
theorem dX8_length_4 : decode cX8_length 4 = .ok (.iload_n 2, 1) := by decide +kernel
theorem dX8_length_5 : decode cX8_length 5 = .ok (.imul, 1) := by decide +kernel
theorem dX8_length_6 : decode cX8_length 6 = .ok (.iadd, 1) := by decide +kernel
theorem dX8_length_7 : decode cX8_length 7 = .ok (.invokevirtual 33, 3) := by decide +kernel
theorem dX8_length_10 : decode cX8_length 10 = .ok (.ireturn, 1) := by decide +kernel
theorem dX8_normed_0 : decode cX8_normed 0 = .ok (.lload_n 0, 1) := by decide +kernel
theorem dX8_normed_1 : decode cX8_normed 1 = .ok (.ldc2_w 37, 3) := by decide +kernel
theorem dX8_normed_4 : decode cX8_normed 4 = .ok (.lrem, 1) := by decide +kernel
theorem dX8_normed_5 : decode cX8_normed 5 = .ok (.lstore_n 2, 1) := by decide +kernel
theorem dX8_normed_6 : decode cX8_normed 6 = .ok (.lload_n 2, 1) := by decide +kernel
theorem dX8_normed_7 : decode cX8_normed 7 = .ok (.lconst 0, 1) := by decide +kernel
theorem dX8_normed_8 : decode cX8_normed 8 = .ok (.lcmp, 1) := by decide +kernel
theorem dX8_normed_9 : decode cX8_normed 9 = .ok (.ifCond .ge 11, 3) := by decide +kernel
theorem dX8_normed_12 : decode cX8_normed 12 = .ok (.lload_n 2, 1) := by decide +kernel
theorem dX8_normed_13 : decode cX8_normed 13 = .ok (.ldc2_w 37, 3) := by decide +kernel
theorem dX8_normed_16 : decode cX8_normed 16 = .ok (.ladd, 1) := by decide +kernel
theorem dX8_normed_17 : decode cX8_normed 17 = .ok (.goto 4, 3) := by decide +kernel
theorem dX8_normed_20 : decode cX8_normed 20 = .ok (.lload_n 2, 1) := by decide +kernel
theorem dX8_normed_21 : decode cX8_normed 21 = .ok (.l2i, 1) := by decide +kernel
theorem dX8_normed_22 : decode cX8_normed 22 = .ok (.ireturn, 1) := by decide +kernel
theorem dX8_centred_0 : decode cX8_centred 0 = .ok (.lload_n 0, 1) := by decide +kernel
theorem dX8_centred_1 : decode cX8_centred 1 = .ok (.invokestatic 39, 3) := by decide +kernel
theorem dX8_centred_4 : decode cX8_centred 4 = .ok (.istore_n 2, 1) := by decide +kernel
theorem dX8_centred_5 : decode cX8_centred 5 = .ok (.iload_n 2, 1) := by decide +kernel
theorem dX8_centred_6 : decode cX8_centred 6 = .ok (.ldc 43, 2) := by decide +kernel
theorem dX8_centred_8 : decode cX8_centred 8 = .ok (.if_icmp .ge 7, 3) := by decide +kernel
theorem dX8_centred_11 : decode cX8_centred 11 = .ok (.iload_n 2, 1) := by decide +kernel
theorem dX8_centred_12 : decode cX8_centred 12 = .ok (.goto 7, 3) := by decide +kernel
theorem dX8_centred_15 : decode cX8_centred 15 = .ok (.iload_n 2, 1) := by decide +kernel
theorem dX8_centred_16 : decode cX8_centred 16 = .ok (.ldc 44, 2) := by decide +kernel
theorem dX8_centred_18 : decode cX8_centred 18 = .ok (.isub, 1) := by decide +kernel
theorem dX8_centred_19 : decode cX8_centred 19 = .ok (.ireturn, 1) := by decide +kernel
theorem dX8_sineOf_0 : decode cX8_sineOf 0 = .ok (.lload_n 0, 1) := by decide +kernel
theorem dX8_sineOf_1 : decode cX8_sineOf 1 = .ok (.invokestatic 39, 3) := by decide +kernel
theorem dX8_sineOf_4 : decode cX8_sineOf 4 = .ok (.i2l, 1) := by decide +kernel
theorem dX8_sineOf_5 : decode cX8_sineOf 5 = .ok (.lstore_n 2, 1) := by decide +kernel
theorem dX8_sineOf_6 : decode cX8_sineOf 6 = .ok (.lload_n 2, 1) := by decide +kernel
theorem dX8_sineOf_7 : decode cX8_sineOf 7 = .ok (.ldc2_w 45, 3) := by decide +kernel
theorem dX8_sineOf_10 : decode cX8_sineOf 10 = .ok (.lcmp, 1) := by decide +kernel
theorem dX8_sineOf_11 : decode cX8_sineOf 11 = .ok (.ifCond .ge 7, 3) := by decide +kernel
theorem dX8_sineOf_14 : decode cX8_sineOf 14 = .ok (.lload_n 2, 1) := by decide +kernel
theorem dX8_sineOf_15 : decode cX8_sineOf 15 = .ok (.goto 8, 3) := by decide +kernel
theorem dX8_sineOf_18 : decode cX8_sineOf 18 = .ok (.lload_n 2, 1) := by decide +kernel
theorem dX8_sineOf_19 : decode cX8_sineOf 19 = .ok (.ldc2_w 45, 3) := by decide +kernel
theorem dX8_sineOf_22 : decode cX8_sineOf 22 = .ok (.lsub, 1) := by decide +kernel
theorem dX8_sineOf_23 : decode cX8_sineOf 23 = .ok (.lstore 4, 2) := by decide +kernel
theorem dX8_sineOf_25 : decode cX8_sineOf 25 = .ok (.lload 4, 2) := by decide +kernel
theorem dX8_sineOf_27 : decode cX8_sineOf 27 = .ok (.ldc2_w 45, 3) := by decide +kernel
theorem dX8_sineOf_30 : decode cX8_sineOf 30 = .ok (.lload 4, 2) := by decide +kernel
theorem dX8_sineOf_32 : decode cX8_sineOf 32 = .ok (.lsub, 1) := by decide +kernel
theorem dX8_sineOf_33 : decode cX8_sineOf 33 = .ok (.lmul, 1) := by decide +kernel
theorem dX8_sineOf_34 : decode cX8_sineOf 34 = .ok (.lstore 6, 2) := by decide +kernel
theorem dX8_sineOf_36 : decode cX8_sineOf 36 = .ok (.ldc2_w 47, 3) := by decide +kernel
theorem dX8_sineOf_39 : decode cX8_sineOf 39 = .ok (.lload 6, 2) := by decide +kernel
theorem dX8_sineOf_41 : decode cX8_sineOf 41 = .ok (.lmul, 1) := by decide +kernel
theorem dX8_sineOf_42 : decode cX8_sineOf 42 = .ok (.ldc2_w 49, 3) := by decide +kernel
theorem dX8_sineOf_45 : decode cX8_sineOf 45 = .ok (.lload 6, 2) := by decide +kernel
theorem dX8_sineOf_47 : decode cX8_sineOf 47 = .ok (.lsub, 1) := by decide +kernel
theorem dX8_sineOf_48 : decode cX8_sineOf 48 = .ok (.ldiv, 1) := by decide +kernel
theorem dX8_sineOf_49 : decode cX8_sineOf 49 = .ok (.l2i, 1) := by decide +kernel
theorem dX8_sineOf_50 : decode cX8_sineOf 50 = .ok (.istore 8, 2) := by decide +kernel
theorem dX8_sineOf_52 : decode cX8_sineOf 52 = .ok (.lload_n 2, 1) := by decide +kernel
theorem dX8_sineOf_53 : decode cX8_sineOf 53 = .ok (.ldc2_w 45, 3) := by decide +kernel
theorem dX8_sineOf_56 : decode cX8_sineOf 56 = .ok (.lcmp, 1) := by decide +kernel
theorem dX8_sineOf_57 : decode cX8_sineOf 57 = .ok (.ifCond .ge 8, 3) := by decide +kernel
theorem dX8_sineOf_60 : decode cX8_sineOf 60 = .ok (.iload 8, 2) := by decide +kernel
theorem dX8_sineOf_62 : decode cX8_sineOf 62 = .ok (.goto 6, 3) := by decide +kernel
theorem dX8_sineOf_65 : decode cX8_sineOf 65 = .ok (.iload 8, 2) := by decide +kernel
theorem dX8_sineOf_67 : decode cX8_sineOf 67 = .ok (.ineg, 1) := by decide +kernel
theorem dX8_sineOf_68 : decode cX8_sineOf 68 = .ok (.ireturn, 1) := by decide +kernel
theorem dX8_cosineOf_0 : decode cX8_cosineOf 0 = .ok (.lload_n 0, 1) := by decide +kernel
theorem dX8_cosineOf_1 : decode cX8_cosineOf 1 = .ok (.ldc2_w 51, 3) := by decide +kernel
theorem dX8_cosineOf_4 : decode cX8_cosineOf 4 = .ok (.ladd, 1) := by decide +kernel
theorem dX8_cosineOf_5 : decode cX8_cosineOf 5 = .ok (.invokestatic 53, 3) := by decide +kernel
theorem dX8_cosineOf_8 : decode cX8_cosineOf 8 = .ok (.ireturn, 1) := by decide +kernel
theorem dX8_root_0 : decode cX8_root 0 = .ok (.lconst 0, 1) := by decide +kernel
theorem dX8_root_1 : decode cX8_root 1 = .ok (.lstore_n 2, 1) := by decide +kernel
theorem dX8_root_2 : decode cX8_root 2 = .ok (.ldc2_w 56, 3) := by decide +kernel
theorem dX8_root_5 : decode cX8_root 5 = .ok (.lstore 4, 2) := by decide +kernel
theorem dX8_root_7 : decode cX8_root 7 = .ok (.lload_n 2, 1) := by decide +kernel
theorem dX8_root_8 : decode cX8_root 8 = .ok (.lload 4, 2) := by decide +kernel
theorem dX8_root_10 : decode cX8_root 10 = .ok (.lcmp, 1) := by decide +kernel
theorem dX8_root_11 : decode cX8_root 11 = .ok (.ifCond .ge 56, 3) := by decide +kernel
theorem dX8_root_14 : decode cX8_root 14 = .ok (.lload_n 2, 1) := by decide +kernel
theorem dX8_root_15 : decode cX8_root 15 = .ok (.lload 4, 2) := by decide +kernel
theorem dX8_root_17 : decode cX8_root 17 = .ok (.ladd, 1) := by decide +kernel
theorem dX8_root_18 : decode cX8_root 18 = .ok (.lconst 1, 1) := by decide +kernel
theorem dX8_root_19 : decode cX8_root 19 = .ok (.ladd, 1) := by decide +kernel
theorem dX8_root_20 : decode cX8_root 20 = .ok (.ldc2_w 58, 3) := by decide +kernel
theorem dX8_root_23 : decode cX8_root 23 = .ok (.ldiv, 1) := by decide +kernel
theorem dX8_root_24 : decode cX8_root 24 = .ok (.lstore 6, 2) := by decide +kernel
theorem dX8_root_26 : decode cX8_root 26 = .ok (.lload 6, 2) := by decide +kernel
theorem dX8_root_28 : decode cX8_root 28 = .ok (.lload 6, 2) := by decide +kernel
theorem dX8_root_30 : decode cX8_root 30 = .ok (.lmul, 1) := by decide +kernel
theorem dX8_root_31 : decode cX8_root 31 = .ok (.lload_n 0, 1) := by decide +kernel
theorem dX8_root_32 : decode cX8_root 32 = .ok (.lcmp, 1) := by decide +kernel
theorem dX8_root_33 : decode cX8_root 33 = .ok (.ifCond .gt 8, 3) := by decide +kernel
theorem dX8_root_36 : decode cX8_root 36 = .ok (.lload 6, 2) := by decide +kernel
theorem dX8_root_38 : decode cX8_root 38 = .ok (.goto 4, 3) := by decide +kernel
theorem dX8_root_41 : decode cX8_root 41 = .ok (.lload_n 2, 1) := by decide +kernel
theorem dX8_root_42 : decode cX8_root 42 = .ok (.lstore_n 2, 1) := by decide +kernel
theorem dX8_root_43 : decode cX8_root 43 = .ok (.lload 6, 2) := by decide +kernel
theorem dX8_root_45 : decode cX8_root 45 = .ok (.lload 6, 2) := by decide +kernel
theorem dX8_root_47 : decode cX8_root 47 = .ok (.lmul, 1) := by decide +kernel
theorem dX8_root_48 : decode cX8_root 48 = .ok (.lload_n 0, 1) := by decide +kernel
theorem dX8_root_49 : decode cX8_root 49 = .ok (.lcmp, 1) := by decide +kernel
theorem dX8_root_50 : decode cX8_root 50 = .ok (.ifCond .gt 8, 3) := by decide +kernel
theorem dX8_root_53 : decode cX8_root 53 = .ok (.lload 4, 2) := by decide +kernel
theorem dX8_root_55 : decode cX8_root 55 = .ok (.goto 7, 3) := by decide +kernel
theorem dX8_root_58 : decode cX8_root 58 = .ok (.lload 6, 2) := by decide +kernel
theorem dX8_root_60 : decode cX8_root 60 = .ok (.lconst 1, 1) := by decide +kernel
theorem dX8_root_61 : decode cX8_root 61 = .ok (.lsub, 1) := by decide +kernel
theorem dX8_root_62 : decode cX8_root 62 = .ok (.lstore 4, 2) := by decide +kernel
theorem dX8_root_64 : decode cX8_root 64 = .ok (.goto (-57), 3) := by decide +kernel
theorem dX8_root_67 : decode cX8_root 67 = .ok (.lload_n 2, 1) := by decide +kernel
theorem dX8_root_68 : decode cX8_root 68 = .ok (.l2i, 1) := by decide +kernel
theorem dX8_root_69 : decode cX8_root 69 = .ok (.ireturn, 1) := by decide +kernel
theorem dX8_size_0 : decode cX8_size 0 = .ok (.iload_n 0, 1) := by decide +kernel
theorem dX8_size_1 : decode cX8_size 1 = .ok (.ifCond .ge 8, 3) := by decide +kernel
theorem dX8_size_4 : decode cX8_size 4 = .ok (.iload_n 0, 1) := by decide +kernel
theorem dX8_size_5 : decode cX8_size 5 = .ok (.ineg, 1) := by decide +kernel
theorem dX8_size_6 : decode cX8_size 6 = .ok (.goto 4, 3) := by decide +kernel
theorem dX8_size_9 : decode cX8_size 9 = .ok (.iload_n 0, 1) := by decide +kernel
theorem dX8_size_10 : decode cX8_size 10 = .ok (.ireturn, 1) := by decide +kernel
theorem dX8_set_0 : decode cX8_set 0 = .ok (.iload_n 1, 1) := by decide +kernel
theorem dX8_set_1 : decode cX8_set 1 = .ok (.ifCond .ne 15, 3) := by decide +kernel
theorem dX8_set_4 : decode cX8_set 4 = .ok (.iload_n 2, 1) := by decide +kernel
theorem dX8_set_5 : decode cX8_set 5 = .ok (.i2l, 1) := by decide +kernel
theorem dX8_set_6 : decode cX8_set 6 = .ok (.lconst 0, 1) := by decide +kernel
theorem dX8_set_7 : decode cX8_set 7 = .ok (.ldc2_w 60, 3) := by decide +kernel
theorem dX8_set_10 : decode cX8_set 10 = .ok (.invokestatic 62, 3) := by decide +kernel
theorem dX8_set_13 : decode cX8_set 13 = .ok (.goto 42, 3) := by decide +kernel
theorem dX8_set_16 : decode cX8_set 16 = .ok (.iload_n 1, 1) := by decide +kernel
theorem dX8_set_17 : decode cX8_set 17 = .ok (.iconst 1, 1) := by decide +kernel
theorem dX8_set_18 : decode cX8_set 18 = .ok (.if_icmp .ne 15, 3) := by decide +kernel
theorem dX8_set_21 : decode cX8_set 21 = .ok (.iload_n 2, 1) := by decide +kernel
theorem dX8_set_22 : decode cX8_set 22 = .ok (.i2l, 1) := by decide +kernel
theorem dX8_set_23 : decode cX8_set 23 = .ok (.lconst 1, 1) := by decide +kernel
theorem dX8_set_24 : decode cX8_set 24 = .ok (.ldc2_w 66, 3) := by decide +kernel
theorem dX8_set_27 : decode cX8_set 27 = .ok (.invokestatic 62, 3) := by decide +kernel
theorem dX8_set_30 : decode cX8_set 30 = .ok (.goto 25, 3) := by decide +kernel
theorem dX8_set_33 : decode cX8_set 33 = .ok (.iload_n 1, 1) := by decide +kernel
theorem dX8_set_34 : decode cX8_set 34 = .ok (.iconst 2, 1) := by decide +kernel
theorem dX8_set_35 : decode cX8_set 35 = .ok (.if_icmp .ne 19, 3) := by decide +kernel
theorem dX8_set_38 : decode cX8_set 38 = .ok (.iload_n 2, 1) := by decide +kernel
theorem dX8_set_39 : decode cX8_set 39 = .ok (.i2l, 1) := by decide +kernel
theorem dX8_set_40 : decode cX8_set 40 = .ok (.lconst 0, 1) := by decide +kernel
theorem dX8_set_41 : decode cX8_set 41 = .ok (.ldc2_w 68, 3) := by decide +kernel
theorem dX8_set_44 : decode cX8_set 44 = .ok (.invokestatic 62, 3) := by decide +kernel
theorem dX8_set_47 : decode cX8_set 47 = .ok (.ifCond .eq 7, 3) := by decide +kernel
theorem dX8_set_50 : decode cX8_set 50 = .ok (.iconst 1, 1) := by decide +kernel
theorem dX8_set_51 : decode cX8_set 51 = .ok (.goto 4, 3) := by decide +kernel
theorem dX8_set_54 : decode cX8_set 54 = .ok (.iconst 0, 1) := by decide +kernel
theorem dX8_set_55 : decode cX8_set 55 = .ok (.istore_n 3, 1) := by decide +kernel
theorem dX8_set_56 : decode cX8_set 56 = .ok (.aload_n 0, 1) := by decide +kernel
theorem dX8_set_57 : decode cX8_set 57 = .ok (.iload_n 3, 1) := by decide +kernel
theorem dX8_set_58 : decode cX8_set 58 = .ok (.ifCond .eq 7, 3) := by decide +kernel
theorem dX8_set_61 : decode cX8_set 61 = .ok (.iconst 0, 1) := by decide +kernel
theorem dX8_set_62 : decode cX8_set 62 = .ok (.goto 4, 3) := by decide +kernel
theorem dX8_set_65 : decode cX8_set 65 = .ok (.iconst 1, 1) := by decide +kernel
theorem dX8_set_66 : decode cX8_set 66 = .ok (.invokevirtual 70, 3) := by decide +kernel
theorem dX8_set_69 : decode cX8_set 69 = .ok (.ifCond .eq 5, 3) := by decide +kernel
theorem dX8_set_72 : decode cX8_set 72 = .ok (.iconst 0, 1) := by decide +kernel
theorem dX8_set_73 : decode cX8_set 73 = .ok (.ireturn, 1) := by decide +kernel
theorem dX8_set_74 : decode cX8_set 74 = .ok (.aload_n 0, 1) := by decide +kernel
theorem dX8_set_75 : decode cX8_set 75 = .ok (.invokevirtual 74, 3) := by decide +kernel
theorem dX8_set_78 : decode cX8_set 78 = .ok (.aload_n 0, 1) := by decide +kernel
theorem dX8_set_79 : decode cX8_set 79 = .ok (.getfield 7, 3) := by decide +kernel
theorem dX8_set_82 : decode cX8_set 82 = .ok (.iload_n 1, 1) := by decide +kernel
theorem dX8_set_83 : decode cX8_set 83 = .ok (.iaload, 1) := by decide +kernel
theorem dX8_set_84 : decode cX8_set 84 = .ok (.istore 4, 2) := by decide +kernel
theorem dX8_set_86 : decode cX8_set 86 = .ok (.aload_n 0, 1) := by decide +kernel
theorem dX8_set_87 : decode cX8_set 87 = .ok (.getfield 7, 3) := by decide +kernel
theorem dX8_set_90 : decode cX8_set 90 = .ok (.iload_n 1, 1) := by decide +kernel
theorem dX8_set_91 : decode cX8_set 91 = .ok (.iload_n 2, 1) := by decide +kernel
theorem dX8_set_92 : decode cX8_set 92 = .ok (.iastore, 1) := by decide +kernel
theorem dX8_set_93 : decode cX8_set 93 = .ok (.iload 4, 2) := by decide +kernel
theorem dX8_set_95 : decode cX8_set 95 = .ok (.ireturn, 1) := by decide +kernel
theorem dX8_infoOf_0 : decode cX8_infoOf 0 = .ok (.iconst 0, 1) := by decide +kernel
theorem dX8_infoOf_1 : decode cX8_infoOf 1 = .ok (.istore_n 2, 1) := by decide +kernel
theorem dX8_infoOf_2 : decode cX8_infoOf 2 = .ok (.iconst 0, 1) := by decide +kernel
theorem dX8_infoOf_3 : decode cX8_infoOf 3 = .ok (.istore_n 3, 1) := by decide +kernel
theorem dX8_infoOf_4 : decode cX8_infoOf 4 = .ok (.iload_n 3, 1) := by decide +kernel
theorem dX8_infoOf_5 : decode cX8_infoOf 5 = .ok (.aload_n 0, 1) := by decide +kernel
theorem dX8_infoOf_6 : decode cX8_infoOf 6 = .ok (.getfield 7, 3) := by decide +kernel
theorem dX8_infoOf_9 : decode cX8_infoOf 9 = .ok (.iconst 5, 1) := by decide +kernel
theorem dX8_infoOf_10 : decode cX8_infoOf 10 = .ok (.iaload, 1) := by decide +kernel
theorem dX8_infoOf_11 : decode cX8_infoOf 11 = .ok (.if_icmp .ge 23, 3) := by decide +kernel
theorem dX8_infoOf_14 : decode cX8_infoOf 14 = .ok (.iload_n 1, 1) := by decide +kernel
theorem dX8_infoOf_15 : decode cX8_infoOf 15 = .ok (.bipush 6, 2) := by decide +kernel
theorem dX8_infoOf_17 : decode cX8_infoOf 17 = .ok (.if_icmp .ne 17, 3) := by decide +kernel
theorem dX8_infoOf_20 : decode cX8_infoOf 20 = .ok (.iload_n 2, 1) := by decide +kernel
theorem dX8_infoOf_21 : decode cX8_infoOf 21 = .ok (.aload_n 0, 1) := by decide +kernel
theorem dX8_infoOf_22 : decode cX8_infoOf 22 = .ok (.iload_n 3, 1) := by decide +kernel
theorem dX8_infoOf_23 : decode cX8_infoOf 23 = .ok (.invokevirtual 77, 3) := by decide +kernel
theorem dX8_infoOf_26 : decode cX8_infoOf 26 = .ok (.iadd, 1) := by decide +kernel
theorem dX8_infoOf_27 : decode cX8_infoOf 27 = .ok (.istore_n 2, 1) := by decide +kernel
theorem dX8_infoOf_28 : decode cX8_infoOf 28 = .ok (.iinc 3 1, 3) := by decide +kernel
theorem dX8_infoOf_31 : decode cX8_infoOf 31 = .ok (.goto (-27), 3) := by decide +kernel
theorem dX8_infoOf_34 : decode cX8_infoOf 34 = .ok (.iconst 0, 1) := by decide +kernel
theorem dX8_infoOf_35 : decode cX8_infoOf 35 = .ok (.istore_n 3, 1) := by decide +kernel
theorem dX8_infoOf_36 : decode cX8_infoOf 36 = .ok (.iload_n 3, 1) := by decide +kernel
theorem dX8_infoOf_37 : decode cX8_infoOf 37 = .ok (.aload_n 0, 1) := by decide +kernel
theorem dX8_infoOf_38 : decode cX8_infoOf 38 = .ok (.getfield 7, 3) := by decide +kernel
theorem dX8_infoOf_41 : decode cX8_infoOf 41 = .ok (.iconst 3, 1) := by decide +kernel
theorem dX8_infoOf_42 : decode cX8_infoOf 42 = .ok (.iaload, 1) := by decide +kernel
theorem dX8_infoOf_43 : decode cX8_infoOf 43 = .ok (.if_icmp .ge 24, 3) := by decide +kernel
theorem dX8_infoOf_46 : decode cX8_infoOf 46 = .ok (.iload_n 1, 1) := by decide +kernel
theorem dX8_infoOf_47 : decode cX8_infoOf 47 = .ok (.bipush 7, 2) := by decide +kernel
theorem dX8_infoOf_49 : decode cX8_infoOf 49 = .ok (.if_icmp .ne 18, 3) := by decide +kernel
theorem dX8_infoOf_52 : decode cX8_infoOf 52 = .ok (.iload_n 2, 1) := by decide +kernel
theorem dX8_infoOf_53 : decode cX8_infoOf 53 = .ok (.aload_n 0, 1) := by decide +kernel
theorem dX8_infoOf_54 : decode cX8_infoOf 54 = .ok (.iload_n 3, 1) := by decide +kernel
theorem dX8_infoOf_55 : decode cX8_infoOf 55 = .ok (.iconst 2, 1) := by decide +kernel
theorem dX8_infoOf_56 : decode cX8_infoOf 56 = .ok (.invokevirtual 81, 3) := by decide +kernel
theorem dX8_infoOf_59 : decode cX8_infoOf 59 = .ok (.iadd, 1) := by decide +kernel
theorem dX8_infoOf_60 : decode cX8_infoOf 60 = .ok (.istore_n 2, 1) := by decide +kernel
theorem dX8_infoOf_61 : decode cX8_infoOf 61 = .ok (.iinc 3 1, 3) := by decide +kernel
theorem dX8_infoOf_64 : decode cX8_infoOf 64 = .ok (.goto (-28), 3) := by decide +kernel
theorem dX8_infoOf_67 : decode cX8_infoOf 67 = .ok (.iload_n 1, 1) := by decide +kernel
theorem dX8_infoOf_68 : decode cX8_infoOf 68 = .ok (.bipush 6, 2) := by decide +kernel
theorem dX8_infoOf_70 : decode cX8_infoOf 70 = .ok (.if_icmp .ge 12, 3) := by decide +kernel
theorem dX8_infoOf_73 : decode cX8_infoOf 73 = .ok (.aload_n 0, 1) := by decide +kernel
theorem dX8_infoOf_74 : decode cX8_infoOf 74 = .ok (.getfield 7, 3) := by decide +kernel
theorem dX8_infoOf_77 : decode cX8_infoOf 77 = .ok (.iload_n 1, 1) := by decide +kernel
theorem dX8_infoOf_78 : decode cX8_infoOf 78 = .ok (.iaload, 1) := by decide +kernel
theorem dX8_infoOf_79 : decode cX8_infoOf 79 = .ok (.goto 4, 3) := by decide +kernel
theorem dX8_infoOf_82 : decode cX8_infoOf 82 = .ok (.iload_n 2, 1) := by decide +kernel
theorem dX8_infoOf_83 : decode cX8_infoOf 83 = .ok (.ireturn, 1) := by decide +kernel
theorem dX8_info_0 : decode cX8_info 0 = .ok (.aload_n 0, 1) := by decide +kernel
theorem dX8_info_1 : decode cX8_info 1 = .ok (.iload_n 1, 1) := by decide +kernel
theorem dX8_info_2 : decode cX8_info 2 = .ok (.i2l, 1) := by decide +kernel
theorem dX8_info_3 : decode cX8_info 3 = .ok (.lconst 0, 1) := by decide +kernel
theorem dX8_info_4 : decode cX8_info 4 = .ok (.ldc2_w 84, 3) := by decide +kernel
theorem dX8_info_7 : decode cX8_info 7 = .ok (.invokestatic 62, 3) := by decide +kernel
theorem dX8_info_10 : decode cX8_info 10 = .ok (.ifCond .eq 7, 3) := by decide +kernel
theorem dX8_info_13 : decode cX8_info 13 = .ok (.iconst 0, 1) := by decide +kernel
theorem dX8_info_14 : decode cX8_info 14 = .ok (.goto 4, 3) := by decide +kernel
theorem dX8_info_17 : decode cX8_info 17 = .ok (.iconst 1, 1) := by decide +kernel
theorem dX8_info_18 : decode cX8_info 18 = .ok (.invokevirtual 70, 3) := by decide +kernel
theorem dX8_info_21 : decode cX8_info 21 = .ok (.ifCond .eq 7, 3) := by decide +kernel
theorem dX8_info_24 : decode cX8_info 24 = .ok (.iconst 0, 1) := by decide +kernel
theorem dX8_info_25 : decode cX8_info 25 = .ok (.goto 8, 3) := by decide +kernel
theorem dX8_info_28 : decode cX8_info 28 = .ok (.aload_n 0, 1) := by decide +kernel
theorem dX8_info_29 : decode cX8_info 29 = .ok (.iload_n 1, 1) := by decide +kernel
theorem dX8_info_30 : decode cX8_info 30 = .ok (.invokevirtual 86, 3) := by decide +kernel
theorem dX8_info_33 : decode cX8_info 33 = .ok (.ireturn, 1) := by decide +kernel
theorem dX8_isFar_0 : decode cX8_isFar 0 = .ok (.iload_n 0, 1) := by decide +kernel
theorem dX8_isFar_1 : decode cX8_isFar 1 = .ok (.i2l, 1) := by decide +kernel
theorem dX8_isFar_2 : decode cX8_isFar 2 = .ok (.ldc2_w 89, 3) := by decide +kernel
theorem dX8_isFar_5 : decode cX8_isFar 5 = .ok (.ldc2_w 91, 3) := by decide +kernel
theorem dX8_isFar_8 : decode cX8_isFar 8 = .ok (.invokestatic 62, 3) := by decide +kernel
theorem dX8_isFar_11 : decode cX8_isFar 11 = .ok (.ireturn, 1) := by decide +kernel
theorem dX8_hang_0 : decode cX8_hang 0 = .ok (.aload_n 0, 1) := by decide +kernel
theorem dX8_hang_1 : decode cX8_hang 1 = .ok (.iload_n 1, 1) := by decide +kernel
theorem dX8_hang_2 : decode cX8_hang 2 = .ok (.invokestatic 93, 3) := by decide +kernel
theorem dX8_hang_5 : decode cX8_hang 5 = .ok (.ifCond .eq 10, 3) := by decide +kernel
theorem dX8_hang_8 : decode cX8_hang 8 = .ok (.iload_n 2, 1) := by decide +kernel
theorem dX8_hang_9 : decode cX8_hang 9 = .ok (.invokestatic 93, 3) := by decide +kernel
theorem dX8_hang_12 : decode cX8_hang 12 = .ok (.ifCond .ne 7, 3) := by decide +kernel
theorem dX8_hang_15 : decode cX8_hang 15 = .ok (.iconst 1, 1) := by decide +kernel
theorem dX8_hang_16 : decode cX8_hang 16 = .ok (.goto 19, 3) := by decide +kernel
theorem dX8_hang_19 : decode cX8_hang 19 = .ok (.aload_n 0, 1) := by decide +kernel
theorem dX8_hang_20 : decode cX8_hang 20 = .ok (.getfield 7, 3) := by decide +kernel
theorem dX8_hang_23 : decode cX8_hang 23 = .ok (.iconst 3, 1) := by decide +kernel
theorem dX8_hang_24 : decode cX8_hang 24 = .ok (.iaload, 1) := by decide +kernel
theorem dX8_hang_25 : decode cX8_hang 25 = .ok (.bipush 6, 2) := by decide +kernel
theorem dX8_hang_27 : decode cX8_hang 27 = .ok (.if_icmp .ne 7, 3) := by decide +kernel
theorem dX8_hang_30 : decode cX8_hang 30 = .ok (.iconst 2, 1) := by decide +kernel
theorem dX8_hang_31 : decode cX8_hang 31 = .ok (.goto 4, 3) := by decide +kernel
theorem dX8_hang_34 : decode cX8_hang 34 = .ok (.iconst 0, 1) := by decide +kernel
theorem dX8_hang_35 : decode cX8_hang 35 = .ok (.invokevirtual 70, 3) := by decide +kernel
theorem dX8_hang_38 : decode cX8_hang 38 = .ok (.ifCond .eq 5, 3) := by decide +kernel
theorem dX8_hang_41 : decode cX8_hang 41 = .ok (.iconst 0, 1) := by decide +kernel
theorem dX8_hang_42 : decode cX8_hang 42 = .ok (.ireturn, 1) := by decide +kernel
theorem dX8_hang_43 : decode cX8_hang 43 = .ok (.aload_n 0, 1) := by decide +kernel
theorem dX8_hang_44 : decode cX8_hang 44 = .ok (.invokevirtual 74, 3) := by decide +kernel
theorem dX8_hang_47 : decode cX8_hang 47 = .ok (.bipush 6, 2) := by decide +kernel
theorem dX8_hang_49 : decode cX8_hang 49 = .ok (.bipush 12, 2) := by decide +kernel
theorem dX8_hang_51 : decode cX8_hang 51 = .ok (.aload_n 0, 1) := by decide +kernel
theorem dX8_hang_52 : decode cX8_hang 52 = .ok (.getfield 7, 3) := by decide +kernel
theorem dX8_hang_55 : decode cX8_hang 55 = .ok (.iconst 3, 1) := by decide +kernel
theorem dX8_hang_56 : decode cX8_hang 56 = .ok (.iaload, 1) := by decide +kernel
theorem dX8_hang_57 : decode cX8_hang 57 = .ok (.imul, 1) := by decide +kernel
theorem dX8_hang_58 : decode cX8_hang 58 = .ok (.iadd, 1) := by decide +kernel
theorem dX8_hang_59 : decode cX8_hang 59 = .ok (.istore_n 3, 1) := by decide +kernel
theorem dX8_hang_60 : decode cX8_hang 60 = .ok (.aload_n 0, 1) := by decide +kernel
theorem dX8_hang_61 : decode cX8_hang 61 = .ok (.getfield 7, 3) := by decide +kernel
theorem dX8_hang_64 : decode cX8_hang 64 = .ok (.iload_n 3, 1) := by decide +kernel
theorem dX8_hang_65 : decode cX8_hang 65 = .ok (.iload_n 1, 1) := by decide +kernel
theorem dX8_hang_66 : decode cX8_hang 66 = .ok (.iastore, 1) := by decide +kernel
theorem dX8_hang_67 : decode cX8_hang 67 = .ok (.aload_n 0, 1) := by decide +kernel
theorem dX8_hang_68 : decode cX8_hang 68 = .ok (.getfield 7, 3) := by decide +kernel
theorem dX8_hang_71 : decode cX8_hang 71 = .ok (.iload_n 3, 1) := by decide +kernel
theorem dX8_hang_72 : decode cX8_hang 72 = .ok (.iconst 1, 1) := by decide +kernel
theorem dX8_hang_73 : decode cX8_hang 73 = .ok (.iadd, 1) := by decide +kernel
theorem dX8_hang_74 : decode cX8_hang 74 = .ok (.iload_n 2, 1) := by decide +kernel
theorem dX8_hang_75 : decode cX8_hang 75 = .ok (.iastore, 1) := by decide +kernel
theorem dX8_hang_76 : decode cX8_hang 76 = .ok (.aload_n 0, 1) := by decide +kernel
theorem dX8_hang_77 : decode cX8_hang 77 = .ok (.getfield 7, 3) := by decide +kernel
theorem dX8_hang_80 : decode cX8_hang 80 = .ok (.iload_n 3, 1) := by decide +kernel
theorem dX8_hang_81 : decode cX8_hang 81 = .ok (.iconst 2, 1) := by decide +kernel
theorem dX8_hang_82 : decode cX8_hang 82 = .ok (.iadd, 1) := by decide +kernel
theorem dX8_hang_83 : decode cX8_hang 83 = .ok (.iconst 0, 1) := by decide +kernel
theorem dX8_hang_84 : decode cX8_hang 84 = .ok (.iastore, 1) := by decide +kernel
theorem dX8_hang_85 : decode cX8_hang 85 = .ok (.aload_n 0, 1) := by decide +kernel
theorem dX8_hang_86 : decode cX8_hang 86 = .ok (.getfield 7, 3) := by decide +kernel
theorem dX8_hang_89 : decode cX8_hang 89 = .ok (.iconst 3, 1) := by decide +kernel
theorem dX8_hang_90 : decode cX8_hang 90 = .ok (.dup2, 1) := by decide +kernel
theorem dX8_hang_91 : decode cX8_hang 91 = .ok (.iaload, 1) := by decide +kernel
theorem dX8_hang_92 : decode cX8_hang 92 = .ok (.iconst 1, 1) := by decide +kernel
theorem dX8_hang_93 : decode cX8_hang 93 = .ok (.iadd, 1) := by decide +kernel
theorem dX8_hang_94 : decode cX8_hang 94 = .ok (.iastore, 1) := by decide +kernel
theorem dX8_hang_95 : decode cX8_hang 95 = .ok (.aload_n 0, 1) := by decide +kernel
theorem dX8_hang_96 : decode cX8_hang 96 = .ok (.getfield 7, 3) := by decide +kernel
theorem dX8_hang_99 : decode cX8_hang 99 = .ok (.iconst 3, 1) := by decide +kernel
theorem dX8_hang_100 : decode cX8_hang 100 = .ok (.iaload, 1) := by decide +kernel
theorem dX8_hang_101 : decode cX8_hang 101 = .ok (.iconst 1, 1) := by decide +kernel
theorem dX8_hang_102 : decode cX8_hang 102 = .ok (.isub, 1) := by decide +kernel
theorem dX8_hang_103 : decode cX8_hang 103 = .ok (.ireturn, 1) := by decide +kernel
theorem dX8_swing_0 : decode cX8_swing 0 = .ok (.aload_n 0, 1) := by decide +kernel
theorem dX8_swing_1 : decode cX8_swing 1 = .ok (.aload_n 0, 1) := by decide +kernel
theorem dX8_swing_2 : decode cX8_swing 2 = .ok (.iload_n 1, 1) := by decide +kernel
theorem dX8_swing_3 : decode cX8_swing 3 = .ok (.invokevirtual 96, 3) := by decide +kernel
theorem dX8_swing_6 : decode cX8_swing 6 = .ok (.ifCond .ne 7, 3) := by decide +kernel
theorem dX8_swing_9 : decode cX8_swing 9 = .ok (.iconst 1, 1) := by decide +kernel
theorem dX8_swing_10 : decode cX8_swing 10 = .ok (.goto 35, 3) := by decide +kernel
theorem dX8_swing_13 : decode cX8_swing 13 = .ok (.iload_n 2, 1) := by decide +kernel
theorem dX8_swing_14 : decode cX8_swing 14 = .ok (.i2l, 1) := by decide +kernel
theorem dX8_swing_15 : decode cX8_swing 15 = .ok (.lconst 0, 1) := by decide +kernel
theorem dX8_swing_16 : decode cX8_swing 16 = .ok (.ldc2_w 60, 3) := by decide +kernel
theorem dX8_swing_19 : decode cX8_swing 19 = .ok (.invokestatic 62, 3) := by decide +kernel
theorem dX8_swing_22 : decode cX8_swing 22 = .ok (.ifCond .ne 7, 3) := by decide +kernel
theorem dX8_swing_25 : decode cX8_swing 25 = .ok (.iconst 2, 1) := by decide +kernel
theorem dX8_swing_26 : decode cX8_swing 26 = .ok (.goto 19, 3) := by decide +kernel
theorem dX8_swing_29 : decode cX8_swing 29 = .ok (.aload_n 0, 1) := by decide +kernel
theorem dX8_swing_30 : decode cX8_swing 30 = .ok (.iload_n 1, 1) := by decide +kernel
theorem dX8_swing_31 : decode cX8_swing 31 = .ok (.iconst 2, 1) := by decide +kernel
theorem dX8_swing_32 : decode cX8_swing 32 = .ok (.invokevirtual 81, 3) := by decide +kernel
theorem dX8_swing_35 : decode cX8_swing 35 = .ok (.bipush 9, 2) := by decide +kernel
theorem dX8_swing_37 : decode cX8_swing 37 = .ok (.if_icmp .ne 7, 3) := by decide +kernel
theorem dX8_swing_40 : decode cX8_swing 40 = .ok (.iconst 3, 1) := by decide +kernel
theorem dX8_swing_41 : decode cX8_swing 41 = .ok (.goto 4, 3) := by decide +kernel
theorem dX8_swing_44 : decode cX8_swing 44 = .ok (.iconst 0, 1) := by decide +kernel
theorem dX8_swing_45 : decode cX8_swing 45 = .ok (.invokevirtual 70, 3) := by decide +kernel
theorem dX8_swing_48 : decode cX8_swing 48 = .ok (.ifCond .eq 5, 3) := by decide +kernel
theorem dX8_swing_51 : decode cX8_swing 51 = .ok (.iconst 0, 1) := by decide +kernel
theorem dX8_swing_52 : decode cX8_swing 52 = .ok (.ireturn, 1) := by decide +kernel
theorem dX8_swing_53 : decode cX8_swing 53 = .ok (.aload_n 0, 1) := by decide +kernel
theorem dX8_swing_54 : decode cX8_swing 54 = .ok (.invokevirtual 74, 3) := by decide +kernel
theorem dX8_swing_57 : decode cX8_swing 57 = .ok (.bipush 6, 2) := by decide +kernel
theorem dX8_swing_59 : decode cX8_swing 59 = .ok (.bipush 12, 2) := by decide +kernel
theorem dX8_swing_61 : decode cX8_swing 61 = .ok (.iload_n 1, 1) := by decide +kernel
theorem dX8_swing_62 : decode cX8_swing 62 = .ok (.imul, 1) := by decide +kernel
theorem dX8_swing_63 : decode cX8_swing 63 = .ok (.iadd, 1) := by decide +kernel
theorem dX8_swing_64 : decode cX8_swing 64 = .ok (.istore_n 3, 1) := by decide +kernel
theorem dX8_swing_65 : decode cX8_swing 65 = .ok (.aload_n 0, 1) := by decide +kernel
theorem dX8_swing_66 : decode cX8_swing 66 = .ok (.getfield 7, 3) := by decide +kernel
theorem dX8_swing_69 : decode cX8_swing 69 = .ok (.iload_n 3, 1) := by decide +kernel
theorem dX8_swing_70 : decode cX8_swing 70 = .ok (.iconst 3, 1) := by decide +kernel
theorem dX8_swing_71 : decode cX8_swing 71 = .ok (.iadd, 1) := by decide +kernel
theorem dX8_swing_72 : decode cX8_swing 72 = .ok (.aload_n 0, 1) := by decide +kernel
theorem dX8_swing_73 : decode cX8_swing 73 = .ok (.getfield 7, 3) := by decide +kernel
theorem dX8_swing_76 : decode cX8_swing 76 = .ok (.iload_n 3, 1) := by decide +kernel
theorem dX8_swing_77 : decode cX8_swing 77 = .ok (.iconst 2, 1) := by decide +kernel
theorem dX8_swing_78 : decode cX8_swing 78 = .ok (.iadd, 1) := by decide +kernel
theorem dX8_swing_79 : decode cX8_swing 79 = .ok (.iaload, 1) := by decide +kernel
theorem dX8_swing_80 : decode cX8_swing 80 = .ok (.iadd, 1) := by decide +kernel
theorem dX8_swing_81 : decode cX8_swing 81 = .ok (.iload_n 2, 1) := by decide +kernel
theorem dX8_swing_82 : decode cX8_swing 82 = .ok (.iastore, 1) := by decide +kernel
theorem dX8_swing_83 : decode cX8_swing 83 = .ok (.aload_n 0, 1) := by decide +kernel
theorem dX8_swing_84 : decode cX8_swing 84 = .ok (.getfield 7, 3) := by decide +kernel
theorem dX8_swing_87 : decode cX8_swing 87 = .ok (.iload_n 3, 1) := by decide +kernel
theorem dX8_swing_88 : decode cX8_swing 88 = .ok (.iconst 2, 1) := by decide +kernel
theorem dX8_swing_89 : decode cX8_swing 89 = .ok (.iadd, 1) := by decide +kernel
theorem dX8_swing_90 : decode cX8_swing 90 = .ok (.dup2, 1) := by decide +kernel
theorem dX8_swing_91 : decode cX8_swing 91 = .ok (.iaload, 1) := by decide +kernel
theorem dX8_swing_92 : decode cX8_swing 92 = .ok (.iconst 1, 1) := by decide +kernel
theorem dX8_swing_93 : decode cX8_swing 93 = .ok (.iadd, 1) := by decide +kernel
theorem dX8_swing_94 : decode cX8_swing 94 = .ok (.iastore, 1) := by decide +kernel
theorem dX8_swing_95 : decode cX8_swing 95 = .ok (.aload_n 0, 1) := by decide +kernel
theorem dX8_swing_96 : decode cX8_swing 96 = .ok (.getfield 7, 3) := by decide +kernel
theorem dX8_swing_99 : decode cX8_swing 99 = .ok (.iload_n 3, 1) := by decide +kernel
theorem dX8_swing_100 : decode cX8_swing 100 = .ok (.iconst 2, 1) := by decide +kernel
theorem dX8_swing_101 : decode cX8_swing 101 = .ok (.iadd, 1) := by decide +kernel
theorem dX8_swing_102 : decode cX8_swing 102 = .ok (.iaload, 1) := by decide +kernel
theorem dX8_swing_103 : decode cX8_swing 103 = .ok (.ireturn, 1) := by decide +kernel
theorem dX8_still_0 : decode cX8_still 0 = .ok (.aload_n 0, 1) := by decide +kernel
theorem dX8_still_1 : decode cX8_still 1 = .ok (.aload_n 0, 1) := by decide +kernel
theorem dX8_still_2 : decode cX8_still 2 = .ok (.iload_n 1, 1) := by decide +kernel
theorem dX8_still_3 : decode cX8_still 3 = .ok (.invokevirtual 96, 3) := by decide +kernel
theorem dX8_still_6 : decode cX8_still 6 = .ok (.ifCond .eq 7, 3) := by decide +kernel
theorem dX8_still_9 : decode cX8_still 9 = .ok (.iconst 0, 1) := by decide +kernel
theorem dX8_still_10 : decode cX8_still 10 = .ok (.goto 4, 3) := by decide +kernel
theorem dX8_still_13 : decode cX8_still 13 = .ok (.iconst 1, 1) := by decide +kernel
theorem dX8_still_14 : decode cX8_still 14 = .ok (.invokevirtual 70, 3) := by decide +kernel
theorem dX8_still_17 : decode cX8_still 17 = .ok (.ifCond .eq 5, 3) := by decide +kernel
theorem dX8_still_20 : decode cX8_still 20 = .ok (.iconst 0, 1) := by decide +kernel
theorem dX8_still_21 : decode cX8_still 21 = .ok (.ireturn, 1) := by decide +kernel
theorem dX8_still_22 : decode cX8_still 22 = .ok (.aload_n 0, 1) := by decide +kernel
theorem dX8_still_23 : decode cX8_still 23 = .ok (.invokevirtual 74, 3) := by decide +kernel
theorem dX8_still_26 : decode cX8_still 26 = .ok (.aload_n 0, 1) := by decide +kernel
theorem dX8_still_27 : decode cX8_still 27 = .ok (.iload_n 1, 1) := by decide +kernel
theorem dX8_still_28 : decode cX8_still 28 = .ok (.iconst 2, 1) := by decide +kernel
theorem dX8_still_29 : decode cX8_still 29 = .ok (.invokevirtual 81, 3) := by decide +kernel
theorem dX8_still_32 : decode cX8_still 32 = .ok (.istore_n 2, 1) := by decide +kernel
theorem dX8_still_33 : decode cX8_still 33 = .ok (.aload_n 0, 1) := by decide +kernel
theorem dX8_still_34 : decode cX8_still 34 = .ok (.getfield 7, 3) := by decide +kernel
theorem dX8_still_37 : decode cX8_still 37 = .ok (.bipush 6, 2) := by decide +kernel
theorem dX8_still_39 : decode cX8_still 39 = .ok (.bipush 12, 2) := by decide +kernel
theorem dX8_still_41 : decode cX8_still 41 = .ok (.iload_n 1, 1) := by decide +kernel
theorem dX8_still_42 : decode cX8_still 42 = .ok (.imul, 1) := by decide +kernel
theorem dX8_still_43 : decode cX8_still 43 = .ok (.iadd, 1) := by decide +kernel
theorem dX8_still_44 : decode cX8_still 44 = .ok (.iconst 2, 1) := by decide +kernel
theorem dX8_still_45 : decode cX8_still 45 = .ok (.iadd, 1) := by decide +kernel
theorem dX8_still_46 : decode cX8_still 46 = .ok (.iconst 0, 1) := by decide +kernel
theorem dX8_still_47 : decode cX8_still 47 = .ok (.iastore, 1) := by decide +kernel
theorem dX8_still_48 : decode cX8_still 48 = .ok (.iload_n 2, 1) := by decide +kernel
theorem dX8_still_49 : decode cX8_still 49 = .ok (.ireturn, 1) := by decide +kernel
theorem dX8_driftOf_0 : decode cX8_driftOf 0 = .ok (.iconst 0, 1) := by decide +kernel
theorem dX8_driftOf_1 : decode cX8_driftOf 1 = .ok (.istore_n 2, 1) := by decide +kernel
theorem dX8_driftOf_2 : decode cX8_driftOf 2 = .ok (.iconst 2, 1) := by decide +kernel
theorem dX8_driftOf_3 : decode cX8_driftOf 3 = .ok (.istore_n 3, 1) := by decide +kernel
theorem dX8_driftOf_4 : decode cX8_driftOf 4 = .ok (.iload_n 3, 1) := by decide +kernel
theorem dX8_driftOf_5 : decode cX8_driftOf 5 = .ok (.aload_n 0, 1) := by decide +kernel
theorem dX8_driftOf_6 : decode cX8_driftOf 6 = .ok (.iload_n 1, 1) := by decide +kernel
theorem dX8_driftOf_7 : decode cX8_driftOf 7 = .ok (.iconst 2, 1) := by decide +kernel
theorem dX8_driftOf_8 : decode cX8_driftOf 8 = .ok (.invokevirtual 81, 3) := by decide +kernel
theorem dX8_driftOf_11 : decode cX8_driftOf 11 = .ok (.if_icmp .ge 44, 3) := by decide +kernel
theorem dX8_driftOf_14 : decode cX8_driftOf 14 = .ok (.aload_n 0, 1) := by decide +kernel
theorem dX8_driftOf_15 : decode cX8_driftOf 15 = .ok (.iload_n 1, 1) := by decide +kernel
theorem dX8_driftOf_16 : decode cX8_driftOf 16 = .ok (.iconst 3, 1) := by decide +kernel
theorem dX8_driftOf_17 : decode cX8_driftOf 17 = .ok (.iload_n 3, 1) := by decide +kernel
theorem dX8_driftOf_18 : decode cX8_driftOf 18 = .ok (.iadd, 1) := by decide +kernel
theorem dX8_driftOf_19 : decode cX8_driftOf 19 = .ok (.invokevirtual 81, 3) := by decide +kernel
theorem dX8_driftOf_22 : decode cX8_driftOf 22 = .ok (.aload_n 0, 1) := by decide +kernel
theorem dX8_driftOf_23 : decode cX8_driftOf 23 = .ok (.iload_n 1, 1) := by decide +kernel
theorem dX8_driftOf_24 : decode cX8_driftOf 24 = .ok (.iconst 1, 1) := by decide +kernel
theorem dX8_driftOf_25 : decode cX8_driftOf 25 = .ok (.iload_n 3, 1) := by decide +kernel
theorem dX8_driftOf_26 : decode cX8_driftOf 26 = .ok (.iadd, 1) := by decide +kernel
theorem dX8_driftOf_27 : decode cX8_driftOf 27 = .ok (.invokevirtual 81, 3) := by decide +kernel
theorem dX8_driftOf_30 : decode cX8_driftOf 30 = .ok (.isub, 1) := by decide +kernel
theorem dX8_driftOf_31 : decode cX8_driftOf 31 = .ok (.invokestatic 99, 3) := by decide +kernel
theorem dX8_driftOf_34 : decode cX8_driftOf 34 = .ok (.istore 4, 2) := by decide +kernel
theorem dX8_driftOf_36 : decode cX8_driftOf 36 = .ok (.iload 4, 2) := by decide +kernel
theorem dX8_driftOf_38 : decode cX8_driftOf 38 = .ok (.iload_n 2, 1) := by decide +kernel
theorem dX8_driftOf_39 : decode cX8_driftOf 39 = .ok (.if_icmp .le 8, 3) := by decide +kernel
theorem dX8_driftOf_42 : decode cX8_driftOf 42 = .ok (.iload 4, 2) := by decide +kernel
theorem dX8_driftOf_44 : decode cX8_driftOf 44 = .ok (.goto 4, 3) := by decide +kernel
theorem dX8_driftOf_47 : decode cX8_driftOf 47 = .ok (.iload_n 2, 1) := by decide +kernel
theorem dX8_driftOf_48 : decode cX8_driftOf 48 = .ok (.istore_n 2, 1) := by decide +kernel
theorem dX8_driftOf_49 : decode cX8_driftOf 49 = .ok (.iinc 3 1, 3) := by decide +kernel
theorem dX8_driftOf_52 : decode cX8_driftOf 52 = .ok (.goto (-48), 3) := by decide +kernel
theorem dX8_driftOf_55 : decode cX8_driftOf 55 = .ok (.iload_n 2, 1) := by decide +kernel
theorem dX8_driftOf_56 : decode cX8_driftOf 56 = .ok (.ireturn, 1) := by decide +kernel
theorem dX8_troubleOfWire_0 : decode cX8_troubleOfWire 0 = .ok (.aload_n 0, 1) := by decide +kernel
theorem dX8_troubleOfWire_1 : decode cX8_troubleOfWire 1 = .ok (.iload_n 1, 1) := by decide +kernel
theorem dX8_troubleOfWire_2 : decode cX8_troubleOfWire 2 = .ok (.iconst 2, 1) := by decide +kernel
theorem dX8_troubleOfWire_3 : decode cX8_troubleOfWire 3 = .ok (.invokevirtual 81, 3) := by decide +kernel
theorem dX8_troubleOfWire_6 : decode cX8_troubleOfWire 6 = .ok (.iconst 3, 1) := by decide +kernel
theorem dX8_troubleOfWire_7 : decode cX8_troubleOfWire 7 = .ok (.if_icmp .ge 7, 3) := by decide +kernel
theorem dX8_troubleOfWire_10 : decode cX8_troubleOfWire 10 = .ok (.iconst 1, 1) := by decide +kernel
theorem dX8_troubleOfWire_11 : decode cX8_troubleOfWire 11 = .ok (.goto 22, 3) := by decide +kernel
theorem dX8_troubleOfWire_14 : decode cX8_troubleOfWire 14 = .ok (.aload_n 0, 1) := by decide +kernel
theorem dX8_troubleOfWire_15 : decode cX8_troubleOfWire 15 = .ok (.iload_n 1, 1) := by decide +kernel
theorem dX8_troubleOfWire_16 : decode cX8_troubleOfWire 16 = .ok (.invokevirtual 102, 3) := by decide +kernel
theorem dX8_troubleOfWire_19 : decode cX8_troubleOfWire 19 = .ok (.aload_n 0, 1) := by decide +kernel
theorem dX8_troubleOfWire_20 : decode cX8_troubleOfWire 20 = .ok (.getfield 7, 3) := by decide +kernel
theorem dX8_troubleOfWire_23 : decode cX8_troubleOfWire 23 = .ok (.iconst 0, 1) := by decide +kernel
theorem dX8_troubleOfWire_24 : decode cX8_troubleOfWire 24 = .ok (.iaload, 1) := by decide +kernel
theorem dX8_troubleOfWire_25 : decode cX8_troubleOfWire 25 = .ok (.if_icmp .le 7, 3) := by decide +kernel
theorem dX8_troubleOfWire_28 : decode cX8_troubleOfWire 28 = .ok (.iconst 2, 1) := by decide +kernel
theorem dX8_troubleOfWire_29 : decode cX8_troubleOfWire 29 = .ok (.goto 4, 3) := by decide +kernel
theorem dX8_troubleOfWire_32 : decode cX8_troubleOfWire 32 = .ok (.iconst 0, 1) := by decide +kernel
theorem dX8_troubleOfWire_33 : decode cX8_troubleOfWire 33 = .ok (.ireturn, 1) := by decide +kernel
theorem dX8_restOf_0 : decode cX8_restOf 0 = .ok (.aload_n 0, 1) := by decide +kernel
theorem dX8_restOf_1 : decode cX8_restOf 1 = .ok (.iload_n 1, 1) := by decide +kernel
theorem dX8_restOf_2 : decode cX8_restOf 2 = .ok (.iconst 2, 1) := by decide +kernel
theorem dX8_restOf_3 : decode cX8_restOf 3 = .ok (.invokevirtual 81, 3) := by decide +kernel
theorem dX8_restOf_6 : decode cX8_restOf 6 = .ok (.istore_n 2, 1) := by decide +kernel
theorem dX8_restOf_7 : decode cX8_restOf 7 = .ok (.iconst 0, 1) := by decide +kernel
theorem dX8_restOf_8 : decode cX8_restOf 8 = .ok (.istore_n 3, 1) := by decide +kernel
theorem dX8_restOf_9 : decode cX8_restOf 9 = .ok (.iconst 0, 1) := by decide +kernel
theorem dX8_restOf_10 : decode cX8_restOf 10 = .ok (.istore 4, 2) := by decide +kernel
theorem dX8_restOf_12 : decode cX8_restOf 12 = .ok (.iload 4, 2) := by decide +kernel
theorem dX8_restOf_14 : decode cX8_restOf 14 = .ok (.iload_n 2, 1) := by decide +kernel
theorem dX8_restOf_15 : decode cX8_restOf 15 = .ok (.if_icmp .ge 40, 3) := by decide +kernel
theorem dX8_restOf_18 : decode cX8_restOf 18 = .ok (.iload_n 3, 1) := by decide +kernel
theorem dX8_restOf_19 : decode cX8_restOf 19 = .ok (.aload_n 0, 1) := by decide +kernel
theorem dX8_restOf_20 : decode cX8_restOf 20 = .ok (.iload_n 1, 1) := by decide +kernel
theorem dX8_restOf_21 : decode cX8_restOf 21 = .ok (.iconst 3, 1) := by decide +kernel
theorem dX8_restOf_22 : decode cX8_restOf 22 = .ok (.iload 4, 2) := by decide +kernel
theorem dX8_restOf_24 : decode cX8_restOf 24 = .ok (.iadd, 1) := by decide +kernel
theorem dX8_restOf_25 : decode cX8_restOf 25 = .ok (.invokevirtual 81, 3) := by decide +kernel
theorem dX8_restOf_28 : decode cX8_restOf 28 = .ok (.iload 4, 2) := by decide +kernel
theorem dX8_restOf_30 : decode cX8_restOf 30 = .ok (.ifCond .eq 11, 3) := by decide +kernel
theorem dX8_restOf_33 : decode cX8_restOf 33 = .ok (.iload 4, 2) := by decide +kernel
theorem dX8_restOf_35 : decode cX8_restOf 35 = .ok (.iload_n 2, 1) := by decide +kernel
theorem dX8_restOf_36 : decode cX8_restOf 36 = .ok (.iconst 1, 1) := by decide +kernel
theorem dX8_restOf_37 : decode cX8_restOf 37 = .ok (.isub, 1) := by decide +kernel
theorem dX8_restOf_38 : decode cX8_restOf 38 = .ok (.if_icmp .ne 7, 3) := by decide +kernel
theorem dX8_restOf_41 : decode cX8_restOf 41 = .ok (.iconst 1, 1) := by decide +kernel
theorem dX8_restOf_42 : decode cX8_restOf 42 = .ok (.goto 4, 3) := by decide +kernel
theorem dX8_restOf_45 : decode cX8_restOf 45 = .ok (.iconst 2, 1) := by decide +kernel
theorem dX8_restOf_46 : decode cX8_restOf 46 = .ok (.imul, 1) := by decide +kernel
theorem dX8_restOf_47 : decode cX8_restOf 47 = .ok (.iadd, 1) := by decide +kernel
theorem dX8_restOf_48 : decode cX8_restOf 48 = .ok (.istore_n 3, 1) := by decide +kernel
theorem dX8_restOf_49 : decode cX8_restOf 49 = .ok (.iinc 4 1, 3) := by decide +kernel
theorem dX8_restOf_52 : decode cX8_restOf 52 = .ok (.goto (-40), 3) := by decide +kernel
theorem dX8_restOf_55 : decode cX8_restOf 55 = .ok (.iload_n 2, 1) := by decide +kernel
theorem dX8_restOf_56 : decode cX8_restOf 56 = .ok (.iconst 3, 1) := by decide +kernel
theorem dX8_restOf_57 : decode cX8_restOf 57 = .ok (.if_icmp .ge 8, 3) := by decide +kernel
theorem dX8_restOf_60 : decode cX8_restOf 60 = .ok (.ldc 105, 2) := by decide +kernel
theorem dX8_restOf_62 : decode cX8_restOf 62 = .ok (.goto 10, 3) := by decide +kernel
theorem dX8_restOf_65 : decode cX8_restOf 65 = .ok (.iload_n 3, 1) := by decide +kernel
theorem dX8_restOf_66 : decode cX8_restOf 66 = .ok (.iconst 2, 1) := by decide +kernel
theorem dX8_restOf_67 : decode cX8_restOf 67 = .ok (.iload_n 2, 1) := by decide +kernel
theorem dX8_restOf_68 : decode cX8_restOf 68 = .ok (.iconst 1, 1) := by decide +kernel
theorem dX8_restOf_69 : decode cX8_restOf 69 = .ok (.isub, 1) := by decide +kernel
theorem dX8_restOf_70 : decode cX8_restOf 70 = .ok (.imul, 1) := by decide +kernel
theorem dX8_restOf_71 : decode cX8_restOf 71 = .ok (.idiv, 1) := by decide +kernel
theorem dX8_restOf_72 : decode cX8_restOf 72 = .ok (.ireturn, 1) := by decide +kernel
theorem dX8_wireOf_0 : decode cX8_wireOf 0 = .ok (.iload_n 2, 1) := by decide +kernel
theorem dX8_wireOf_1 : decode cX8_wireOf 1 = .ok (.iconst 3, 1) := by decide +kernel
theorem dX8_wireOf_2 : decode cX8_wireOf 2 = .ok (.if_icmp .ge 12, 3) := by decide +kernel
theorem dX8_wireOf_5 : decode cX8_wireOf 5 = .ok (.aload_n 0, 1) := by decide +kernel
theorem dX8_wireOf_6 : decode cX8_wireOf 6 = .ok (.iload_n 1, 1) := by decide +kernel
theorem dX8_wireOf_7 : decode cX8_wireOf 7 = .ok (.iload_n 2, 1) := by decide +kernel
theorem dX8_wireOf_8 : decode cX8_wireOf 8 = .ok (.invokevirtual 81, 3) := by decide +kernel
theorem dX8_wireOf_11 : decode cX8_wireOf 11 = .ok (.goto 34, 3) := by decide +kernel
theorem dX8_wireOf_14 : decode cX8_wireOf 14 = .ok (.iload_n 2, 1) := by decide +kernel
theorem dX8_wireOf_15 : decode cX8_wireOf 15 = .ok (.iconst 3, 1) := by decide +kernel
theorem dX8_wireOf_16 : decode cX8_wireOf 16 = .ok (.if_icmp .ne 11, 3) := by decide +kernel
theorem dX8_wireOf_19 : decode cX8_wireOf 19 = .ok (.aload_n 0, 1) := by decide +kernel
theorem dX8_wireOf_20 : decode cX8_wireOf 20 = .ok (.iload_n 1, 1) := by decide +kernel
theorem dX8_wireOf_21 : decode cX8_wireOf 21 = .ok (.invokevirtual 106, 3) := by decide +kernel
theorem dX8_wireOf_24 : decode cX8_wireOf 24 = .ok (.goto 21, 3) := by decide +kernel
theorem dX8_wireOf_27 : decode cX8_wireOf 27 = .ok (.iload_n 2, 1) := by decide +kernel
theorem dX8_wireOf_28 : decode cX8_wireOf 28 = .ok (.iconst 4, 1) := by decide +kernel
theorem dX8_wireOf_29 : decode cX8_wireOf 29 = .ok (.if_icmp .ne 11, 3) := by decide +kernel
theorem dX8_wireOf_32 : decode cX8_wireOf 32 = .ok (.aload_n 0, 1) := by decide +kernel
theorem dX8_wireOf_33 : decode cX8_wireOf 33 = .ok (.iload_n 1, 1) := by decide +kernel
theorem dX8_wireOf_34 : decode cX8_wireOf 34 = .ok (.invokevirtual 109, 3) := by decide +kernel
theorem dX8_wireOf_37 : decode cX8_wireOf 37 = .ok (.goto 8, 3) := by decide +kernel
theorem dX8_wireOf_40 : decode cX8_wireOf 40 = .ok (.aload_n 0, 1) := by decide +kernel
theorem dX8_wireOf_41 : decode cX8_wireOf 41 = .ok (.iload_n 1, 1) := by decide +kernel
theorem dX8_wireOf_42 : decode cX8_wireOf 42 = .ok (.invokevirtual 102, 3) := by decide +kernel
theorem dX8_wireOf_45 : decode cX8_wireOf 45 = .ok (.ireturn, 1) := by decide +kernel
theorem dX8_wire_0 : decode cX8_wire 0 = .ok (.aload_n 0, 1) := by decide +kernel
theorem dX8_wire_1 : decode cX8_wire 1 = .ok (.aload_n 0, 1) := by decide +kernel
theorem dX8_wire_2 : decode cX8_wire 2 = .ok (.iload_n 1, 1) := by decide +kernel
theorem dX8_wire_3 : decode cX8_wire 3 = .ok (.invokevirtual 96, 3) := by decide +kernel
theorem dX8_wire_6 : decode cX8_wire 6 = .ok (.ifCond .ne 7, 3) := by decide +kernel
theorem dX8_wire_9 : decode cX8_wire 9 = .ok (.iconst 1, 1) := by decide +kernel
theorem dX8_wire_10 : decode cX8_wire 10 = .ok (.goto 20, 3) := by decide +kernel
theorem dX8_wire_13 : decode cX8_wire 13 = .ok (.iload_n 2, 1) := by decide +kernel
theorem dX8_wire_14 : decode cX8_wire 14 = .ok (.i2l, 1) := by decide +kernel
theorem dX8_wire_15 : decode cX8_wire 15 = .ok (.lconst 0, 1) := by decide +kernel
theorem dX8_wire_16 : decode cX8_wire 16 = .ok (.ldc2_w 112, 3) := by decide +kernel
theorem dX8_wire_19 : decode cX8_wire 19 = .ok (.invokestatic 62, 3) := by decide +kernel
theorem dX8_wire_22 : decode cX8_wire 22 = .ok (.ifCond .eq 7, 3) := by decide +kernel
theorem dX8_wire_25 : decode cX8_wire 25 = .ok (.iconst 0, 1) := by decide +kernel
theorem dX8_wire_26 : decode cX8_wire 26 = .ok (.goto 4, 3) := by decide +kernel
theorem dX8_wire_29 : decode cX8_wire 29 = .ok (.iconst 2, 1) := by decide +kernel
theorem dX8_wire_30 : decode cX8_wire 30 = .ok (.invokevirtual 70, 3) := by decide +kernel
theorem dX8_wire_33 : decode cX8_wire 33 = .ok (.ifCond .eq 7, 3) := by decide +kernel
theorem dX8_wire_36 : decode cX8_wire 36 = .ok (.iconst 0, 1) := by decide +kernel
theorem dX8_wire_37 : decode cX8_wire 37 = .ok (.goto 9, 3) := by decide +kernel
theorem dX8_wire_40 : decode cX8_wire 40 = .ok (.aload_n 0, 1) := by decide +kernel
theorem dX8_wire_41 : decode cX8_wire 41 = .ok (.iload_n 1, 1) := by decide +kernel
theorem dX8_wire_42 : decode cX8_wire 42 = .ok (.iload_n 2, 1) := by decide +kernel
theorem dX8_wire_43 : decode cX8_wire 43 = .ok (.invokevirtual 114, 3) := by decide +kernel
theorem dX8_wire_46 : decode cX8_wire 46 = .ok (.ireturn, 1) := by decide +kernel
theorem dX8_isAngle_0 : decode cX8_isAngle 0 = .ok (.iload_n 0, 1) := by decide +kernel
theorem dX8_isAngle_1 : decode cX8_isAngle 1 = .ok (.i2l, 1) := by decide +kernel
theorem dX8_isAngle_2 : decode cX8_isAngle 2 = .ok (.lconst 0, 1) := by decide +kernel
theorem dX8_isAngle_3 : decode cX8_isAngle 3 = .ok (.ldc2_w 117, 3) := by decide +kernel
theorem dX8_isAngle_6 : decode cX8_isAngle 6 = .ok (.invokestatic 62, 3) := by decide +kernel
theorem dX8_isAngle_9 : decode cX8_isAngle 9 = .ok (.ireturn, 1) := by decide +kernel
theorem dX8_isSmall_0 : decode cX8_isSmall 0 = .ok (.iload_n 0, 1) := by decide +kernel
theorem dX8_isSmall_1 : decode cX8_isSmall 1 = .ok (.i2l, 1) := by decide +kernel
theorem dX8_isSmall_2 : decode cX8_isSmall 2 = .ok (.ldc2_w 119, 3) := by decide +kernel
theorem dX8_isSmall_5 : decode cX8_isSmall 5 = .ok (.ldc2_w 121, 3) := by decide +kernel
theorem dX8_isSmall_8 : decode cX8_isSmall 8 = .ok (.invokestatic 62, 3) := by decide +kernel
theorem dX8_isSmall_11 : decode cX8_isSmall 11 = .ok (.ireturn, 1) := by decide +kernel
theorem dX8_join_0 : decode cX8_join 0 = .ok (.iload_n 1, 1) := by decide +kernel
theorem dX8_join_1 : decode cX8_join 1 = .ok (.iload_n 2, 1) := by decide +kernel
theorem dX8_join_2 : decode cX8_join 2 = .ok (.if_icmp .eq 52, 3) := by decide +kernel
theorem dX8_join_5 : decode cX8_join 5 = .ok (.iload_n 3, 1) := by decide +kernel
theorem dX8_join_6 : decode cX8_join 6 = .ok (.invokestatic 123, 3) := by decide +kernel
theorem dX8_join_9 : decode cX8_join 9 = .ok (.ifCond .eq 45, 3) := by decide +kernel
theorem dX8_join_12 : decode cX8_join 12 = .ok (.iload 4, 2) := by decide +kernel
theorem dX8_join_14 : decode cX8_join 14 = .ok (.i2l, 1) := by decide +kernel
theorem dX8_join_15 : decode cX8_join 15 = .ok (.ldc2_w 126, 3) := by decide +kernel
theorem dX8_join_18 : decode cX8_join 18 = .ok (.ldc2_w 128, 3) := by decide +kernel
theorem dX8_join_21 : decode cX8_join 21 = .ok (.invokestatic 62, 3) := by decide +kernel
theorem dX8_join_24 : decode cX8_join 24 = .ok (.ifCond .eq 30, 3) := by decide +kernel
theorem dX8_join_27 : decode cX8_join 27 = .ok (.iload 5, 2) := by decide +kernel
theorem dX8_join_29 : decode cX8_join 29 = .ok (.i2l, 1) := by decide +kernel
theorem dX8_join_30 : decode cX8_join 30 = .ok (.ldc2_w 126, 3) := by decide +kernel
theorem dX8_join_33 : decode cX8_join 33 = .ok (.ldc2_w 130, 3) := by decide +kernel
theorem dX8_join_36 : decode cX8_join 36 = .ok (.invokestatic 62, 3) := by decide +kernel
theorem dX8_join_39 : decode cX8_join 39 = .ok (.ifCond .eq 15, 3) := by decide +kernel
theorem dX8_join_42 : decode cX8_join 42 = .ok (.iload 6, 2) := by decide +kernel
theorem dX8_join_44 : decode cX8_join 44 = .ok (.invokestatic 132, 3) := by decide +kernel
theorem dX8_join_47 : decode cX8_join 47 = .ok (.ifCond .eq 7, 3) := by decide +kernel
theorem dX8_join_50 : decode cX8_join 50 = .ok (.iconst 1, 1) := by decide +kernel
theorem dX8_join_51 : decode cX8_join 51 = .ok (.goto 4, 3) := by decide +kernel
theorem dX8_join_54 : decode cX8_join 54 = .ok (.iconst 0, 1) := by decide +kernel
theorem dX8_join_55 : decode cX8_join 55 = .ok (.istore 7, 2) := by decide +kernel
theorem dX8_join_57 : decode cX8_join 57 = .ok (.aload_n 0, 1) := by decide +kernel
theorem dX8_join_58 : decode cX8_join 58 = .ok (.aload_n 0, 1) := by decide +kernel
theorem dX8_join_59 : decode cX8_join 59 = .ok (.iload_n 1, 1) := by decide +kernel
theorem dX8_join_60 : decode cX8_join 60 = .ok (.invokevirtual 96, 3) := by decide +kernel
theorem dX8_join_63 : decode cX8_join 63 = .ok (.ifCond .eq 11, 3) := by decide +kernel
theorem dX8_join_66 : decode cX8_join 66 = .ok (.aload_n 0, 1) := by decide +kernel
theorem dX8_join_67 : decode cX8_join 67 = .ok (.iload_n 2, 1) := by decide +kernel
theorem dX8_join_68 : decode cX8_join 68 = .ok (.invokevirtual 96, 3) := by decide +kernel
theorem dX8_join_71 : decode cX8_join 71 = .ok (.ifCond .ne 7, 3) := by decide +kernel
theorem dX8_join_74 : decode cX8_join 74 = .ok (.iconst 1, 1) := by decide +kernel
theorem dX8_join_75 : decode cX8_join 75 = .ok (.goto 27, 3) := by decide +kernel
theorem dX8_join_78 : decode cX8_join 78 = .ok (.iload 7, 2) := by decide +kernel
theorem dX8_join_80 : decode cX8_join 80 = .ok (.ifCond .ne 7, 3) := by decide +kernel
theorem dX8_join_83 : decode cX8_join 83 = .ok (.iconst 2, 1) := by decide +kernel
theorem dX8_join_84 : decode cX8_join 84 = .ok (.goto 18, 3) := by decide +kernel
theorem dX8_join_87 : decode cX8_join 87 = .ok (.aload_n 0, 1) := by decide +kernel
theorem dX8_join_88 : decode cX8_join 88 = .ok (.getfield 7, 3) := by decide +kernel
theorem dX8_join_91 : decode cX8_join 91 = .ok (.iconst 4, 1) := by decide +kernel
theorem dX8_join_92 : decode cX8_join 92 = .ok (.iaload, 1) := by decide +kernel
theorem dX8_join_93 : decode cX8_join 93 = .ok (.iconst 4, 1) := by decide +kernel
theorem dX8_join_94 : decode cX8_join 94 = .ok (.if_icmp .ne 7, 3) := by decide +kernel
theorem dX8_join_97 : decode cX8_join 97 = .ok (.iconst 3, 1) := by decide +kernel
theorem dX8_join_98 : decode cX8_join 98 = .ok (.goto 4, 3) := by decide +kernel
theorem dX8_join_101 : decode cX8_join 101 = .ok (.iconst 0, 1) := by decide +kernel
theorem dX8_join_102 : decode cX8_join 102 = .ok (.invokevirtual 70, 3) := by decide +kernel
theorem dX8_join_105 : decode cX8_join 105 = .ok (.ifCond .eq 5, 3) := by decide +kernel
theorem dX8_join_108 : decode cX8_join 108 = .ok (.iconst 0, 1) := by decide +kernel
theorem dX8_join_109 : decode cX8_join 109 = .ok (.ireturn, 1) := by decide +kernel
theorem dX8_join_110 : decode cX8_join 110 = .ok (.aload_n 0, 1) := by decide +kernel
theorem dX8_join_111 : decode cX8_join 111 = .ok (.invokevirtual 74, 3) := by decide +kernel
theorem dX8_join_114 : decode cX8_join 114 = .ok (.bipush 78, 2) := by decide +kernel
theorem dX8_join_116 : decode cX8_join 116 = .ok (.bipush 6, 2) := by decide +kernel
theorem dX8_join_118 : decode cX8_join 118 = .ok (.aload_n 0, 1) := by decide +kernel
theorem dX8_join_119 : decode cX8_join 119 = .ok (.getfield 7, 3) := by decide +kernel
theorem dX8_join_122 : decode cX8_join 122 = .ok (.iconst 4, 1) := by decide +kernel
theorem dX8_join_123 : decode cX8_join 123 = .ok (.iaload, 1) := by decide +kernel
theorem dX8_join_124 : decode cX8_join 124 = .ok (.imul, 1) := by decide +kernel
theorem dX8_join_125 : decode cX8_join 125 = .ok (.iadd, 1) := by decide +kernel
theorem dX8_join_126 : decode cX8_join 126 = .ok (.istore 8, 2) := by decide +kernel
theorem dX8_join_128 : decode cX8_join 128 = .ok (.aload_n 0, 1) := by decide +kernel
theorem dX8_join_129 : decode cX8_join 129 = .ok (.getfield 7, 3) := by decide +kernel
theorem dX8_join_132 : decode cX8_join 132 = .ok (.iload 8, 2) := by decide +kernel
theorem dX8_join_134 : decode cX8_join 134 = .ok (.iload_n 1, 1) := by decide +kernel
theorem dX8_join_135 : decode cX8_join 135 = .ok (.iastore, 1) := by decide +kernel
theorem dX8_join_136 : decode cX8_join 136 = .ok (.aload_n 0, 1) := by decide +kernel
theorem dX8_join_137 : decode cX8_join 137 = .ok (.getfield 7, 3) := by decide +kernel
theorem dX8_join_140 : decode cX8_join 140 = .ok (.iload 8, 2) := by decide +kernel
theorem dX8_join_142 : decode cX8_join 142 = .ok (.iconst 1, 1) := by decide +kernel
theorem dX8_join_143 : decode cX8_join 143 = .ok (.iadd, 1) := by decide +kernel
theorem dX8_join_144 : decode cX8_join 144 = .ok (.iload_n 2, 1) := by decide +kernel
theorem dX8_join_145 : decode cX8_join 145 = .ok (.iastore, 1) := by decide +kernel
theorem dX8_join_146 : decode cX8_join 146 = .ok (.aload_n 0, 1) := by decide +kernel
theorem dX8_join_147 : decode cX8_join 147 = .ok (.getfield 7, 3) := by decide +kernel
theorem dX8_join_150 : decode cX8_join 150 = .ok (.iload 8, 2) := by decide +kernel
theorem dX8_join_152 : decode cX8_join 152 = .ok (.iconst 2, 1) := by decide +kernel
theorem dX8_join_153 : decode cX8_join 153 = .ok (.iadd, 1) := by decide +kernel
theorem dX8_join_154 : decode cX8_join 154 = .ok (.iload_n 3, 1) := by decide +kernel
theorem dX8_join_155 : decode cX8_join 155 = .ok (.iastore, 1) := by decide +kernel
theorem dX8_join_156 : decode cX8_join 156 = .ok (.aload_n 0, 1) := by decide +kernel
theorem dX8_join_157 : decode cX8_join 157 = .ok (.getfield 7, 3) := by decide +kernel
theorem dX8_join_160 : decode cX8_join 160 = .ok (.iload 8, 2) := by decide +kernel
theorem dX8_join_162 : decode cX8_join 162 = .ok (.iconst 3, 1) := by decide +kernel
theorem dX8_join_163 : decode cX8_join 163 = .ok (.iadd, 1) := by decide +kernel
theorem dX8_join_164 : decode cX8_join 164 = .ok (.iload 4, 2) := by decide +kernel
theorem dX8_join_166 : decode cX8_join 166 = .ok (.iastore, 1) := by decide +kernel
theorem dX8_join_167 : decode cX8_join 167 = .ok (.aload_n 0, 1) := by decide +kernel
theorem dX8_join_168 : decode cX8_join 168 = .ok (.getfield 7, 3) := by decide +kernel
theorem dX8_join_171 : decode cX8_join 171 = .ok (.iload 8, 2) := by decide +kernel
theorem dX8_join_173 : decode cX8_join 173 = .ok (.iconst 4, 1) := by decide +kernel
theorem dX8_join_174 : decode cX8_join 174 = .ok (.iadd, 1) := by decide +kernel
theorem dX8_join_175 : decode cX8_join 175 = .ok (.iload 5, 2) := by decide +kernel
theorem dX8_join_177 : decode cX8_join 177 = .ok (.iastore, 1) := by decide +kernel
theorem dX8_join_178 : decode cX8_join 178 = .ok (.aload_n 0, 1) := by decide +kernel
theorem dX8_join_179 : decode cX8_join 179 = .ok (.getfield 7, 3) := by decide +kernel
theorem dX8_join_182 : decode cX8_join 182 = .ok (.iload 8, 2) := by decide +kernel
theorem dX8_join_184 : decode cX8_join 184 = .ok (.iconst 5, 1) := by decide +kernel
theorem dX8_join_185 : decode cX8_join 185 = .ok (.iadd, 1) := by decide +kernel
theorem dX8_join_186 : decode cX8_join 186 = .ok (.iload 6, 2) := by decide +kernel
theorem dX8_join_188 : decode cX8_join 188 = .ok (.iastore, 1) := by decide +kernel
theorem dX8_join_189 : decode cX8_join 189 = .ok (.aload_n 0, 1) := by decide +kernel
theorem dX8_join_190 : decode cX8_join 190 = .ok (.getfield 7, 3) := by decide +kernel
theorem dX8_join_193 : decode cX8_join 193 = .ok (.iconst 4, 1) := by decide +kernel
theorem dX8_join_194 : decode cX8_join 194 = .ok (.dup2, 1) := by decide +kernel
theorem dX8_join_195 : decode cX8_join 195 = .ok (.iaload, 1) := by decide +kernel
theorem dX8_join_196 : decode cX8_join 196 = .ok (.iconst 1, 1) := by decide +kernel
theorem dX8_join_197 : decode cX8_join 197 = .ok (.iadd, 1) := by decide +kernel
theorem dX8_join_198 : decode cX8_join 198 = .ok (.iastore, 1) := by decide +kernel
theorem dX8_join_199 : decode cX8_join 199 = .ok (.aload_n 0, 1) := by decide +kernel
theorem dX8_join_200 : decode cX8_join 200 = .ok (.getfield 7, 3) := by decide +kernel
theorem dX8_join_203 : decode cX8_join 203 = .ok (.iconst 4, 1) := by decide +kernel
theorem dX8_join_204 : decode cX8_join 204 = .ok (.iaload, 1) := by decide +kernel
theorem dX8_join_205 : decode cX8_join 205 = .ok (.iconst 1, 1) := by decide +kernel
theorem dX8_join_206 : decode cX8_join 206 = .ok (.isub, 1) := by decide +kernel
theorem dX8_join_207 : decode cX8_join 207 = .ok (.ireturn, 1) := by decide +kernel
theorem dX8_measure_0 : decode cX8_measure 0 = .ok (.aload_n 0, 1) := by decide +kernel
theorem dX8_measure_1 : decode cX8_measure 1 = .ok (.aload_n 0, 1) := by decide +kernel
theorem dX8_measure_2 : decode cX8_measure 2 = .ok (.iload_n 1, 1) := by decide +kernel
theorem dX8_measure_3 : decode cX8_measure 3 = .ok (.invokevirtual 135, 3) := by decide +kernel
theorem dX8_measure_6 : decode cX8_measure 6 = .ok (.ifCond .ne 7, 3) := by decide +kernel
theorem dX8_measure_9 : decode cX8_measure 9 = .ok (.iconst 1, 1) := by decide +kernel
theorem dX8_measure_10 : decode cX8_measure 10 = .ok (.goto 15, 3) := by decide +kernel
theorem dX8_measure_13 : decode cX8_measure 13 = .ok (.iload_n 2, 1) := by decide +kernel
theorem dX8_measure_14 : decode cX8_measure 14 = .ok (.invokestatic 132, 3) := by decide +kernel
theorem dX8_measure_17 : decode cX8_measure 17 = .ok (.ifCond .eq 7, 3) := by decide +kernel
theorem dX8_measure_20 : decode cX8_measure 20 = .ok (.iconst 0, 1) := by decide +kernel
theorem dX8_measure_21 : decode cX8_measure 21 = .ok (.goto 4, 3) := by decide +kernel
theorem dX8_measure_24 : decode cX8_measure 24 = .ok (.iconst 2, 1) := by decide +kernel
theorem dX8_measure_25 : decode cX8_measure 25 = .ok (.invokevirtual 70, 3) := by decide +kernel
theorem dX8_measure_28 : decode cX8_measure 28 = .ok (.ifCond .eq 5, 3) := by decide +kernel
theorem dX8_measure_31 : decode cX8_measure 31 = .ok (.iconst 0, 1) := by decide +kernel
theorem dX8_measure_32 : decode cX8_measure 32 = .ok (.ireturn, 1) := by decide +kernel
theorem dX8_measure_33 : decode cX8_measure 33 = .ok (.aload_n 0, 1) := by decide +kernel
theorem dX8_measure_34 : decode cX8_measure 34 = .ok (.invokevirtual 74, 3) := by decide +kernel
theorem dX8_measure_37 : decode cX8_measure 37 = .ok (.aload_n 0, 1) := by decide +kernel
theorem dX8_measure_38 : decode cX8_measure 38 = .ok (.iload_n 1, 1) := by decide +kernel
theorem dX8_measure_39 : decode cX8_measure 39 = .ok (.iconst 5, 1) := by decide +kernel
theorem dX8_measure_40 : decode cX8_measure 40 = .ok (.invokevirtual 138, 3) := by decide +kernel
theorem dX8_measure_43 : decode cX8_measure 43 = .ok (.istore_n 3, 1) := by decide +kernel
theorem dX8_measure_44 : decode cX8_measure 44 = .ok (.aload_n 0, 1) := by decide +kernel
theorem dX8_measure_45 : decode cX8_measure 45 = .ok (.getfield 7, 3) := by decide +kernel
theorem dX8_measure_48 : decode cX8_measure 48 = .ok (.bipush 78, 2) := by decide +kernel
theorem dX8_measure_50 : decode cX8_measure 50 = .ok (.bipush 6, 2) := by decide +kernel
theorem dX8_measure_52 : decode cX8_measure 52 = .ok (.iload_n 1, 1) := by decide +kernel
theorem dX8_measure_53 : decode cX8_measure 53 = .ok (.imul, 1) := by decide +kernel
theorem dX8_measure_54 : decode cX8_measure 54 = .ok (.iadd, 1) := by decide +kernel
theorem dX8_measure_55 : decode cX8_measure 55 = .ok (.iconst 5, 1) := by decide +kernel
theorem dX8_measure_56 : decode cX8_measure 56 = .ok (.iadd, 1) := by decide +kernel
theorem dX8_measure_57 : decode cX8_measure 57 = .ok (.iload_n 2, 1) := by decide +kernel
theorem dX8_measure_58 : decode cX8_measure 58 = .ok (.iastore, 1) := by decide +kernel
theorem dX8_measure_59 : decode cX8_measure 59 = .ok (.iload_n 3, 1) := by decide +kernel
theorem dX8_measure_60 : decode cX8_measure 60 = .ok (.ireturn, 1) := by decide +kernel
theorem dX8_wiresOf_0 : decode cX8_wiresOf 0 = .ok (.aload_n 0, 1) := by decide +kernel
theorem dX8_wiresOf_1 : decode cX8_wiresOf 1 = .ok (.aload_n 0, 1) := by decide +kernel
theorem dX8_wiresOf_2 : decode cX8_wiresOf 2 = .ok (.iload_n 1, 1) := by decide +kernel
theorem dX8_wiresOf_3 : decode cX8_wiresOf 3 = .ok (.iconst 0, 1) := by decide +kernel
theorem dX8_wiresOf_4 : decode cX8_wiresOf 4 = .ok (.invokevirtual 138, 3) := by decide +kernel
theorem dX8_wiresOf_7 : decode cX8_wiresOf 7 = .ok (.invokevirtual 109, 3) := by decide +kernel
theorem dX8_wiresOf_10 : decode cX8_wiresOf 10 = .ok (.istore_n 2, 1) := by decide +kernel
theorem dX8_wiresOf_11 : decode cX8_wiresOf 11 = .ok (.iload_n 2, 1) := by decide +kernel
theorem dX8_wiresOf_12 : decode cX8_wiresOf 12 = .ok (.ifCond .le 7, 3) := by decide +kernel
theorem dX8_wiresOf_15 : decode cX8_wiresOf 15 = .ok (.iload_n 2, 1) := by decide +kernel
theorem dX8_wiresOf_16 : decode cX8_wiresOf 16 = .ok (.goto 13, 3) := by decide +kernel
theorem dX8_wiresOf_19 : decode cX8_wiresOf 19 = .ok (.aload_n 0, 1) := by decide +kernel
theorem dX8_wiresOf_20 : decode cX8_wiresOf 20 = .ok (.aload_n 0, 1) := by decide +kernel
theorem dX8_wiresOf_21 : decode cX8_wiresOf 21 = .ok (.iload_n 1, 1) := by decide +kernel
theorem dX8_wiresOf_22 : decode cX8_wiresOf 22 = .ok (.iconst 1, 1) := by decide +kernel
theorem dX8_wiresOf_23 : decode cX8_wiresOf 23 = .ok (.invokevirtual 138, 3) := by decide +kernel
theorem dX8_wiresOf_26 : decode cX8_wiresOf 26 = .ok (.invokevirtual 109, 3) := by decide +kernel
theorem dX8_wiresOf_29 : decode cX8_wiresOf 29 = .ok (.ireturn, 1) := by decide +kernel
theorem dX8_troubleOfJoin_0 : decode cX8_troubleOfJoin 0 = .ok (.aload_n 0, 1) := by decide +kernel
theorem dX8_troubleOfJoin_1 : decode cX8_troubleOfJoin 1 = .ok (.iload_n 1, 1) := by decide +kernel
theorem dX8_troubleOfJoin_2 : decode cX8_troubleOfJoin 2 = .ok (.invokevirtual 141, 3) := by decide +kernel
theorem dX8_troubleOfJoin_5 : decode cX8_troubleOfJoin 5 = .ok (.ifCond .le 7, 3) := by decide +kernel
theorem dX8_troubleOfJoin_8 : decode cX8_troubleOfJoin 8 = .ok (.iconst 3, 1) := by decide +kernel
theorem dX8_troubleOfJoin_9 : decode cX8_troubleOfJoin 9 = .ok (.goto 25, 3) := by decide +kernel
theorem dX8_troubleOfJoin_12 : decode cX8_troubleOfJoin 12 = .ok (.aload_n 0, 1) := by decide +kernel
theorem dX8_troubleOfJoin_13 : decode cX8_troubleOfJoin 13 = .ok (.iload_n 1, 1) := by decide +kernel
theorem dX8_troubleOfJoin_14 : decode cX8_troubleOfJoin 14 = .ok (.iconst 4, 1) := by decide +kernel
theorem dX8_troubleOfJoin_15 : decode cX8_troubleOfJoin 15 = .ok (.invokevirtual 138, 3) := by decide +kernel
theorem dX8_troubleOfJoin_18 : decode cX8_troubleOfJoin 18 = .ok (.iconst 3, 1) := by decide +kernel
theorem dX8_troubleOfJoin_19 : decode cX8_troubleOfJoin 19 = .ok (.aload_n 0, 1) := by decide +kernel
theorem dX8_troubleOfJoin_20 : decode cX8_troubleOfJoin 20 = .ok (.iload_n 1, 1) := by decide +kernel
theorem dX8_troubleOfJoin_21 : decode cX8_troubleOfJoin 21 = .ok (.iconst 3, 1) := by decide +kernel
theorem dX8_troubleOfJoin_22 : decode cX8_troubleOfJoin 22 = .ok (.invokevirtual 138, 3) := by decide +kernel
theorem dX8_troubleOfJoin_25 : decode cX8_troubleOfJoin 25 = .ok (.imul, 1) := by decide +kernel
theorem dX8_troubleOfJoin_26 : decode cX8_troubleOfJoin 26 = .ok (.if_icmp .le 7, 3) := by decide +kernel
theorem dX8_troubleOfJoin_29 : decode cX8_troubleOfJoin 29 = .ok (.iconst 4, 1) := by decide +kernel
theorem dX8_troubleOfJoin_30 : decode cX8_troubleOfJoin 30 = .ok (.goto 4, 3) := by decide +kernel
theorem dX8_troubleOfJoin_33 : decode cX8_troubleOfJoin 33 = .ok (.iconst 0, 1) := by decide +kernel
theorem dX8_troubleOfJoin_34 : decode cX8_troubleOfJoin 34 = .ok (.ireturn, 1) := by decide +kernel
theorem dX8_startOf_0 : decode cX8_startOf 0 = .ok (.aload_n 0, 1) := by decide +kernel
theorem dX8_startOf_1 : decode cX8_startOf 1 = .ok (.iload_n 1, 1) := by decide +kernel
theorem dX8_startOf_2 : decode cX8_startOf 2 = .ok (.iconst 3, 1) := by decide +kernel
theorem dX8_startOf_3 : decode cX8_startOf 3 = .ok (.invokevirtual 138, 3) := by decide +kernel
theorem dX8_startOf_6 : decode cX8_startOf 6 = .ok (.istore_n 2, 1) := by decide +kernel
theorem dX8_startOf_7 : decode cX8_startOf 7 = .ok (.aload_n 0, 1) := by decide +kernel
theorem dX8_startOf_8 : decode cX8_startOf 8 = .ok (.aload_n 0, 1) := by decide +kernel
theorem dX8_startOf_9 : decode cX8_startOf 9 = .ok (.iload_n 1, 1) := by decide +kernel
theorem dX8_startOf_10 : decode cX8_startOf 10 = .ok (.iconst 1, 1) := by decide +kernel
theorem dX8_startOf_11 : decode cX8_startOf 11 = .ok (.invokevirtual 138, 3) := by decide +kernel
theorem dX8_startOf_14 : decode cX8_startOf 14 = .ok (.invokevirtual 106, 3) := by decide +kernel
theorem dX8_startOf_17 : decode cX8_startOf 17 = .ok (.aload_n 0, 1) := by decide +kernel
theorem dX8_startOf_18 : decode cX8_startOf 18 = .ok (.aload_n 0, 1) := by decide +kernel
theorem dX8_startOf_19 : decode cX8_startOf 19 = .ok (.iload_n 1, 1) := by decide +kernel
theorem dX8_startOf_20 : decode cX8_startOf 20 = .ok (.iconst 0, 1) := by decide +kernel
theorem dX8_startOf_21 : decode cX8_startOf 21 = .ok (.invokevirtual 138, 3) := by decide +kernel
theorem dX8_startOf_24 : decode cX8_startOf 24 = .ok (.invokevirtual 106, 3) := by decide +kernel
theorem dX8_startOf_27 : decode cX8_startOf 27 = .ok (.isub, 1) := by decide +kernel
theorem dX8_startOf_28 : decode cX8_startOf 28 = .ok (.istore_n 3, 1) := by decide +kernel
theorem dX8_startOf_29 : decode cX8_startOf 29 = .ok (.aload_n 0, 1) := by decide +kernel
theorem dX8_startOf_30 : decode cX8_startOf 30 = .ok (.iload_n 1, 1) := by decide +kernel
theorem dX8_startOf_31 : decode cX8_startOf 31 = .ok (.iconst 2, 1) := by decide +kernel
theorem dX8_startOf_32 : decode cX8_startOf 32 = .ok (.invokevirtual 138, 3) := by decide +kernel
theorem dX8_startOf_35 : decode cX8_startOf 35 = .ok (.i2l, 1) := by decide +kernel
theorem dX8_startOf_36 : decode cX8_startOf 36 = .ok (.aload_n 0, 1) := by decide +kernel
theorem dX8_startOf_37 : decode cX8_startOf 37 = .ok (.iload_n 1, 1) := by decide +kernel
theorem dX8_startOf_38 : decode cX8_startOf 38 = .ok (.iconst 5, 1) := by decide +kernel
theorem dX8_startOf_39 : decode cX8_startOf 39 = .ok (.invokevirtual 138, 3) := by decide +kernel
theorem dX8_startOf_42 : decode cX8_startOf 42 = .ok (.aload_n 0, 1) := by decide +kernel
theorem dX8_startOf_43 : decode cX8_startOf 43 = .ok (.iload_n 1, 1) := by decide +kernel
theorem dX8_startOf_44 : decode cX8_startOf 44 = .ok (.iconst 4, 1) := by decide +kernel
theorem dX8_startOf_45 : decode cX8_startOf 45 = .ok (.invokevirtual 138, 3) := by decide +kernel
theorem dX8_startOf_48 : decode cX8_startOf 48 = .ok (.imul, 1) := by decide +kernel
theorem dX8_startOf_49 : decode cX8_startOf 49 = .ok (.iload_n 2, 1) := by decide +kernel
theorem dX8_startOf_50 : decode cX8_startOf 50 = .ok (.idiv, 1) := by decide +kernel
theorem dX8_startOf_51 : decode cX8_startOf 51 = .ok (.i2l, 1) := by decide +kernel
theorem dX8_startOf_52 : decode cX8_startOf 52 = .ok (.ladd, 1) := by decide +kernel
theorem dX8_startOf_53 : decode cX8_startOf 53 = .ok (.iload_n 3, 1) := by decide +kernel
theorem dX8_startOf_54 : decode cX8_startOf 54 = .ok (.sipush 20626, 3) := by decide +kernel
theorem dX8_startOf_57 : decode cX8_startOf 57 = .ok (.imul, 1) := by decide +kernel
theorem dX8_startOf_58 : decode cX8_startOf 58 = .ok (.iload_n 2, 1) := by decide +kernel
theorem dX8_startOf_59 : decode cX8_startOf 59 = .ok (.idiv, 1) := by decide +kernel
theorem dX8_startOf_60 : decode cX8_startOf 60 = .ok (.i2l, 1) := by decide +kernel
theorem dX8_startOf_61 : decode cX8_startOf 61 = .ok (.ladd, 1) := by decide +kernel
theorem dX8_startOf_62 : decode cX8_startOf 62 = .ok (.invokestatic 39, 3) := by decide +kernel
theorem dX8_startOf_65 : decode cX8_startOf 65 = .ok (.ireturn, 1) := by decide +kernel
theorem dX8_joinTold_0 : decode cX8_joinTold 0 = .ok (.aload_n 0, 1) := by decide +kernel
theorem dX8_joinTold_1 : decode cX8_joinTold 1 = .ok (.iload_n 1, 1) := by decide +kernel
theorem dX8_joinTold_2 : decode cX8_joinTold 2 = .ok (.invokevirtual 144, 3) := by decide +kernel
theorem dX8_joinTold_5 : decode cX8_joinTold 5 = .ok (.istore_n 3, 1) := by decide +kernel
theorem dX8_joinTold_6 : decode cX8_joinTold 6 = .ok (.iload_n 2, 1) := by decide +kernel
theorem dX8_joinTold_7 : decode cX8_joinTold 7 = .ok (.bipush 6, 2) := by decide +kernel
theorem dX8_joinTold_9 : decode cX8_joinTold 9 = .ok (.if_icmp .ge 12, 3) := by decide +kernel
theorem dX8_joinTold_12 : decode cX8_joinTold 12 = .ok (.aload_n 0, 1) := by decide +kernel
theorem dX8_joinTold_13 : decode cX8_joinTold 13 = .ok (.iload_n 1, 1) := by decide +kernel
theorem dX8_joinTold_14 : decode cX8_joinTold 14 = .ok (.iload_n 2, 1) := by decide +kernel
theorem dX8_joinTold_15 : decode cX8_joinTold 15 = .ok (.invokevirtual 138, 3) := by decide +kernel
theorem dX8_joinTold_18 : decode cX8_joinTold 18 = .ok (.goto 27, 3) := by decide +kernel
theorem dX8_joinTold_21 : decode cX8_joinTold 21 = .ok (.iload_n 2, 1) := by decide +kernel
theorem dX8_joinTold_22 : decode cX8_joinTold 22 = .ok (.bipush 6, 2) := by decide +kernel
theorem dX8_joinTold_24 : decode cX8_joinTold 24 = .ok (.if_icmp .ne 7, 3) := by decide +kernel
theorem dX8_joinTold_27 : decode cX8_joinTold 27 = .ok (.iload_n 3, 1) := by decide +kernel
theorem dX8_joinTold_28 : decode cX8_joinTold 28 = .ok (.goto 17, 3) := by decide +kernel
theorem dX8_joinTold_31 : decode cX8_joinTold 31 = .ok (.iload_n 3, 1) := by decide +kernel
theorem dX8_joinTold_32 : decode cX8_joinTold 32 = .ok (.ifCond .le 8, 3) := by decide +kernel
theorem dX8_joinTold_35 : decode cX8_joinTold 35 = .ok (.ldc 105, 2) := by decide +kernel
theorem dX8_joinTold_37 : decode cX8_joinTold 37 = .ok (.goto 8, 3) := by decide +kernel
theorem dX8_joinTold_40 : decode cX8_joinTold 40 = .ok (.aload_n 0, 1) := by decide +kernel
theorem dX8_joinTold_41 : decode cX8_joinTold 41 = .ok (.iload_n 1, 1) := by decide +kernel
theorem dX8_joinTold_42 : decode cX8_joinTold 42 = .ok (.invokevirtual 147, 3) := by decide +kernel
theorem dX8_joinTold_45 : decode cX8_joinTold 45 = .ok (.ireturn, 1) := by decide +kernel
theorem dX8_joinOf_0 : decode cX8_joinOf 0 = .ok (.aload_n 0, 1) := by decide +kernel
theorem dX8_joinOf_1 : decode cX8_joinOf 1 = .ok (.aload_n 0, 1) := by decide +kernel
theorem dX8_joinOf_2 : decode cX8_joinOf 2 = .ok (.iload_n 1, 1) := by decide +kernel
theorem dX8_joinOf_3 : decode cX8_joinOf 3 = .ok (.invokevirtual 135, 3) := by decide +kernel
theorem dX8_joinOf_6 : decode cX8_joinOf 6 = .ok (.ifCond .ne 7, 3) := by decide +kernel
theorem dX8_joinOf_9 : decode cX8_joinOf 9 = .ok (.iconst 1, 1) := by decide +kernel
theorem dX8_joinOf_10 : decode cX8_joinOf 10 = .ok (.goto 20, 3) := by decide +kernel
theorem dX8_joinOf_13 : decode cX8_joinOf 13 = .ok (.iload_n 2, 1) := by decide +kernel
theorem dX8_joinOf_14 : decode cX8_joinOf 14 = .ok (.i2l, 1) := by decide +kernel
theorem dX8_joinOf_15 : decode cX8_joinOf 15 = .ok (.lconst 0, 1) := by decide +kernel
theorem dX8_joinOf_16 : decode cX8_joinOf 16 = .ok (.ldc2_w 84, 3) := by decide +kernel
theorem dX8_joinOf_19 : decode cX8_joinOf 19 = .ok (.invokestatic 62, 3) := by decide +kernel
theorem dX8_joinOf_22 : decode cX8_joinOf 22 = .ok (.ifCond .eq 7, 3) := by decide +kernel
theorem dX8_joinOf_25 : decode cX8_joinOf 25 = .ok (.iconst 0, 1) := by decide +kernel
theorem dX8_joinOf_26 : decode cX8_joinOf 26 = .ok (.goto 4, 3) := by decide +kernel
theorem dX8_joinOf_29 : decode cX8_joinOf 29 = .ok (.iconst 2, 1) := by decide +kernel
theorem dX8_joinOf_30 : decode cX8_joinOf 30 = .ok (.invokevirtual 70, 3) := by decide +kernel
theorem dX8_joinOf_33 : decode cX8_joinOf 33 = .ok (.ifCond .eq 7, 3) := by decide +kernel
theorem dX8_joinOf_36 : decode cX8_joinOf 36 = .ok (.iconst 0, 1) := by decide +kernel
theorem dX8_joinOf_37 : decode cX8_joinOf 37 = .ok (.goto 9, 3) := by decide +kernel
theorem dX8_joinOf_40 : decode cX8_joinOf 40 = .ok (.aload_n 0, 1) := by decide +kernel
theorem dX8_joinOf_41 : decode cX8_joinOf 41 = .ok (.iload_n 1, 1) := by decide +kernel
theorem dX8_joinOf_42 : decode cX8_joinOf 42 = .ok (.iload_n 2, 1) := by decide +kernel
theorem dX8_joinOf_43 : decode cX8_joinOf 43 = .ok (.invokevirtual 150, 3) := by decide +kernel
theorem dX8_joinOf_46 : decode cX8_joinOf 46 = .ok (.ireturn, 1) := by decide +kernel
theorem dX8_begin_0 : decode cX8_begin 0 = .ok (.aload_n 0, 1) := by decide +kernel
theorem dX8_begin_1 : decode cX8_begin 1 = .ok (.aload_n 0, 1) := by decide +kernel
theorem dX8_begin_2 : decode cX8_begin 2 = .ok (.iload_n 1, 1) := by decide +kernel
theorem dX8_begin_3 : decode cX8_begin 3 = .ok (.invokevirtual 135, 3) := by decide +kernel
theorem dX8_begin_6 : decode cX8_begin 6 = .ok (.ifCond .ne 7, 3) := by decide +kernel
theorem dX8_begin_9 : decode cX8_begin 9 = .ok (.iconst 1, 1) := by decide +kernel
theorem dX8_begin_10 : decode cX8_begin 10 = .ok (.goto 18, 3) := by decide +kernel
theorem dX8_begin_13 : decode cX8_begin 13 = .ok (.aload_n 0, 1) := by decide +kernel
theorem dX8_begin_14 : decode cX8_begin 14 = .ok (.getfield 7, 3) := by decide +kernel
theorem dX8_begin_17 : decode cX8_begin 17 = .ok (.iconst 5, 1) := by decide +kernel
theorem dX8_begin_18 : decode cX8_begin 18 = .ok (.iaload, 1) := by decide +kernel
theorem dX8_begin_19 : decode cX8_begin 19 = .ok (.iconst 4, 1) := by decide +kernel
theorem dX8_begin_20 : decode cX8_begin 20 = .ok (.if_icmp .ne 7, 3) := by decide +kernel
theorem dX8_begin_23 : decode cX8_begin 23 = .ok (.iconst 2, 1) := by decide +kernel
theorem dX8_begin_24 : decode cX8_begin 24 = .ok (.goto 4, 3) := by decide +kernel
theorem dX8_begin_27 : decode cX8_begin 27 = .ok (.iconst 0, 1) := by decide +kernel
theorem dX8_begin_28 : decode cX8_begin 28 = .ok (.invokevirtual 70, 3) := by decide +kernel
theorem dX8_begin_31 : decode cX8_begin 31 = .ok (.ifCond .eq 5, 3) := by decide +kernel
theorem dX8_begin_34 : decode cX8_begin 34 = .ok (.iconst 0, 1) := by decide +kernel
theorem dX8_begin_35 : decode cX8_begin 35 = .ok (.ireturn, 1) := by decide +kernel
theorem dX8_begin_36 : decode cX8_begin 36 = .ok (.aload_n 0, 1) := by decide +kernel
theorem dX8_begin_37 : decode cX8_begin 37 = .ok (.invokevirtual 74, 3) := by decide +kernel
theorem dX8_begin_40 : decode cX8_begin 40 = .ok (.bipush 102, 2) := by decide +kernel
theorem dX8_begin_42 : decode cX8_begin 42 = .ok (.bipush 28, 2) := by decide +kernel
theorem dX8_begin_44 : decode cX8_begin 44 = .ok (.aload_n 0, 1) := by decide +kernel
theorem dX8_begin_45 : decode cX8_begin 45 = .ok (.getfield 7, 3) := by decide +kernel
theorem dX8_begin_48 : decode cX8_begin 48 = .ok (.iconst 5, 1) := by decide +kernel
theorem dX8_begin_49 : decode cX8_begin 49 = .ok (.iaload, 1) := by decide +kernel
theorem dX8_begin_50 : decode cX8_begin 50 = .ok (.imul, 1) := by decide +kernel
theorem dX8_begin_51 : decode cX8_begin 51 = .ok (.iadd, 1) := by decide +kernel
theorem dX8_begin_52 : decode cX8_begin 52 = .ok (.istore_n 2, 1) := by decide +kernel
theorem dX8_begin_53 : decode cX8_begin 53 = .ok (.aload_n 0, 1) := by decide +kernel
theorem dX8_begin_54 : decode cX8_begin 54 = .ok (.getfield 7, 3) := by decide +kernel
theorem dX8_begin_57 : decode cX8_begin 57 = .ok (.iload_n 2, 1) := by decide +kernel
theorem dX8_begin_58 : decode cX8_begin 58 = .ok (.iload_n 1, 1) := by decide +kernel
theorem dX8_begin_59 : decode cX8_begin 59 = .ok (.iastore, 1) := by decide +kernel
theorem dX8_begin_60 : decode cX8_begin 60 = .ok (.aload_n 0, 1) := by decide +kernel
theorem dX8_begin_61 : decode cX8_begin 61 = .ok (.getfield 7, 3) := by decide +kernel
theorem dX8_begin_64 : decode cX8_begin 64 = .ok (.iload_n 2, 1) := by decide +kernel
theorem dX8_begin_65 : decode cX8_begin 65 = .ok (.iconst 1, 1) := by decide +kernel
theorem dX8_begin_66 : decode cX8_begin 66 = .ok (.iadd, 1) := by decide +kernel
theorem dX8_begin_67 : decode cX8_begin 67 = .ok (.iconst 0, 1) := by decide +kernel
theorem dX8_begin_68 : decode cX8_begin 68 = .ok (.iastore, 1) := by decide +kernel
theorem dX8_begin_69 : decode cX8_begin 69 = .ok (.aload_n 0, 1) := by decide +kernel
theorem dX8_begin_70 : decode cX8_begin 70 = .ok (.getfield 7, 3) := by decide +kernel
theorem dX8_begin_73 : decode cX8_begin 73 = .ok (.iload_n 2, 1) := by decide +kernel
theorem dX8_begin_74 : decode cX8_begin 74 = .ok (.iconst 2, 1) := by decide +kernel
theorem dX8_begin_75 : decode cX8_begin 75 = .ok (.iadd, 1) := by decide +kernel
theorem dX8_begin_76 : decode cX8_begin 76 = .ok (.iconst (-1), 1) := by decide +kernel
theorem dX8_begin_77 : decode cX8_begin 77 = .ok (.iastore, 1) := by decide +kernel
theorem dX8_begin_78 : decode cX8_begin 78 = .ok (.aload_n 0, 1) := by decide +kernel
theorem dX8_begin_79 : decode cX8_begin 79 = .ok (.getfield 7, 3) := by decide +kernel
theorem dX8_begin_82 : decode cX8_begin 82 = .ok (.iconst 5, 1) := by decide +kernel
theorem dX8_begin_83 : decode cX8_begin 83 = .ok (.dup2, 1) := by decide +kernel
theorem dX8_begin_84 : decode cX8_begin 84 = .ok (.iaload, 1) := by decide +kernel
theorem dX8_begin_85 : decode cX8_begin 85 = .ok (.iconst 1, 1) := by decide +kernel
theorem dX8_begin_86 : decode cX8_begin 86 = .ok (.iadd, 1) := by decide +kernel
theorem dX8_begin_87 : decode cX8_begin 87 = .ok (.iastore, 1) := by decide +kernel
theorem dX8_begin_88 : decode cX8_begin 88 = .ok (.aload_n 0, 1) := by decide +kernel
theorem dX8_begin_89 : decode cX8_begin 89 = .ok (.getfield 7, 3) := by decide +kernel
theorem dX8_begin_92 : decode cX8_begin 92 = .ok (.iconst 5, 1) := by decide +kernel
theorem dX8_begin_93 : decode cX8_begin 93 = .ok (.iaload, 1) := by decide +kernel
theorem dX8_begin_94 : decode cX8_begin 94 = .ok (.iconst 1, 1) := by decide +kernel
theorem dX8_begin_95 : decode cX8_begin 95 = .ok (.isub, 1) := by decide +kernel
theorem dX8_begin_96 : decode cX8_begin 96 = .ok (.ireturn, 1) := by decide +kernel
theorem dX8_addLeg_0 : decode cX8_addLeg 0 = .ok (.iload_n 2, 1) := by decide +kernel
theorem dX8_addLeg_1 : decode cX8_addLeg 1 = .ok (.invokestatic 123, 3) := by decide +kernel
theorem dX8_addLeg_4 : decode cX8_addLeg 4 = .ok (.ifCond .eq 19, 3) := by decide +kernel
theorem dX8_addLeg_7 : decode cX8_addLeg 7 = .ok (.iload_n 3, 1) := by decide +kernel
theorem dX8_addLeg_8 : decode cX8_addLeg 8 = .ok (.i2l, 1) := by decide +kernel
theorem dX8_addLeg_9 : decode cX8_addLeg 9 = .ok (.lconst 1, 1) := by decide +kernel
theorem dX8_addLeg_10 : decode cX8_addLeg 10 = .ok (.ldc2_w 153, 3) := by decide +kernel
theorem dX8_addLeg_13 : decode cX8_addLeg 13 = .ok (.invokestatic 62, 3) := by decide +kernel
theorem dX8_addLeg_16 : decode cX8_addLeg 16 = .ok (.ifCond .eq 7, 3) := by decide +kernel
theorem dX8_addLeg_19 : decode cX8_addLeg 19 = .ok (.iconst 1, 1) := by decide +kernel
theorem dX8_addLeg_20 : decode cX8_addLeg 20 = .ok (.goto 4, 3) := by decide +kernel
theorem dX8_addLeg_23 : decode cX8_addLeg 23 = .ok (.iconst 0, 1) := by decide +kernel
theorem dX8_addLeg_24 : decode cX8_addLeg 24 = .ok (.istore 4, 2) := by decide +kernel
theorem dX8_addLeg_26 : decode cX8_addLeg 26 = .ok (.aload_n 0, 1) := by decide +kernel
theorem dX8_addLeg_27 : decode cX8_addLeg 27 = .ok (.aload_n 0, 1) := by decide +kernel
theorem dX8_addLeg_28 : decode cX8_addLeg 28 = .ok (.iload_n 1, 1) := by decide +kernel
theorem dX8_addLeg_29 : decode cX8_addLeg 29 = .ok (.invokevirtual 155, 3) := by decide +kernel
theorem dX8_addLeg_32 : decode cX8_addLeg 32 = .ok (.ifCond .ne 7, 3) := by decide +kernel
theorem dX8_addLeg_35 : decode cX8_addLeg 35 = .ok (.iconst 1, 1) := by decide +kernel
theorem dX8_addLeg_36 : decode cX8_addLeg 36 = .ok (.goto 35, 3) := by decide +kernel
theorem dX8_addLeg_39 : decode cX8_addLeg 39 = .ok (.iload 4, 2) := by decide +kernel
theorem dX8_addLeg_41 : decode cX8_addLeg 41 = .ok (.ifCond .ne 7, 3) := by decide +kernel
theorem dX8_addLeg_44 : decode cX8_addLeg 44 = .ok (.iconst 2, 1) := by decide +kernel
theorem dX8_addLeg_45 : decode cX8_addLeg 45 = .ok (.goto 26, 3) := by decide +kernel
theorem dX8_addLeg_48 : decode cX8_addLeg 48 = .ok (.aload_n 0, 1) := by decide +kernel
theorem dX8_addLeg_49 : decode cX8_addLeg 49 = .ok (.iload_n 1, 1) := by decide +kernel
theorem dX8_addLeg_50 : decode cX8_addLeg 50 = .ok (.invokevirtual 158, 3) := by decide +kernel
theorem dX8_addLeg_53 : decode cX8_addLeg 53 = .ok (.ifCond .ne 13, 3) := by decide +kernel
theorem dX8_addLeg_56 : decode cX8_addLeg 56 = .ok (.aload_n 0, 1) := by decide +kernel
theorem dX8_addLeg_57 : decode cX8_addLeg 57 = .ok (.iload_n 1, 1) := by decide +kernel
theorem dX8_addLeg_58 : decode cX8_addLeg 58 = .ok (.invokevirtual 77, 3) := by decide +kernel
theorem dX8_addLeg_61 : decode cX8_addLeg 61 = .ok (.bipush 12, 2) := by decide +kernel
theorem dX8_addLeg_63 : decode cX8_addLeg 63 = .ok (.if_icmp .ne 7, 3) := by decide +kernel
theorem dX8_addLeg_66 : decode cX8_addLeg 66 = .ok (.iconst 3, 1) := by decide +kernel
theorem dX8_addLeg_67 : decode cX8_addLeg 67 = .ok (.goto 4, 3) := by decide +kernel
theorem dX8_addLeg_70 : decode cX8_addLeg 70 = .ok (.iconst 0, 1) := by decide +kernel
theorem dX8_addLeg_71 : decode cX8_addLeg 71 = .ok (.invokevirtual 70, 3) := by decide +kernel
theorem dX8_addLeg_74 : decode cX8_addLeg 74 = .ok (.ifCond .eq 5, 3) := by decide +kernel
theorem dX8_addLeg_77 : decode cX8_addLeg 77 = .ok (.iconst 0, 1) := by decide +kernel
theorem dX8_addLeg_78 : decode cX8_addLeg 78 = .ok (.ireturn, 1) := by decide +kernel
theorem dX8_addLeg_79 : decode cX8_addLeg 79 = .ok (.aload_n 0, 1) := by decide +kernel
theorem dX8_addLeg_80 : decode cX8_addLeg 80 = .ok (.invokevirtual 74, 3) := by decide +kernel
theorem dX8_addLeg_83 : decode cX8_addLeg 83 = .ok (.bipush 102, 2) := by decide +kernel
theorem dX8_addLeg_85 : decode cX8_addLeg 85 = .ok (.bipush 28, 2) := by decide +kernel
theorem dX8_addLeg_87 : decode cX8_addLeg 87 = .ok (.iload_n 1, 1) := by decide +kernel
theorem dX8_addLeg_88 : decode cX8_addLeg 88 = .ok (.imul, 1) := by decide +kernel
theorem dX8_addLeg_89 : decode cX8_addLeg 89 = .ok (.iadd, 1) := by decide +kernel
theorem dX8_addLeg_90 : decode cX8_addLeg 90 = .ok (.istore 5, 2) := by decide +kernel
theorem dX8_addLeg_92 : decode cX8_addLeg 92 = .ok (.aload_n 0, 1) := by decide +kernel
theorem dX8_addLeg_93 : decode cX8_addLeg 93 = .ok (.getfield 7, 3) := by decide +kernel
theorem dX8_addLeg_96 : decode cX8_addLeg 96 = .ok (.iload 5, 2) := by decide +kernel
theorem dX8_addLeg_98 : decode cX8_addLeg 98 = .ok (.iconst 4, 1) := by decide +kernel
theorem dX8_addLeg_99 : decode cX8_addLeg 99 = .ok (.iadd, 1) := by decide +kernel
theorem dX8_addLeg_100 : decode cX8_addLeg 100 = .ok (.iconst 2, 1) := by decide +kernel
theorem dX8_addLeg_101 : decode cX8_addLeg 101 = .ok (.aload_n 0, 1) := by decide +kernel
theorem dX8_addLeg_102 : decode cX8_addLeg 102 = .ok (.getfield 7, 3) := by decide +kernel
theorem dX8_addLeg_105 : decode cX8_addLeg 105 = .ok (.iload 5, 2) := by decide +kernel
theorem dX8_addLeg_107 : decode cX8_addLeg 107 = .ok (.iconst 1, 1) := by decide +kernel
theorem dX8_addLeg_108 : decode cX8_addLeg 108 = .ok (.iadd, 1) := by decide +kernel
theorem dX8_addLeg_109 : decode cX8_addLeg 109 = .ok (.iaload, 1) := by decide +kernel
theorem dX8_addLeg_110 : decode cX8_addLeg 110 = .ok (.imul, 1) := by decide +kernel
theorem dX8_addLeg_111 : decode cX8_addLeg 111 = .ok (.iadd, 1) := by decide +kernel
theorem dX8_addLeg_112 : decode cX8_addLeg 112 = .ok (.iload_n 2, 1) := by decide +kernel
theorem dX8_addLeg_113 : decode cX8_addLeg 113 = .ok (.iastore, 1) := by decide +kernel
theorem dX8_addLeg_114 : decode cX8_addLeg 114 = .ok (.aload_n 0, 1) := by decide +kernel
theorem dX8_addLeg_115 : decode cX8_addLeg 115 = .ok (.getfield 7, 3) := by decide +kernel
theorem dX8_addLeg_118 : decode cX8_addLeg 118 = .ok (.iload 5, 2) := by decide +kernel
theorem dX8_addLeg_120 : decode cX8_addLeg 120 = .ok (.iconst 5, 1) := by decide +kernel
theorem dX8_addLeg_121 : decode cX8_addLeg 121 = .ok (.iadd, 1) := by decide +kernel
theorem dX8_addLeg_122 : decode cX8_addLeg 122 = .ok (.iconst 2, 1) := by decide +kernel
theorem dX8_addLeg_123 : decode cX8_addLeg 123 = .ok (.aload_n 0, 1) := by decide +kernel
theorem dX8_addLeg_124 : decode cX8_addLeg 124 = .ok (.getfield 7, 3) := by decide +kernel
theorem dX8_addLeg_127 : decode cX8_addLeg 127 = .ok (.iload 5, 2) := by decide +kernel
theorem dX8_addLeg_129 : decode cX8_addLeg 129 = .ok (.iconst 1, 1) := by decide +kernel
theorem dX8_addLeg_130 : decode cX8_addLeg 130 = .ok (.iadd, 1) := by decide +kernel
theorem dX8_addLeg_131 : decode cX8_addLeg 131 = .ok (.iaload, 1) := by decide +kernel
theorem dX8_addLeg_132 : decode cX8_addLeg 132 = .ok (.imul, 1) := by decide +kernel
theorem dX8_addLeg_133 : decode cX8_addLeg 133 = .ok (.iadd, 1) := by decide +kernel
theorem dX8_addLeg_134 : decode cX8_addLeg 134 = .ok (.iload_n 3, 1) := by decide +kernel
theorem dX8_addLeg_135 : decode cX8_addLeg 135 = .ok (.iastore, 1) := by decide +kernel
theorem dX8_addLeg_136 : decode cX8_addLeg 136 = .ok (.aload_n 0, 1) := by decide +kernel
theorem dX8_addLeg_137 : decode cX8_addLeg 137 = .ok (.getfield 7, 3) := by decide +kernel
theorem dX8_addLeg_140 : decode cX8_addLeg 140 = .ok (.iload 5, 2) := by decide +kernel
theorem dX8_addLeg_142 : decode cX8_addLeg 142 = .ok (.iconst 1, 1) := by decide +kernel
theorem dX8_addLeg_143 : decode cX8_addLeg 143 = .ok (.iadd, 1) := by decide +kernel
theorem dX8_addLeg_144 : decode cX8_addLeg 144 = .ok (.dup2, 1) := by decide +kernel
theorem dX8_addLeg_145 : decode cX8_addLeg 145 = .ok (.iaload, 1) := by decide +kernel
theorem dX8_addLeg_146 : decode cX8_addLeg 146 = .ok (.iconst 1, 1) := by decide +kernel
theorem dX8_addLeg_147 : decode cX8_addLeg 147 = .ok (.iadd, 1) := by decide +kernel
theorem dX8_addLeg_148 : decode cX8_addLeg 148 = .ok (.iastore, 1) := by decide +kernel
theorem dX8_addLeg_149 : decode cX8_addLeg 149 = .ok (.aload_n 0, 1) := by decide +kernel
theorem dX8_addLeg_150 : decode cX8_addLeg 150 = .ok (.getfield 7, 3) := by decide +kernel
theorem dX8_addLeg_153 : decode cX8_addLeg 153 = .ok (.iload 5, 2) := by decide +kernel
theorem dX8_addLeg_155 : decode cX8_addLeg 155 = .ok (.iconst 1, 1) := by decide +kernel
theorem dX8_addLeg_156 : decode cX8_addLeg 156 = .ok (.iadd, 1) := by decide +kernel
theorem dX8_addLeg_157 : decode cX8_addLeg 157 = .ok (.iaload, 1) := by decide +kernel
theorem dX8_addLeg_158 : decode cX8_addLeg 158 = .ok (.iconst 1, 1) := by decide +kernel
theorem dX8_addLeg_159 : decode cX8_addLeg 159 = .ok (.isub, 1) := by decide +kernel
theorem dX8_addLeg_160 : decode cX8_addLeg 160 = .ok (.ireturn, 1) := by decide +kernel
theorem dX8_dropLeg_0 : decode cX8_dropLeg 0 = .ok (.aload_n 0, 1) := by decide +kernel
theorem dX8_dropLeg_1 : decode cX8_dropLeg 1 = .ok (.aload_n 0, 1) := by decide +kernel
theorem dX8_dropLeg_2 : decode cX8_dropLeg 2 = .ok (.iload_n 1, 1) := by decide +kernel
theorem dX8_dropLeg_3 : decode cX8_dropLeg 3 = .ok (.invokevirtual 155, 3) := by decide +kernel
theorem dX8_dropLeg_6 : decode cX8_dropLeg 6 = .ok (.ifCond .ne 7, 3) := by decide +kernel
theorem dX8_dropLeg_9 : decode cX8_dropLeg 9 = .ok (.iconst 1, 1) := by decide +kernel
theorem dX8_dropLeg_10 : decode cX8_dropLeg 10 = .ok (.goto 16, 3) := by decide +kernel
theorem dX8_dropLeg_13 : decode cX8_dropLeg 13 = .ok (.aload_n 0, 1) := by decide +kernel
theorem dX8_dropLeg_14 : decode cX8_dropLeg 14 = .ok (.iload_n 1, 1) := by decide +kernel
theorem dX8_dropLeg_15 : decode cX8_dropLeg 15 = .ok (.invokevirtual 77, 3) := by decide +kernel
theorem dX8_dropLeg_18 : decode cX8_dropLeg 18 = .ok (.ifCond .ne 7, 3) := by decide +kernel
theorem dX8_dropLeg_21 : decode cX8_dropLeg 21 = .ok (.iconst 2, 1) := by decide +kernel
theorem dX8_dropLeg_22 : decode cX8_dropLeg 22 = .ok (.goto 4, 3) := by decide +kernel
theorem dX8_dropLeg_25 : decode cX8_dropLeg 25 = .ok (.iconst 0, 1) := by decide +kernel
theorem dX8_dropLeg_26 : decode cX8_dropLeg 26 = .ok (.invokevirtual 70, 3) := by decide +kernel
theorem dX8_dropLeg_29 : decode cX8_dropLeg 29 = .ok (.ifCond .eq 5, 3) := by decide +kernel
theorem dX8_dropLeg_32 : decode cX8_dropLeg 32 = .ok (.iconst 0, 1) := by decide +kernel
theorem dX8_dropLeg_33 : decode cX8_dropLeg 33 = .ok (.ireturn, 1) := by decide +kernel
theorem dX8_dropLeg_34 : decode cX8_dropLeg 34 = .ok (.aload_n 0, 1) := by decide +kernel
theorem dX8_dropLeg_35 : decode cX8_dropLeg 35 = .ok (.invokevirtual 74, 3) := by decide +kernel
theorem dX8_dropLeg_38 : decode cX8_dropLeg 38 = .ok (.bipush 102, 2) := by decide +kernel
theorem dX8_dropLeg_40 : decode cX8_dropLeg 40 = .ok (.bipush 28, 2) := by decide +kernel
theorem dX8_dropLeg_42 : decode cX8_dropLeg 42 = .ok (.iload_n 1, 1) := by decide +kernel
theorem dX8_dropLeg_43 : decode cX8_dropLeg 43 = .ok (.imul, 1) := by decide +kernel
theorem dX8_dropLeg_44 : decode cX8_dropLeg 44 = .ok (.iadd, 1) := by decide +kernel
theorem dX8_dropLeg_45 : decode cX8_dropLeg 45 = .ok (.istore_n 2, 1) := by decide +kernel
theorem dX8_dropLeg_46 : decode cX8_dropLeg 46 = .ok (.aload_n 0, 1) := by decide +kernel
theorem dX8_dropLeg_47 : decode cX8_dropLeg 47 = .ok (.getfield 7, 3) := by decide +kernel
theorem dX8_dropLeg_50 : decode cX8_dropLeg 50 = .ok (.iload_n 2, 1) := by decide +kernel
theorem dX8_dropLeg_51 : decode cX8_dropLeg 51 = .ok (.iconst 1, 1) := by decide +kernel
theorem dX8_dropLeg_52 : decode cX8_dropLeg 52 = .ok (.iadd, 1) := by decide +kernel
theorem dX8_dropLeg_53 : decode cX8_dropLeg 53 = .ok (.dup2, 1) := by decide +kernel
theorem dX8_dropLeg_54 : decode cX8_dropLeg 54 = .ok (.iaload, 1) := by decide +kernel
theorem dX8_dropLeg_55 : decode cX8_dropLeg 55 = .ok (.iconst 1, 1) := by decide +kernel
theorem dX8_dropLeg_56 : decode cX8_dropLeg 56 = .ok (.isub, 1) := by decide +kernel
theorem dX8_dropLeg_57 : decode cX8_dropLeg 57 = .ok (.iastore, 1) := by decide +kernel
theorem dX8_dropLeg_58 : decode cX8_dropLeg 58 = .ok (.aload_n 0, 1) := by decide +kernel
theorem dX8_dropLeg_59 : decode cX8_dropLeg 59 = .ok (.getfield 7, 3) := by decide +kernel
theorem dX8_dropLeg_62 : decode cX8_dropLeg 62 = .ok (.iload_n 2, 1) := by decide +kernel
theorem dX8_dropLeg_63 : decode cX8_dropLeg 63 = .ok (.iconst 2, 1) := by decide +kernel
theorem dX8_dropLeg_64 : decode cX8_dropLeg 64 = .ok (.iadd, 1) := by decide +kernel
theorem dX8_dropLeg_65 : decode cX8_dropLeg 65 = .ok (.iconst (-1), 1) := by decide +kernel
theorem dX8_dropLeg_66 : decode cX8_dropLeg 66 = .ok (.iastore, 1) := by decide +kernel
theorem dX8_dropLeg_67 : decode cX8_dropLeg 67 = .ok (.aload_n 0, 1) := by decide +kernel
theorem dX8_dropLeg_68 : decode cX8_dropLeg 68 = .ok (.getfield 7, 3) := by decide +kernel
theorem dX8_dropLeg_71 : decode cX8_dropLeg 71 = .ok (.iload_n 2, 1) := by decide +kernel
theorem dX8_dropLeg_72 : decode cX8_dropLeg 72 = .ok (.iconst 1, 1) := by decide +kernel
theorem dX8_dropLeg_73 : decode cX8_dropLeg 73 = .ok (.iadd, 1) := by decide +kernel
theorem dX8_dropLeg_74 : decode cX8_dropLeg 74 = .ok (.iaload, 1) := by decide +kernel
theorem dX8_dropLeg_75 : decode cX8_dropLeg 75 = .ok (.ireturn, 1) := by decide +kernel
theorem dX8_bearing_0 : decode cX8_bearing 0 = .ok (.aload_n 0, 1) := by decide +kernel
theorem dX8_bearing_1 : decode cX8_bearing 1 = .ok (.aload_n 0, 1) := by decide +kernel
theorem dX8_bearing_2 : decode cX8_bearing 2 = .ok (.iload_n 1, 1) := by decide +kernel
theorem dX8_bearing_3 : decode cX8_bearing 3 = .ok (.iconst 0, 1) := by decide +kernel
theorem dX8_bearing_4 : decode cX8_bearing 4 = .ok (.invokevirtual 33, 3) := by decide +kernel
theorem dX8_bearing_7 : decode cX8_bearing 7 = .ok (.invokevirtual 147, 3) := by decide +kernel
theorem dX8_bearing_10 : decode cX8_bearing 10 = .ok (.i2l, 1) := by decide +kernel
theorem dX8_bearing_11 : decode cX8_bearing 11 = .ok (.lstore_n 3, 1) := by decide +kernel
theorem dX8_bearing_12 : decode cX8_bearing 12 = .ok (.iconst 0, 1) := by decide +kernel
theorem dX8_bearing_13 : decode cX8_bearing 13 = .ok (.istore 5, 2) := by decide +kernel
theorem dX8_bearing_15 : decode cX8_bearing 15 = .ok (.iload 5, 2) := by decide +kernel
theorem dX8_bearing_17 : decode cX8_bearing 17 = .ok (.iload_n 2, 1) := by decide +kernel
theorem dX8_bearing_18 : decode cX8_bearing 18 = .ok (.if_icmp .gt 56, 3) := by decide +kernel
theorem dX8_bearing_21 : decode cX8_bearing 21 = .ok (.lload_n 3, 1) := by decide +kernel
theorem dX8_bearing_22 : decode cX8_bearing 22 = .ok (.iload 5, 2) := by decide +kernel
theorem dX8_bearing_24 : decode cX8_bearing 24 = .ok (.aload_n 0, 1) := by decide +kernel
theorem dX8_bearing_25 : decode cX8_bearing 25 = .ok (.iload_n 1, 1) := by decide +kernel
theorem dX8_bearing_26 : decode cX8_bearing 26 = .ok (.invokevirtual 77, 3) := by decide +kernel
theorem dX8_bearing_29 : decode cX8_bearing 29 = .ok (.if_icmp .ne 12, 3) := by decide +kernel
theorem dX8_bearing_32 : decode cX8_bearing 32 = .ok (.aload_n 0, 1) := by decide +kernel
theorem dX8_bearing_33 : decode cX8_bearing 33 = .ok (.iload_n 1, 1) := by decide +kernel
theorem dX8_bearing_34 : decode cX8_bearing 34 = .ok (.iconst 3, 1) := by decide +kernel
theorem dX8_bearing_35 : decode cX8_bearing 35 = .ok (.invokevirtual 33, 3) := by decide +kernel
theorem dX8_bearing_38 : decode cX8_bearing 38 = .ok (.goto 10, 3) := by decide +kernel
theorem dX8_bearing_41 : decode cX8_bearing 41 = .ok (.aload_n 0, 1) := by decide +kernel
theorem dX8_bearing_42 : decode cX8_bearing 42 = .ok (.iload_n 1, 1) := by decide +kernel
theorem dX8_bearing_43 : decode cX8_bearing 43 = .ok (.iload 5, 2) := by decide +kernel
theorem dX8_bearing_45 : decode cX8_bearing 45 = .ok (.invokevirtual 161, 3) := by decide +kernel
theorem dX8_bearing_48 : decode cX8_bearing 48 = .ok (.i2l, 1) := by decide +kernel
theorem dX8_bearing_49 : decode cX8_bearing 49 = .ok (.ladd, 1) := by decide +kernel
theorem dX8_bearing_50 : decode cX8_bearing 50 = .ok (.iload 5, 2) := by decide +kernel
theorem dX8_bearing_52 : decode cX8_bearing 52 = .ok (.ifCond .ne 7, 3) := by decide +kernel
theorem dX8_bearing_55 : decode cX8_bearing 55 = .ok (.lconst 0, 1) := by decide +kernel
theorem dX8_bearing_56 : decode cX8_bearing 56 = .ok (.goto 6, 3) := by decide +kernel
theorem dX8_bearing_59 : decode cX8_bearing 59 = .ok (.ldc2_w 45, 3) := by decide +kernel
theorem dX8_bearing_62 : decode cX8_bearing 62 = .ok (.ladd, 1) := by decide +kernel
theorem dX8_bearing_63 : decode cX8_bearing 63 = .ok (.invokestatic 39, 3) := by decide +kernel
theorem dX8_bearing_66 : decode cX8_bearing 66 = .ok (.i2l, 1) := by decide +kernel
theorem dX8_bearing_67 : decode cX8_bearing 67 = .ok (.lstore_n 3, 1) := by decide +kernel
theorem dX8_bearing_68 : decode cX8_bearing 68 = .ok (.iinc 5 1, 3) := by decide +kernel
theorem dX8_bearing_71 : decode cX8_bearing 71 = .ok (.goto (-56), 3) := by decide +kernel
theorem dX8_bearing_74 : decode cX8_bearing 74 = .ok (.lload_n 3, 1) := by decide +kernel
theorem dX8_bearing_75 : decode cX8_bearing 75 = .ok (.l2i, 1) := by decide +kernel
theorem dX8_bearing_76 : decode cX8_bearing 76 = .ok (.ireturn, 1) := by decide +kernel
theorem dX8_gap_0 : decode cX8_gap 0 = .ok (.aload_n 0, 1) := by decide +kernel
theorem dX8_gap_1 : decode cX8_gap 1 = .ok (.iload_n 1, 1) := by decide +kernel
theorem dX8_gap_2 : decode cX8_gap 2 = .ok (.aload_n 0, 1) := by decide +kernel
theorem dX8_gap_3 : decode cX8_gap 3 = .ok (.iload_n 1, 1) := by decide +kernel
theorem dX8_gap_4 : decode cX8_gap 4 = .ok (.invokevirtual 77, 3) := by decide +kernel
theorem dX8_gap_7 : decode cX8_gap 7 = .ok (.invokevirtual 164, 3) := by decide +kernel
theorem dX8_gap_10 : decode cX8_gap 10 = .ok (.i2l, 1) := by decide +kernel
theorem dX8_gap_11 : decode cX8_gap 11 = .ok (.aload_n 0, 1) := by decide +kernel
theorem dX8_gap_12 : decode cX8_gap 12 = .ok (.aload_n 0, 1) := by decide +kernel
theorem dX8_gap_13 : decode cX8_gap 13 = .ok (.iload_n 1, 1) := by decide +kernel
theorem dX8_gap_14 : decode cX8_gap 14 = .ok (.iconst 2, 1) := by decide +kernel
theorem dX8_gap_15 : decode cX8_gap 15 = .ok (.invokevirtual 33, 3) := by decide +kernel
theorem dX8_gap_18 : decode cX8_gap 18 = .ok (.invokevirtual 147, 3) := by decide +kernel
theorem dX8_gap_21 : decode cX8_gap 21 = .ok (.i2l, 1) := by decide +kernel
theorem dX8_gap_22 : decode cX8_gap 22 = .ok (.lsub, 1) := by decide +kernel
theorem dX8_gap_23 : decode cX8_gap 23 = .ok (.invokestatic 167, 3) := by decide +kernel
theorem dX8_gap_26 : decode cX8_gap 26 = .ok (.ireturn, 1) := by decide +kernel
theorem dX8_troubleOf_0 : decode cX8_troubleOf 0 = .ok (.aload_n 0, 1) := by decide +kernel
theorem dX8_troubleOf_1 : decode cX8_troubleOf 1 = .ok (.iload_n 1, 1) := by decide +kernel
theorem dX8_troubleOf_2 : decode cX8_troubleOf 2 = .ok (.invokevirtual 77, 3) := by decide +kernel
theorem dX8_troubleOf_5 : decode cX8_troubleOf 5 = .ok (.ifCond .ne 5, 3) := by decide +kernel
theorem dX8_troubleOf_8 : decode cX8_troubleOf 8 = .ok (.iconst 5, 1) := by decide +kernel
theorem dX8_troubleOf_9 : decode cX8_troubleOf 9 = .ok (.ireturn, 1) := by decide +kernel
theorem dX8_troubleOf_10 : decode cX8_troubleOf 10 = .ok (.aload_n 0, 1) := by decide +kernel
theorem dX8_troubleOf_11 : decode cX8_troubleOf 11 = .ok (.aload_n 0, 1) := by decide +kernel
theorem dX8_troubleOf_12 : decode cX8_troubleOf 12 = .ok (.iload_n 1, 1) := by decide +kernel
theorem dX8_troubleOf_13 : decode cX8_troubleOf 13 = .ok (.iconst 0, 1) := by decide +kernel
theorem dX8_troubleOf_14 : decode cX8_troubleOf 14 = .ok (.invokevirtual 33, 3) := by decide +kernel
theorem dX8_troubleOf_17 : decode cX8_troubleOf 17 = .ok (.invokevirtual 144, 3) := by decide +kernel
theorem dX8_troubleOf_20 : decode cX8_troubleOf 20 = .ok (.ifCond .le 6, 3) := by decide +kernel
theorem dX8_troubleOf_23 : decode cX8_troubleOf 23 = .ok (.bipush 6, 2) := by decide +kernel
theorem dX8_troubleOf_25 : decode cX8_troubleOf 25 = .ok (.ireturn, 1) := by decide +kernel
theorem dX8_troubleOf_26 : decode cX8_troubleOf 26 = .ok (.aload_n 0, 1) := by decide +kernel
theorem dX8_troubleOf_27 : decode cX8_troubleOf 27 = .ok (.iload_n 1, 1) := by decide +kernel
theorem dX8_troubleOf_28 : decode cX8_troubleOf 28 = .ok (.invokevirtual 158, 3) := by decide +kernel
theorem dX8_troubleOf_31 : decode cX8_troubleOf 31 = .ok (.ifCond .ne 5, 3) := by decide +kernel
theorem dX8_troubleOf_34 : decode cX8_troubleOf 34 = .ok (.iconst 0, 1) := by decide +kernel
theorem dX8_troubleOf_35 : decode cX8_troubleOf 35 = .ok (.ireturn, 1) := by decide +kernel
theorem dX8_troubleOf_36 : decode cX8_troubleOf 36 = .ok (.aload_n 0, 1) := by decide +kernel
theorem dX8_troubleOf_37 : decode cX8_troubleOf 37 = .ok (.aload_n 0, 1) := by decide +kernel
theorem dX8_troubleOf_38 : decode cX8_troubleOf 38 = .ok (.iload_n 1, 1) := by decide +kernel
theorem dX8_troubleOf_39 : decode cX8_troubleOf 39 = .ok (.iconst 2, 1) := by decide +kernel
theorem dX8_troubleOf_40 : decode cX8_troubleOf 40 = .ok (.invokevirtual 33, 3) := by decide +kernel
theorem dX8_troubleOf_43 : decode cX8_troubleOf 43 = .ok (.invokevirtual 144, 3) := by decide +kernel
theorem dX8_troubleOf_46 : decode cX8_troubleOf 46 = .ok (.ifCond .le 8, 3) := by decide +kernel
theorem dX8_troubleOf_49 : decode cX8_troubleOf 49 = .ok (.bipush 7, 2) := by decide +kernel
theorem dX8_troubleOf_51 : decode cX8_troubleOf 51 = .ok (.goto 38, 3) := by decide +kernel
theorem dX8_troubleOf_54 : decode cX8_troubleOf 54 = .ok (.aload_n 0, 1) := by decide +kernel
theorem dX8_troubleOf_55 : decode cX8_troubleOf 55 = .ok (.iload_n 1, 1) := by decide +kernel
theorem dX8_troubleOf_56 : decode cX8_troubleOf 56 = .ok (.invokevirtual 170, 3) := by decide +kernel
theorem dX8_troubleOf_59 : decode cX8_troubleOf 59 = .ok (.invokestatic 99, 3) := by decide +kernel
theorem dX8_troubleOf_62 : decode cX8_troubleOf 62 = .ok (.aload_n 0, 1) := by decide +kernel
theorem dX8_troubleOf_63 : decode cX8_troubleOf 63 = .ok (.getfield 7, 3) := by decide +kernel
theorem dX8_troubleOf_66 : decode cX8_troubleOf 66 = .ok (.iconst 1, 1) := by decide +kernel
theorem dX8_troubleOf_67 : decode cX8_troubleOf 67 = .ok (.iaload, 1) := by decide +kernel
theorem dX8_troubleOf_68 : decode cX8_troubleOf 68 = .ok (.aload_n 0, 1) := by decide +kernel
theorem dX8_troubleOf_69 : decode cX8_troubleOf 69 = .ok (.iload_n 1, 1) := by decide +kernel
theorem dX8_troubleOf_70 : decode cX8_troubleOf 70 = .ok (.invokevirtual 77, 3) := by decide +kernel
theorem dX8_troubleOf_73 : decode cX8_troubleOf 73 = .ok (.iconst 1, 1) := by decide +kernel
theorem dX8_troubleOf_74 : decode cX8_troubleOf 74 = .ok (.iadd, 1) := by decide +kernel
theorem dX8_troubleOf_75 : decode cX8_troubleOf 75 = .ok (.i2l, 1) := by decide +kernel
theorem dX8_troubleOf_76 : decode cX8_troubleOf 76 = .ok (.invokestatic 173, 3) := by decide +kernel
theorem dX8_troubleOf_79 : decode cX8_troubleOf 79 = .ok (.imul, 1) := by decide +kernel
theorem dX8_troubleOf_80 : decode cX8_troubleOf 80 = .ok (.if_icmp .le 8, 3) := by decide +kernel
theorem dX8_troubleOf_83 : decode cX8_troubleOf 83 = .ok (.bipush 8, 2) := by decide +kernel
theorem dX8_troubleOf_85 : decode cX8_troubleOf 85 = .ok (.goto 4, 3) := by decide +kernel
theorem dX8_troubleOf_88 : decode cX8_troubleOf 88 = .ok (.iconst 0, 1) := by decide +kernel
theorem dX8_troubleOf_89 : decode cX8_troubleOf 89 = .ok (.ireturn, 1) := by decide +kernel
theorem dX8_close_0 : decode cX8_close 0 = .ok (.aload_n 0, 1) := by decide +kernel
theorem dX8_close_1 : decode cX8_close 1 = .ok (.iload_n 1, 1) := by decide +kernel
theorem dX8_close_2 : decode cX8_close 2 = .ok (.invokevirtual 155, 3) := by decide +kernel
theorem dX8_close_5 : decode cX8_close 5 = .ok (.ifCond .eq 15, 3) := by decide +kernel
theorem dX8_close_8 : decode cX8_close 8 = .ok (.aload_n 0, 1) := by decide +kernel
theorem dX8_close_9 : decode cX8_close 9 = .ok (.iload_n 2, 1) := by decide +kernel
theorem dX8_close_10 : decode cX8_close 10 = .ok (.invokevirtual 135, 3) := by decide +kernel
theorem dX8_close_13 : decode cX8_close 13 = .ok (.ifCond .eq 7, 3) := by decide +kernel
theorem dX8_close_16 : decode cX8_close 16 = .ok (.iconst 1, 1) := by decide +kernel
theorem dX8_close_17 : decode cX8_close 17 = .ok (.goto 4, 3) := by decide +kernel
theorem dX8_close_20 : decode cX8_close 20 = .ok (.iconst 0, 1) := by decide +kernel
theorem dX8_close_21 : decode cX8_close 21 = .ok (.istore 4, 2) := by decide +kernel
theorem dX8_close_23 : decode cX8_close 23 = .ok (.aload_n 0, 1) := by decide +kernel
theorem dX8_close_24 : decode cX8_close 24 = .ok (.iload 4, 2) := by decide +kernel
theorem dX8_close_26 : decode cX8_close 26 = .ok (.ifCond .ne 7, 3) := by decide +kernel
theorem dX8_close_29 : decode cX8_close 29 = .ok (.iconst 1, 1) := by decide +kernel
theorem dX8_close_30 : decode cX8_close 30 = .ok (.goto 37, 3) := by decide +kernel
theorem dX8_close_33 : decode cX8_close 33 = .ok (.iload_n 2, 1) := by decide +kernel
theorem dX8_close_34 : decode cX8_close 34 = .ok (.aload_n 0, 1) := by decide +kernel
theorem dX8_close_35 : decode cX8_close 35 = .ok (.iload_n 1, 1) := by decide +kernel
theorem dX8_close_36 : decode cX8_close 36 = .ok (.iconst 0, 1) := by decide +kernel
theorem dX8_close_37 : decode cX8_close 37 = .ok (.invokevirtual 33, 3) := by decide +kernel
theorem dX8_close_40 : decode cX8_close 40 = .ok (.if_icmp .eq 10, 3) := by decide +kernel
theorem dX8_close_43 : decode cX8_close 43 = .ok (.iload_n 3, 1) := by decide +kernel
theorem dX8_close_44 : decode cX8_close 44 = .ok (.invokestatic 123, 3) := by decide +kernel
theorem dX8_close_47 : decode cX8_close 47 = .ok (.ifCond .ne 7, 3) := by decide +kernel
theorem dX8_close_50 : decode cX8_close 50 = .ok (.iconst 2, 1) := by decide +kernel
theorem dX8_close_51 : decode cX8_close 51 = .ok (.goto 16, 3) := by decide +kernel
theorem dX8_close_54 : decode cX8_close 54 = .ok (.aload_n 0, 1) := by decide +kernel
theorem dX8_close_55 : decode cX8_close 55 = .ok (.iload_n 1, 1) := by decide +kernel
theorem dX8_close_56 : decode cX8_close 56 = .ok (.invokevirtual 77, 3) := by decide +kernel
theorem dX8_close_59 : decode cX8_close 59 = .ok (.ifCond .ne 7, 3) := by decide +kernel
theorem dX8_close_62 : decode cX8_close 62 = .ok (.iconst 3, 1) := by decide +kernel
theorem dX8_close_63 : decode cX8_close 63 = .ok (.goto 4, 3) := by decide +kernel
theorem dX8_close_66 : decode cX8_close 66 = .ok (.iconst 0, 1) := by decide +kernel
theorem dX8_close_67 : decode cX8_close 67 = .ok (.invokevirtual 70, 3) := by decide +kernel
theorem dX8_close_70 : decode cX8_close 70 = .ok (.ifCond .eq 5, 3) := by decide +kernel
theorem dX8_close_73 : decode cX8_close 73 = .ok (.iconst 0, 1) := by decide +kernel
theorem dX8_close_74 : decode cX8_close 74 = .ok (.ireturn, 1) := by decide +kernel
theorem dX8_close_75 : decode cX8_close 75 = .ok (.aload_n 0, 1) := by decide +kernel
theorem dX8_close_76 : decode cX8_close 76 = .ok (.invokevirtual 74, 3) := by decide +kernel
theorem dX8_close_79 : decode cX8_close 79 = .ok (.aload_n 0, 1) := by decide +kernel
theorem dX8_close_80 : decode cX8_close 80 = .ok (.getfield 7, 3) := by decide +kernel
theorem dX8_close_83 : decode cX8_close 83 = .ok (.bipush 102, 2) := by decide +kernel
theorem dX8_close_85 : decode cX8_close 85 = .ok (.bipush 28, 2) := by decide +kernel
theorem dX8_close_87 : decode cX8_close 87 = .ok (.iload_n 1, 1) := by decide +kernel
theorem dX8_close_88 : decode cX8_close 88 = .ok (.imul, 1) := by decide +kernel
theorem dX8_close_89 : decode cX8_close 89 = .ok (.iadd, 1) := by decide +kernel
theorem dX8_close_90 : decode cX8_close 90 = .ok (.iconst 2, 1) := by decide +kernel
theorem dX8_close_91 : decode cX8_close 91 = .ok (.iadd, 1) := by decide +kernel
theorem dX8_close_92 : decode cX8_close 92 = .ok (.iload_n 2, 1) := by decide +kernel
theorem dX8_close_93 : decode cX8_close 93 = .ok (.iastore, 1) := by decide +kernel
theorem dX8_close_94 : decode cX8_close 94 = .ok (.aload_n 0, 1) := by decide +kernel
theorem dX8_close_95 : decode cX8_close 95 = .ok (.getfield 7, 3) := by decide +kernel
theorem dX8_close_98 : decode cX8_close 98 = .ok (.bipush 102, 2) := by decide +kernel
theorem dX8_close_100 : decode cX8_close 100 = .ok (.bipush 28, 2) := by decide +kernel
theorem dX8_close_102 : decode cX8_close 102 = .ok (.iload_n 1, 1) := by decide +kernel
theorem dX8_close_103 : decode cX8_close 103 = .ok (.imul, 1) := by decide +kernel
theorem dX8_close_104 : decode cX8_close 104 = .ok (.iadd, 1) := by decide +kernel
theorem dX8_close_105 : decode cX8_close 105 = .ok (.iconst 3, 1) := by decide +kernel
theorem dX8_close_106 : decode cX8_close 106 = .ok (.iadd, 1) := by decide +kernel
theorem dX8_close_107 : decode cX8_close 107 = .ok (.iload_n 3, 1) := by decide +kernel
theorem dX8_close_108 : decode cX8_close 108 = .ok (.iastore, 1) := by decide +kernel
theorem dX8_close_109 : decode cX8_close 109 = .ok (.aload_n 0, 1) := by decide +kernel
theorem dX8_close_110 : decode cX8_close 110 = .ok (.iload_n 1, 1) := by decide +kernel
theorem dX8_close_111 : decode cX8_close 111 = .ok (.invokevirtual 176, 3) := by decide +kernel
theorem dX8_close_114 : decode cX8_close 114 = .ok (.ireturn, 1) := by decide +kernel
theorem dX8_turns_0 : decode cX8_turns 0 = .ok (.aload_n 0, 1) := by decide +kernel
theorem dX8_turns_1 : decode cX8_turns 1 = .ok (.getfield 7, 3) := by decide +kernel
theorem dX8_turns_4 : decode cX8_turns 4 = .ok (.iload_n 1, 1) := by decide +kernel
theorem dX8_turns_5 : decode cX8_turns 5 = .ok (.aload_n 0, 1) := by decide +kernel
theorem dX8_turns_6 : decode cX8_turns 6 = .ok (.getfield 7, 3) := by decide +kernel
theorem dX8_turns_9 : decode cX8_turns 9 = .ok (.iload_n 1, 1) := by decide +kernel
theorem dX8_turns_10 : decode cX8_turns 10 = .ok (.iaload, 1) := by decide +kernel
theorem dX8_turns_11 : decode cX8_turns 11 = .ok (.i2l, 1) := by decide +kernel
theorem dX8_turns_12 : decode cX8_turns 12 = .ok (.iload_n 2, 1) := by decide +kernel
theorem dX8_turns_13 : decode cX8_turns 13 = .ok (.i2l, 1) := by decide +kernel
theorem dX8_turns_14 : decode cX8_turns 14 = .ok (.lsub, 1) := by decide +kernel
theorem dX8_turns_15 : decode cX8_turns 15 = .ok (.invokestatic 39, 3) := by decide +kernel
theorem dX8_turns_18 : decode cX8_turns 18 = .ok (.iastore, 1) := by decide +kernel
theorem dX8_turns_19 : decode cX8_turns 19 = .ok (.return_, 1) := by decide +kernel
theorem dX8_adjust_0 : decode cX8_adjust 0 = .ok (.aload_n 0, 1) := by decide +kernel
theorem dX8_adjust_1 : decode cX8_adjust 1 = .ok (.aload_n 0, 1) := by decide +kernel
theorem dX8_adjust_2 : decode cX8_adjust 2 = .ok (.iload_n 1, 1) := by decide +kernel
theorem dX8_adjust_3 : decode cX8_adjust 3 = .ok (.invokevirtual 155, 3) := by decide +kernel
theorem dX8_adjust_6 : decode cX8_adjust 6 = .ok (.ifCond .ne 7, 3) := by decide +kernel
theorem dX8_adjust_9 : decode cX8_adjust 9 = .ok (.iconst 1, 1) := by decide +kernel
theorem dX8_adjust_10 : decode cX8_adjust 10 = .ok (.goto 24, 3) := by decide +kernel
theorem dX8_adjust_13 : decode cX8_adjust 13 = .ok (.aload_n 0, 1) := by decide +kernel
theorem dX8_adjust_14 : decode cX8_adjust 14 = .ok (.iload_n 1, 1) := by decide +kernel
theorem dX8_adjust_15 : decode cX8_adjust 15 = .ok (.invokevirtual 158, 3) := by decide +kernel
theorem dX8_adjust_18 : decode cX8_adjust 18 = .ok (.ifCond .eq 11, 3) := by decide +kernel
theorem dX8_adjust_21 : decode cX8_adjust 21 = .ok (.aload_n 0, 1) := by decide +kernel
theorem dX8_adjust_22 : decode cX8_adjust 22 = .ok (.iload_n 1, 1) := by decide +kernel
theorem dX8_adjust_23 : decode cX8_adjust 23 = .ok (.invokevirtual 176, 3) := by decide +kernel
theorem dX8_adjust_26 : decode cX8_adjust 26 = .ok (.ifCond .le 7, 3) := by decide +kernel
theorem dX8_adjust_29 : decode cX8_adjust 29 = .ok (.iconst 2, 1) := by decide +kernel
theorem dX8_adjust_30 : decode cX8_adjust 30 = .ok (.goto 4, 3) := by decide +kernel
theorem dX8_adjust_33 : decode cX8_adjust 33 = .ok (.iconst 0, 1) := by decide +kernel
theorem dX8_adjust_34 : decode cX8_adjust 34 = .ok (.invokevirtual 70, 3) := by decide +kernel
theorem dX8_adjust_37 : decode cX8_adjust 37 = .ok (.ifCond .eq 5, 3) := by decide +kernel
theorem dX8_adjust_40 : decode cX8_adjust 40 = .ok (.iconst 0, 1) := by decide +kernel
theorem dX8_adjust_41 : decode cX8_adjust 41 = .ok (.ireturn, 1) := by decide +kernel
theorem dX8_adjust_42 : decode cX8_adjust 42 = .ok (.aload_n 0, 1) := by decide +kernel
theorem dX8_adjust_43 : decode cX8_adjust 43 = .ok (.invokevirtual 74, 3) := by decide +kernel
theorem dX8_adjust_46 : decode cX8_adjust 46 = .ok (.bipush 102, 2) := by decide +kernel
theorem dX8_adjust_48 : decode cX8_adjust 48 = .ok (.bipush 28, 2) := by decide +kernel
theorem dX8_adjust_50 : decode cX8_adjust 50 = .ok (.iload_n 1, 1) := by decide +kernel
theorem dX8_adjust_51 : decode cX8_adjust 51 = .ok (.imul, 1) := by decide +kernel
theorem dX8_adjust_52 : decode cX8_adjust 52 = .ok (.iadd, 1) := by decide +kernel
theorem dX8_adjust_53 : decode cX8_adjust 53 = .ok (.istore_n 2, 1) := by decide +kernel
theorem dX8_adjust_54 : decode cX8_adjust 54 = .ok (.aload_n 0, 1) := by decide +kernel
theorem dX8_adjust_55 : decode cX8_adjust 55 = .ok (.iload_n 1, 1) := by decide +kernel
theorem dX8_adjust_56 : decode cX8_adjust 56 = .ok (.invokevirtual 170, 3) := by decide +kernel
theorem dX8_adjust_59 : decode cX8_adjust 59 = .ok (.istore_n 3, 1) := by decide +kernel
theorem dX8_adjust_60 : decode cX8_adjust 60 = .ok (.aload_n 0, 1) := by decide +kernel
theorem dX8_adjust_61 : decode cX8_adjust 61 = .ok (.iload_n 1, 1) := by decide +kernel
theorem dX8_adjust_62 : decode cX8_adjust 62 = .ok (.invokevirtual 77, 3) := by decide +kernel
theorem dX8_adjust_65 : decode cX8_adjust 65 = .ok (.istore 4, 2) := by decide +kernel
theorem dX8_adjust_67 : decode cX8_adjust 67 = .ok (.iload_n 3, 1) := by decide +kernel
theorem dX8_adjust_68 : decode cX8_adjust 68 = .ok (.iload 4, 2) := by decide +kernel
theorem dX8_adjust_70 : decode cX8_adjust 70 = .ok (.iconst 1, 1) := by decide +kernel
theorem dX8_adjust_71 : decode cX8_adjust 71 = .ok (.iadd, 1) := by decide +kernel
theorem dX8_adjust_72 : decode cX8_adjust 72 = .ok (.idiv, 1) := by decide +kernel
theorem dX8_adjust_73 : decode cX8_adjust 73 = .ok (.istore 5, 2) := by decide +kernel
theorem dX8_adjust_75 : decode cX8_adjust 75 = .ok (.iload_n 3, 1) := by decide +kernel
theorem dX8_adjust_76 : decode cX8_adjust 76 = .ok (.iload 5, 2) := by decide +kernel
theorem dX8_adjust_78 : decode cX8_adjust 78 = .ok (.iload 4, 2) := by decide +kernel
theorem dX8_adjust_80 : decode cX8_adjust 80 = .ok (.iconst 1, 1) := by decide +kernel
theorem dX8_adjust_81 : decode cX8_adjust 81 = .ok (.iadd, 1) := by decide +kernel
theorem dX8_adjust_82 : decode cX8_adjust 82 = .ok (.imul, 1) := by decide +kernel
theorem dX8_adjust_83 : decode cX8_adjust 83 = .ok (.isub, 1) := by decide +kernel
theorem dX8_adjust_84 : decode cX8_adjust 84 = .ok (.istore 6, 2) := by decide +kernel
theorem dX8_adjust_86 : decode cX8_adjust 86 = .ok (.aload_n 0, 1) := by decide +kernel
theorem dX8_adjust_87 : decode cX8_adjust 87 = .ok (.iload_n 2, 1) := by decide +kernel
theorem dX8_adjust_88 : decode cX8_adjust 88 = .ok (.iconst 3, 1) := by decide +kernel
theorem dX8_adjust_89 : decode cX8_adjust 89 = .ok (.iadd, 1) := by decide +kernel
theorem dX8_adjust_90 : decode cX8_adjust 90 = .ok (.iload 5, 2) := by decide +kernel
theorem dX8_adjust_92 : decode cX8_adjust 92 = .ok (.invokevirtual 179, 3) := by decide +kernel
theorem dX8_adjust_95 : decode cX8_adjust 95 = .ok (.iconst 0, 1) := by decide +kernel
theorem dX8_adjust_96 : decode cX8_adjust 96 = .ok (.istore 7, 2) := by decide +kernel
theorem dX8_adjust_98 : decode cX8_adjust 98 = .ok (.iload 7, 2) := by decide +kernel
theorem dX8_adjust_100 : decode cX8_adjust 100 = .ok (.iload 4, 2) := by decide +kernel
theorem dX8_adjust_102 : decode cX8_adjust 102 = .ok (.if_icmp .ge 130, 3) := by decide +kernel
theorem dX8_adjust_105 : decode cX8_adjust 105 = .ok (.iconst 0, 1) := by decide +kernel
theorem dX8_adjust_106 : decode cX8_adjust 106 = .ok (.istore 8, 2) := by decide +kernel
theorem dX8_adjust_108 : decode cX8_adjust 108 = .ok (.iconst 0, 1) := by decide +kernel
theorem dX8_adjust_109 : decode cX8_adjust 109 = .ok (.istore 9, 2) := by decide +kernel
theorem dX8_adjust_111 : decode cX8_adjust 111 = .ok (.iload 9, 2) := by decide +kernel
theorem dX8_adjust_113 : decode cX8_adjust 113 = .ok (.iload 4, 2) := by decide +kernel
theorem dX8_adjust_115 : decode cX8_adjust 115 = .ok (.if_icmp .ge 72, 3) := by decide +kernel
theorem dX8_adjust_118 : decode cX8_adjust 118 = .ok (.aload_n 0, 1) := by decide +kernel
theorem dX8_adjust_119 : decode cX8_adjust 119 = .ok (.iload_n 1, 1) := by decide +kernel
theorem dX8_adjust_120 : decode cX8_adjust 120 = .ok (.iload 9, 2) := by decide +kernel
theorem dX8_adjust_122 : decode cX8_adjust 122 = .ok (.invokevirtual 183, 3) := by decide +kernel
theorem dX8_adjust_125 : decode cX8_adjust 125 = .ok (.aload_n 0, 1) := by decide +kernel
theorem dX8_adjust_126 : decode cX8_adjust 126 = .ok (.iload_n 1, 1) := by decide +kernel
theorem dX8_adjust_127 : decode cX8_adjust 127 = .ok (.iload 7, 2) := by decide +kernel
theorem dX8_adjust_129 : decode cX8_adjust 129 = .ok (.invokevirtual 183, 3) := by decide +kernel
theorem dX8_adjust_132 : decode cX8_adjust 132 = .ok (.if_icmp .gt 27, 3) := by decide +kernel
theorem dX8_adjust_135 : decode cX8_adjust 135 = .ok (.iload 9, 2) := by decide +kernel
theorem dX8_adjust_137 : decode cX8_adjust 137 = .ok (.iload 7, 2) := by decide +kernel
theorem dX8_adjust_139 : decode cX8_adjust 139 = .ok (.if_icmp .ge 24, 3) := by decide +kernel
theorem dX8_adjust_142 : decode cX8_adjust 142 = .ok (.aload_n 0, 1) := by decide +kernel
theorem dX8_adjust_143 : decode cX8_adjust 143 = .ok (.iload_n 1, 1) := by decide +kernel
theorem dX8_adjust_144 : decode cX8_adjust 144 = .ok (.iload 9, 2) := by decide +kernel
theorem dX8_adjust_146 : decode cX8_adjust 146 = .ok (.invokevirtual 183, 3) := by decide +kernel
theorem dX8_adjust_149 : decode cX8_adjust 149 = .ok (.aload_n 0, 1) := by decide +kernel
theorem dX8_adjust_150 : decode cX8_adjust 150 = .ok (.iload_n 1, 1) := by decide +kernel
theorem dX8_adjust_151 : decode cX8_adjust 151 = .ok (.iload 7, 2) := by decide +kernel
theorem dX8_adjust_153 : decode cX8_adjust 153 = .ok (.invokevirtual 183, 3) := by decide +kernel
theorem dX8_adjust_156 : decode cX8_adjust 156 = .ok (.if_icmp .ne 7, 3) := by decide +kernel
theorem dX8_adjust_159 : decode cX8_adjust 159 = .ok (.iconst 1, 1) := by decide +kernel
theorem dX8_adjust_160 : decode cX8_adjust 160 = .ok (.goto 4, 3) := by decide +kernel
theorem dX8_adjust_163 : decode cX8_adjust 163 = .ok (.iconst 0, 1) := by decide +kernel
theorem dX8_adjust_164 : decode cX8_adjust 164 = .ok (.istore 10, 2) := by decide +kernel
theorem dX8_adjust_166 : decode cX8_adjust 166 = .ok (.iload 8, 2) := by decide +kernel
theorem dX8_adjust_168 : decode cX8_adjust 168 = .ok (.iload 10, 2) := by decide +kernel
theorem dX8_adjust_170 : decode cX8_adjust 170 = .ok (.ifCond .eq 7, 3) := by decide +kernel
theorem dX8_adjust_173 : decode cX8_adjust 173 = .ok (.iconst 1, 1) := by decide +kernel
theorem dX8_adjust_174 : decode cX8_adjust 174 = .ok (.goto 4, 3) := by decide +kernel
theorem dX8_adjust_177 : decode cX8_adjust 177 = .ok (.iconst 0, 1) := by decide +kernel
theorem dX8_adjust_178 : decode cX8_adjust 178 = .ok (.iadd, 1) := by decide +kernel
theorem dX8_adjust_179 : decode cX8_adjust 179 = .ok (.istore 8, 2) := by decide +kernel
theorem dX8_adjust_181 : decode cX8_adjust 181 = .ok (.iinc 9 1, 3) := by decide +kernel
theorem dX8_adjust_184 : decode cX8_adjust 184 = .ok (.goto (-73), 3) := by decide +kernel
theorem dX8_adjust_187 : decode cX8_adjust 187 = .ok (.aload_n 0, 1) := by decide +kernel
theorem dX8_adjust_188 : decode cX8_adjust 188 = .ok (.iload_n 2, 1) := by decide +kernel
theorem dX8_adjust_189 : decode cX8_adjust 189 = .ok (.iconst 4, 1) := by decide +kernel
theorem dX8_adjust_190 : decode cX8_adjust 190 = .ok (.iadd, 1) := by decide +kernel
theorem dX8_adjust_191 : decode cX8_adjust 191 = .ok (.iconst 2, 1) := by decide +kernel
theorem dX8_adjust_192 : decode cX8_adjust 192 = .ok (.iload 7, 2) := by decide +kernel
theorem dX8_adjust_194 : decode cX8_adjust 194 = .ok (.imul, 1) := by decide +kernel
theorem dX8_adjust_195 : decode cX8_adjust 195 = .ok (.iadd, 1) := by decide +kernel
theorem dX8_adjust_196 : decode cX8_adjust 196 = .ok (.iload 5, 2) := by decide +kernel
theorem dX8_adjust_198 : decode cX8_adjust 198 = .ok (.iload 8, 2) := by decide +kernel
theorem dX8_adjust_200 : decode cX8_adjust 200 = .ok (.iload 6, 2) := by decide +kernel
theorem dX8_adjust_202 : decode cX8_adjust 202 = .ok (.invokestatic 99, 3) := by decide +kernel
theorem dX8_adjust_205 : decode cX8_adjust 205 = .ok (.if_icmp .ge 16, 3) := by decide +kernel
theorem dX8_adjust_208 : decode cX8_adjust 208 = .ok (.iload 6, 2) := by decide +kernel
theorem dX8_adjust_210 : decode cX8_adjust 210 = .ok (.ifCond .le 7, 3) := by decide +kernel
theorem dX8_adjust_213 : decode cX8_adjust 213 = .ok (.iconst 1, 1) := by decide +kernel
theorem dX8_adjust_214 : decode cX8_adjust 214 = .ok (.goto 8, 3) := by decide +kernel
theorem dX8_adjust_217 : decode cX8_adjust 217 = .ok (.iconst (-1), 1) := by decide +kernel
theorem dX8_adjust_218 : decode cX8_adjust 218 = .ok (.goto 4, 3) := by decide +kernel
theorem dX8_adjust_221 : decode cX8_adjust 221 = .ok (.iconst 0, 1) := by decide +kernel
theorem dX8_adjust_222 : decode cX8_adjust 222 = .ok (.iadd, 1) := by decide +kernel
theorem dX8_adjust_223 : decode cX8_adjust 223 = .ok (.invokevirtual 179, 3) := by decide +kernel
theorem dX8_adjust_226 : decode cX8_adjust 226 = .ok (.iinc 7 1, 3) := by decide +kernel
theorem dX8_adjust_229 : decode cX8_adjust 229 = .ok (.goto (-131), 3) := by decide +kernel
theorem dX8_adjust_232 : decode cX8_adjust 232 = .ok (.iload_n 3, 1) := by decide +kernel
theorem dX8_adjust_233 : decode cX8_adjust 233 = .ok (.ireturn, 1) := by decide +kernel
theorem dX8_end_0 : decode cX8_end 0 = .ok (.aload_n 0, 1) := by decide +kernel
theorem dX8_end_1 : decode cX8_end 1 = .ok (.aload_n 0, 1) := by decide +kernel
theorem dX8_end_2 : decode cX8_end 2 = .ok (.aload_n 0, 1) := by decide +kernel
theorem dX8_end_3 : decode cX8_end 3 = .ok (.iload_n 1, 1) := by decide +kernel
theorem dX8_end_4 : decode cX8_end 4 = .ok (.iconst 0, 1) := by decide +kernel
theorem dX8_end_5 : decode cX8_end 5 = .ok (.invokevirtual 33, 3) := by decide +kernel
theorem dX8_end_8 : decode cX8_end 8 = .ok (.iconst 0, 1) := by decide +kernel
theorem dX8_end_9 : decode cX8_end 9 = .ok (.invokevirtual 138, 3) := by decide +kernel
theorem dX8_end_12 : decode cX8_end 12 = .ok (.iload_n 3, 1) := by decide +kernel
theorem dX8_end_13 : decode cX8_end 13 = .ok (.ifCond .eq 7, 3) := by decide +kernel
theorem dX8_end_16 : decode cX8_end 16 = .ok (.iconst 0, 1) := by decide +kernel
theorem dX8_end_17 : decode cX8_end 17 = .ok (.goto 4, 3) := by decide +kernel
theorem dX8_end_20 : decode cX8_end 20 = .ok (.iconst 1, 1) := by decide +kernel
theorem dX8_end_21 : decode cX8_end 21 = .ok (.invokevirtual 81, 3) := by decide +kernel
theorem dX8_end_24 : decode cX8_end 24 = .ok (.istore 4, 2) := by decide +kernel
theorem dX8_end_26 : decode cX8_end 26 = .ok (.iconst 0, 1) := by decide +kernel
theorem dX8_end_27 : decode cX8_end 27 = .ok (.istore 5, 2) := by decide +kernel
theorem dX8_end_29 : decode cX8_end 29 = .ok (.iload 5, 2) := by decide +kernel
theorem dX8_end_31 : decode cX8_end 31 = .ok (.iload_n 2, 1) := by decide +kernel
theorem dX8_end_32 : decode cX8_end 32 = .ok (.if_icmp .gt 57, 3) := by decide +kernel
theorem dX8_end_35 : decode cX8_end 35 = .ok (.aload_n 0, 1) := by decide +kernel
theorem dX8_end_36 : decode cX8_end 36 = .ok (.iload_n 1, 1) := by decide +kernel
theorem dX8_end_37 : decode cX8_end 37 = .ok (.iload 5, 2) := by decide +kernel
theorem dX8_end_39 : decode cX8_end 39 = .ok (.invokevirtual 164, 3) := by decide +kernel
theorem dX8_end_42 : decode cX8_end 42 = .ok (.istore 6, 2) := by decide +kernel
theorem dX8_end_44 : decode cX8_end 44 = .ok (.iload 4, 2) := by decide +kernel
theorem dX8_end_46 : decode cX8_end 46 = .ok (.aload_n 0, 1) := by decide +kernel
theorem dX8_end_47 : decode cX8_end 47 = .ok (.iload_n 1, 1) := by decide +kernel
theorem dX8_end_48 : decode cX8_end 48 = .ok (.iload 5, 2) := by decide +kernel
theorem dX8_end_50 : decode cX8_end 50 = .ok (.invokevirtual 183, 3) := by decide +kernel
theorem dX8_end_53 : decode cX8_end 53 = .ok (.i2l, 1) := by decide +kernel
theorem dX8_end_54 : decode cX8_end 54 = .ok (.iload_n 3, 1) := by decide +kernel
theorem dX8_end_55 : decode cX8_end 55 = .ok (.ifCond .eq 12, 3) := by decide +kernel
theorem dX8_end_58 : decode cX8_end 58 = .ok (.iload 6, 2) := by decide +kernel
theorem dX8_end_60 : decode cX8_end 60 = .ok (.i2l, 1) := by decide +kernel
theorem dX8_end_61 : decode cX8_end 61 = .ok (.invokestatic 53, 3) := by decide +kernel
theorem dX8_end_64 : decode cX8_end 64 = .ok (.goto 9, 3) := by decide +kernel
theorem dX8_end_67 : decode cX8_end 67 = .ok (.iload 6, 2) := by decide +kernel
theorem dX8_end_69 : decode cX8_end 69 = .ok (.i2l, 1) := by decide +kernel
theorem dX8_end_70 : decode cX8_end 70 = .ok (.invokestatic 186, 3) := by decide +kernel
theorem dX8_end_73 : decode cX8_end 73 = .ok (.i2l, 1) := by decide +kernel
theorem dX8_end_74 : decode cX8_end 74 = .ok (.lmul, 1) := by decide +kernel
theorem dX8_end_75 : decode cX8_end 75 = .ok (.ldc2_w 189, 3) := by decide +kernel
theorem dX8_end_78 : decode cX8_end 78 = .ok (.ldiv, 1) := by decide +kernel
theorem dX8_end_79 : decode cX8_end 79 = .ok (.l2i, 1) := by decide +kernel
theorem dX8_end_80 : decode cX8_end 80 = .ok (.iadd, 1) := by decide +kernel
theorem dX8_end_81 : decode cX8_end 81 = .ok (.istore 4, 2) := by decide +kernel
theorem dX8_end_83 : decode cX8_end 83 = .ok (.iinc 5 1, 3) := by decide +kernel
theorem dX8_end_86 : decode cX8_end 86 = .ok (.goto (-57), 3) := by decide +kernel
theorem dX8_end_89 : decode cX8_end 89 = .ok (.iload 4, 2) := by decide +kernel
theorem dX8_end_91 : decode cX8_end 91 = .ok (.ireturn, 1) := by decide +kernel
theorem dX8_miss_0 : decode cX8_miss 0 = .ok (.aload_n 0, 1) := by decide +kernel
theorem dX8_miss_1 : decode cX8_miss 1 = .ok (.iload_n 1, 1) := by decide +kernel
theorem dX8_miss_2 : decode cX8_miss 2 = .ok (.aload_n 0, 1) := by decide +kernel
theorem dX8_miss_3 : decode cX8_miss 3 = .ok (.iload_n 1, 1) := by decide +kernel
theorem dX8_miss_4 : decode cX8_miss 4 = .ok (.invokevirtual 77, 3) := by decide +kernel
theorem dX8_miss_7 : decode cX8_miss 7 = .ok (.iconst 1, 1) := by decide +kernel
theorem dX8_miss_8 : decode cX8_miss 8 = .ok (.isub, 1) := by decide +kernel
theorem dX8_miss_9 : decode cX8_miss 9 = .ok (.iload_n 2, 1) := by decide +kernel
theorem dX8_miss_10 : decode cX8_miss 10 = .ok (.invokevirtual 191, 3) := by decide +kernel
theorem dX8_miss_13 : decode cX8_miss 13 = .ok (.aload_n 0, 1) := by decide +kernel
theorem dX8_miss_14 : decode cX8_miss 14 = .ok (.aload_n 0, 1) := by decide +kernel
theorem dX8_miss_15 : decode cX8_miss 15 = .ok (.aload_n 0, 1) := by decide +kernel
theorem dX8_miss_16 : decode cX8_miss 16 = .ok (.iload_n 1, 1) := by decide +kernel
theorem dX8_miss_17 : decode cX8_miss 17 = .ok (.iconst 2, 1) := by decide +kernel
theorem dX8_miss_18 : decode cX8_miss 18 = .ok (.invokevirtual 33, 3) := by decide +kernel
theorem dX8_miss_21 : decode cX8_miss 21 = .ok (.iconst 0, 1) := by decide +kernel
theorem dX8_miss_22 : decode cX8_miss 22 = .ok (.invokevirtual 138, 3) := by decide +kernel
theorem dX8_miss_25 : decode cX8_miss 25 = .ok (.iload_n 2, 1) := by decide +kernel
theorem dX8_miss_26 : decode cX8_miss 26 = .ok (.ifCond .eq 7, 3) := by decide +kernel
theorem dX8_miss_29 : decode cX8_miss 29 = .ok (.iconst 0, 1) := by decide +kernel
theorem dX8_miss_30 : decode cX8_miss 30 = .ok (.goto 4, 3) := by decide +kernel
theorem dX8_miss_33 : decode cX8_miss 33 = .ok (.iconst 1, 1) := by decide +kernel
theorem dX8_miss_34 : decode cX8_miss 34 = .ok (.invokevirtual 81, 3) := by decide +kernel
theorem dX8_miss_37 : decode cX8_miss 37 = .ok (.isub, 1) := by decide +kernel
theorem dX8_miss_38 : decode cX8_miss 38 = .ok (.ireturn, 1) := by decide +kernel
theorem dX8_isWhole_0 : decode cX8_isWhole 0 = .ok (.aload_n 0, 1) := by decide +kernel
theorem dX8_isWhole_1 : decode cX8_isWhole 1 = .ok (.iload_n 1, 1) := by decide +kernel
theorem dX8_isWhole_2 : decode cX8_isWhole 2 = .ok (.invokevirtual 158, 3) := by decide +kernel
theorem dX8_isWhole_5 : decode cX8_isWhole 5 = .ok (.ifCond .eq 25, 3) := by decide +kernel
theorem dX8_isWhole_8 : decode cX8_isWhole 8 = .ok (.aload_n 0, 1) := by decide +kernel
theorem dX8_isWhole_9 : decode cX8_isWhole 9 = .ok (.iload_n 1, 1) := by decide +kernel
theorem dX8_isWhole_10 : decode cX8_isWhole 10 = .ok (.invokevirtual 176, 3) := by decide +kernel
theorem dX8_isWhole_13 : decode cX8_isWhole 13 = .ok (.ifCond .eq 13, 3) := by decide +kernel
theorem dX8_isWhole_16 : decode cX8_isWhole 16 = .ok (.aload_n 0, 1) := by decide +kernel
theorem dX8_isWhole_17 : decode cX8_isWhole 17 = .ok (.iload_n 1, 1) := by decide +kernel
theorem dX8_isWhole_18 : decode cX8_isWhole 18 = .ok (.invokevirtual 176, 3) := by decide +kernel
theorem dX8_isWhole_21 : decode cX8_isWhole 21 = .ok (.bipush 8, 2) := by decide +kernel
theorem dX8_isWhole_23 : decode cX8_isWhole 23 = .ok (.if_icmp .ne 7, 3) := by decide +kernel
theorem dX8_isWhole_26 : decode cX8_isWhole 26 = .ok (.iconst 1, 1) := by decide +kernel
theorem dX8_isWhole_27 : decode cX8_isWhole 27 = .ok (.goto 4, 3) := by decide +kernel
theorem dX8_isWhole_30 : decode cX8_isWhole 30 = .ok (.iconst 0, 1) := by decide +kernel
theorem dX8_isWhole_31 : decode cX8_isWhole 31 = .ok (.ireturn, 1) := by decide +kernel
theorem dX8_far_0 : decode cX8_far 0 = .ok (.lload_n 0, 1) := by decide +kernel
theorem dX8_far_1 : decode cX8_far 1 = .ok (.lload_n 0, 1) := by decide +kernel
theorem dX8_far_2 : decode cX8_far 2 = .ok (.lmul, 1) := by decide +kernel
theorem dX8_far_3 : decode cX8_far 3 = .ok (.lload_n 2, 1) := by decide +kernel
theorem dX8_far_4 : decode cX8_far 4 = .ok (.lload_n 2, 1) := by decide +kernel
theorem dX8_far_5 : decode cX8_far 5 = .ok (.lmul, 1) := by decide +kernel
theorem dX8_far_6 : decode cX8_far 6 = .ok (.ladd, 1) := by decide +kernel
theorem dX8_far_7 : decode cX8_far 7 = .ok (.invokestatic 173, 3) := by decide +kernel
theorem dX8_far_10 : decode cX8_far 10 = .ok (.ireturn, 1) := by decide +kernel
theorem dX8_traverseOf_0 : decode cX8_traverseOf 0 = .ok (.iload_n 2, 1) := by decide +kernel
theorem dX8_traverseOf_1 : decode cX8_traverseOf 1 = .ok (.tableswitch 166 0 8 #[51, 51, 58, 58, 78, 84, 103, 136, 136], 51) := by decide +kernel
theorem dX8_traverseOf_52 : decode cX8_traverseOf 52 = .ok (.aload_n 0, 1) := by decide +kernel
theorem dX8_traverseOf_53 : decode cX8_traverseOf 53 = .ok (.iload_n 1, 1) := by decide +kernel
theorem dX8_traverseOf_54 : decode cX8_traverseOf 54 = .ok (.iload_n 2, 1) := by decide +kernel
theorem dX8_traverseOf_55 : decode cX8_traverseOf 55 = .ok (.invokevirtual 33, 3) := by decide +kernel
theorem dX8_traverseOf_58 : decode cX8_traverseOf 58 = .ok (.ireturn, 1) := by decide +kernel
theorem dX8_traverseOf_59 : decode cX8_traverseOf 59 = .ok (.aload_n 0, 1) := by decide +kernel
theorem dX8_traverseOf_60 : decode cX8_traverseOf 60 = .ok (.iload_n 1, 1) := by decide +kernel
theorem dX8_traverseOf_61 : decode cX8_traverseOf 61 = .ok (.invokevirtual 158, 3) := by decide +kernel
theorem dX8_traverseOf_64 : decode cX8_traverseOf 64 = .ok (.ifCond .eq 12, 3) := by decide +kernel
theorem dX8_traverseOf_67 : decode cX8_traverseOf 67 = .ok (.aload_n 0, 1) := by decide +kernel
theorem dX8_traverseOf_68 : decode cX8_traverseOf 68 = .ok (.iload_n 1, 1) := by decide +kernel
theorem dX8_traverseOf_69 : decode cX8_traverseOf 69 = .ok (.iload_n 2, 1) := by decide +kernel
theorem dX8_traverseOf_70 : decode cX8_traverseOf 70 = .ok (.invokevirtual 33, 3) := by decide +kernel
theorem dX8_traverseOf_73 : decode cX8_traverseOf 73 = .ok (.goto 5, 3) := by decide +kernel
theorem dX8_traverseOf_76 : decode cX8_traverseOf 76 = .ok (.ldc 105, 2) := by decide +kernel
theorem dX8_traverseOf_78 : decode cX8_traverseOf 78 = .ok (.ireturn, 1) := by decide +kernel
theorem dX8_traverseOf_79 : decode cX8_traverseOf 79 = .ok (.aload_n 0, 1) := by decide +kernel
theorem dX8_traverseOf_80 : decode cX8_traverseOf 80 = .ok (.iload_n 1, 1) := by decide +kernel
theorem dX8_traverseOf_81 : decode cX8_traverseOf 81 = .ok (.invokevirtual 176, 3) := by decide +kernel
theorem dX8_traverseOf_84 : decode cX8_traverseOf 84 = .ok (.ireturn, 1) := by decide +kernel
theorem dX8_traverseOf_85 : decode cX8_traverseOf 85 = .ok (.aload_n 0, 1) := by decide +kernel
theorem dX8_traverseOf_86 : decode cX8_traverseOf 86 = .ok (.iload_n 1, 1) := by decide +kernel
theorem dX8_traverseOf_87 : decode cX8_traverseOf 87 = .ok (.invokevirtual 195, 3) := by decide +kernel
theorem dX8_traverseOf_90 : decode cX8_traverseOf 90 = .ok (.ifCond .eq 11, 3) := by decide +kernel
theorem dX8_traverseOf_93 : decode cX8_traverseOf 93 = .ok (.aload_n 0, 1) := by decide +kernel
theorem dX8_traverseOf_94 : decode cX8_traverseOf 94 = .ok (.iload_n 1, 1) := by decide +kernel
theorem dX8_traverseOf_95 : decode cX8_traverseOf 95 = .ok (.invokevirtual 170, 3) := by decide +kernel
theorem dX8_traverseOf_98 : decode cX8_traverseOf 98 = .ok (.goto 5, 3) := by decide +kernel
theorem dX8_traverseOf_101 : decode cX8_traverseOf 101 = .ok (.ldc 105, 2) := by decide +kernel
theorem dX8_traverseOf_103 : decode cX8_traverseOf 103 = .ok (.ireturn, 1) := by decide +kernel
theorem dX8_traverseOf_104 : decode cX8_traverseOf 104 = .ok (.iconst 0, 1) := by decide +kernel
theorem dX8_traverseOf_105 : decode cX8_traverseOf 105 = .ok (.istore_n 3, 1) := by decide +kernel
theorem dX8_traverseOf_106 : decode cX8_traverseOf 106 = .ok (.iconst 0, 1) := by decide +kernel
theorem dX8_traverseOf_107 : decode cX8_traverseOf 107 = .ok (.istore 4, 2) := by decide +kernel
theorem dX8_traverseOf_109 : decode cX8_traverseOf 109 = .ok (.iload 4, 2) := by decide +kernel
theorem dX8_traverseOf_111 : decode cX8_traverseOf 111 = .ok (.aload_n 0, 1) := by decide +kernel
theorem dX8_traverseOf_112 : decode cX8_traverseOf 112 = .ok (.iload_n 1, 1) := by decide +kernel
theorem dX8_traverseOf_113 : decode cX8_traverseOf 113 = .ok (.invokevirtual 77, 3) := by decide +kernel
theorem dX8_traverseOf_116 : decode cX8_traverseOf 116 = .ok (.if_icmp .ge 19, 3) := by decide +kernel
theorem dX8_traverseOf_119 : decode cX8_traverseOf 119 = .ok (.iload_n 3, 1) := by decide +kernel
theorem dX8_traverseOf_120 : decode cX8_traverseOf 120 = .ok (.aload_n 0, 1) := by decide +kernel
theorem dX8_traverseOf_121 : decode cX8_traverseOf 121 = .ok (.iload_n 1, 1) := by decide +kernel
theorem dX8_traverseOf_122 : decode cX8_traverseOf 122 = .ok (.iload 4, 2) := by decide +kernel
theorem dX8_traverseOf_124 : decode cX8_traverseOf 124 = .ok (.invokevirtual 183, 3) := by decide +kernel
theorem dX8_traverseOf_127 : decode cX8_traverseOf 127 = .ok (.iadd, 1) := by decide +kernel
theorem dX8_traverseOf_128 : decode cX8_traverseOf 128 = .ok (.istore_n 3, 1) := by decide +kernel
theorem dX8_traverseOf_129 : decode cX8_traverseOf 129 = .ok (.iinc 4 1, 3) := by decide +kernel
theorem dX8_traverseOf_132 : decode cX8_traverseOf 132 = .ok (.goto (-23), 3) := by decide +kernel
theorem dX8_traverseOf_135 : decode cX8_traverseOf 135 = .ok (.iload_n 3, 1) := by decide +kernel
theorem dX8_traverseOf_136 : decode cX8_traverseOf 136 = .ok (.ireturn, 1) := by decide +kernel
theorem dX8_traverseOf_137 : decode cX8_traverseOf 137 = .ok (.aload_n 0, 1) := by decide +kernel
theorem dX8_traverseOf_138 : decode cX8_traverseOf 138 = .ok (.iload_n 1, 1) := by decide +kernel
theorem dX8_traverseOf_139 : decode cX8_traverseOf 139 = .ok (.invokevirtual 195, 3) := by decide +kernel
theorem dX8_traverseOf_142 : decode cX8_traverseOf 142 = .ok (.ifCond .eq 22, 3) := by decide +kernel
theorem dX8_traverseOf_145 : decode cX8_traverseOf 145 = .ok (.aload_n 0, 1) := by decide +kernel
theorem dX8_traverseOf_146 : decode cX8_traverseOf 146 = .ok (.iload_n 1, 1) := by decide +kernel
theorem dX8_traverseOf_147 : decode cX8_traverseOf 147 = .ok (.iload_n 2, 1) := by decide +kernel
theorem dX8_traverseOf_148 : decode cX8_traverseOf 148 = .ok (.bipush 7, 2) := by decide +kernel
theorem dX8_traverseOf_150 : decode cX8_traverseOf 150 = .ok (.if_icmp .ne 7, 3) := by decide +kernel
theorem dX8_traverseOf_153 : decode cX8_traverseOf 153 = .ok (.iconst 1, 1) := by decide +kernel
theorem dX8_traverseOf_154 : decode cX8_traverseOf 154 = .ok (.goto 4, 3) := by decide +kernel
theorem dX8_traverseOf_157 : decode cX8_traverseOf 157 = .ok (.iconst 0, 1) := by decide +kernel
theorem dX8_traverseOf_158 : decode cX8_traverseOf 158 = .ok (.invokevirtual 198, 3) := by decide +kernel
theorem dX8_traverseOf_161 : decode cX8_traverseOf 161 = .ok (.goto 5, 3) := by decide +kernel
theorem dX8_traverseOf_164 : decode cX8_traverseOf 164 = .ok (.ldc 105, 2) := by decide +kernel
theorem dX8_traverseOf_166 : decode cX8_traverseOf 166 = .ok (.ireturn, 1) := by decide +kernel
theorem dX8_traverseOf_167 : decode cX8_traverseOf 167 = .ok (.aload_n 0, 1) := by decide +kernel
theorem dX8_traverseOf_168 : decode cX8_traverseOf 168 = .ok (.iload_n 1, 1) := by decide +kernel
theorem dX8_traverseOf_169 : decode cX8_traverseOf 169 = .ok (.invokevirtual 195, 3) := by decide +kernel
theorem dX8_traverseOf_172 : decode cX8_traverseOf 172 = .ok (.ifCond .eq 23, 3) := by decide +kernel
theorem dX8_traverseOf_175 : decode cX8_traverseOf 175 = .ok (.aload_n 0, 1) := by decide +kernel
theorem dX8_traverseOf_176 : decode cX8_traverseOf 176 = .ok (.iload_n 1, 1) := by decide +kernel
theorem dX8_traverseOf_177 : decode cX8_traverseOf 177 = .ok (.iconst 1, 1) := by decide +kernel
theorem dX8_traverseOf_178 : decode cX8_traverseOf 178 = .ok (.invokevirtual 198, 3) := by decide +kernel
theorem dX8_traverseOf_181 : decode cX8_traverseOf 181 = .ok (.i2l, 1) := by decide +kernel
theorem dX8_traverseOf_182 : decode cX8_traverseOf 182 = .ok (.aload_n 0, 1) := by decide +kernel
theorem dX8_traverseOf_183 : decode cX8_traverseOf 183 = .ok (.iload_n 1, 1) := by decide +kernel
theorem dX8_traverseOf_184 : decode cX8_traverseOf 184 = .ok (.iconst 0, 1) := by decide +kernel
theorem dX8_traverseOf_185 : decode cX8_traverseOf 185 = .ok (.invokevirtual 198, 3) := by decide +kernel
theorem dX8_traverseOf_188 : decode cX8_traverseOf 188 = .ok (.i2l, 1) := by decide +kernel
theorem dX8_traverseOf_189 : decode cX8_traverseOf 189 = .ok (.invokestatic 202, 3) := by decide +kernel
theorem dX8_traverseOf_192 : decode cX8_traverseOf 192 = .ok (.goto 5, 3) := by decide +kernel
theorem dX8_traverseOf_195 : decode cX8_traverseOf 195 = .ok (.ldc 105, 2) := by decide +kernel
theorem dX8_traverseOf_197 : decode cX8_traverseOf 197 = .ok (.ireturn, 1) := by decide +kernel
theorem dX8_traverse_0 : decode cX8_traverse 0 = .ok (.aload_n 0, 1) := by decide +kernel
theorem dX8_traverse_1 : decode cX8_traverse 1 = .ok (.aload_n 0, 1) := by decide +kernel
theorem dX8_traverse_2 : decode cX8_traverse 2 = .ok (.iload_n 1, 1) := by decide +kernel
theorem dX8_traverse_3 : decode cX8_traverse 3 = .ok (.invokevirtual 155, 3) := by decide +kernel
theorem dX8_traverse_6 : decode cX8_traverse 6 = .ok (.ifCond .ne 7, 3) := by decide +kernel
theorem dX8_traverse_9 : decode cX8_traverse 9 = .ok (.iconst 1, 1) := by decide +kernel
theorem dX8_traverse_10 : decode cX8_traverse 10 = .ok (.goto 20, 3) := by decide +kernel
theorem dX8_traverse_13 : decode cX8_traverse 13 = .ok (.iload_n 2, 1) := by decide +kernel
theorem dX8_traverse_14 : decode cX8_traverse 14 = .ok (.i2l, 1) := by decide +kernel
theorem dX8_traverse_15 : decode cX8_traverse 15 = .ok (.lconst 0, 1) := by decide +kernel
theorem dX8_traverse_16 : decode cX8_traverse 16 = .ok (.ldc2_w 206, 3) := by decide +kernel
theorem dX8_traverse_19 : decode cX8_traverse 19 = .ok (.invokestatic 62, 3) := by decide +kernel
theorem dX8_traverse_22 : decode cX8_traverse 22 = .ok (.ifCond .eq 7, 3) := by decide +kernel
theorem dX8_traverse_25 : decode cX8_traverse 25 = .ok (.iconst 0, 1) := by decide +kernel
theorem dX8_traverse_26 : decode cX8_traverse 26 = .ok (.goto 4, 3) := by decide +kernel
theorem dX8_traverse_29 : decode cX8_traverse 29 = .ok (.iconst 2, 1) := by decide +kernel
theorem dX8_traverse_30 : decode cX8_traverse 30 = .ok (.invokevirtual 70, 3) := by decide +kernel
theorem dX8_traverse_33 : decode cX8_traverse 33 = .ok (.ifCond .eq 7, 3) := by decide +kernel
theorem dX8_traverse_36 : decode cX8_traverse 36 = .ok (.iconst 0, 1) := by decide +kernel
theorem dX8_traverse_37 : decode cX8_traverse 37 = .ok (.goto 9, 3) := by decide +kernel
theorem dX8_traverse_40 : decode cX8_traverse 40 = .ok (.aload_n 0, 1) := by decide +kernel
theorem dX8_traverse_41 : decode cX8_traverse 41 = .ok (.iload_n 1, 1) := by decide +kernel
theorem dX8_traverse_42 : decode cX8_traverse 42 = .ok (.iload_n 2, 1) := by decide +kernel
theorem dX8_traverse_43 : decode cX8_traverse 43 = .ok (.invokevirtual 208, 3) := by decide +kernel
theorem dX8_traverse_46 : decode cX8_traverse 46 = .ok (.ireturn, 1) := by decide +kernel
theorem dX8_legOf_0 : decode cX8_legOf 0 = .ok (.iload_n 3, 1) := by decide +kernel
theorem dX8_legOf_1 : decode cX8_legOf 1 = .ok (.iconst 2, 1) := by decide +kernel
theorem dX8_legOf_2 : decode cX8_legOf 2 = .ok (.if_icmp .ge 23, 3) := by decide +kernel
theorem dX8_legOf_5 : decode cX8_legOf 5 = .ok (.iload_n 3, 1) := by decide +kernel
theorem dX8_legOf_6 : decode cX8_legOf 6 = .ok (.ifCond .ne 12, 3) := by decide +kernel
theorem dX8_legOf_9 : decode cX8_legOf 9 = .ok (.aload_n 0, 1) := by decide +kernel
theorem dX8_legOf_10 : decode cX8_legOf 10 = .ok (.iload_n 1, 1) := by decide +kernel
theorem dX8_legOf_11 : decode cX8_legOf 11 = .ok (.iload_n 2, 1) := by decide +kernel
theorem dX8_legOf_12 : decode cX8_legOf 12 = .ok (.invokevirtual 161, 3) := by decide +kernel
theorem dX8_legOf_15 : decode cX8_legOf 15 = .ok (.goto 9, 3) := by decide +kernel
theorem dX8_legOf_18 : decode cX8_legOf 18 = .ok (.aload_n 0, 1) := by decide +kernel
theorem dX8_legOf_19 : decode cX8_legOf 19 = .ok (.iload_n 1, 1) := by decide +kernel
theorem dX8_legOf_20 : decode cX8_legOf 20 = .ok (.iload_n 2, 1) := by decide +kernel
theorem dX8_legOf_21 : decode cX8_legOf 21 = .ok (.invokevirtual 183, 3) := by decide +kernel
theorem dX8_legOf_24 : decode cX8_legOf 24 = .ok (.ireturn, 1) := by decide +kernel
theorem dX8_legOf_25 : decode cX8_legOf 25 = .ok (.aload_n 0, 1) := by decide +kernel
theorem dX8_legOf_26 : decode cX8_legOf 26 = .ok (.aload_n 0, 1) := by decide +kernel
theorem dX8_legOf_27 : decode cX8_legOf 27 = .ok (.iload_n 1, 1) := by decide +kernel
theorem dX8_legOf_28 : decode cX8_legOf 28 = .ok (.iconst 0, 1) := by decide +kernel
theorem dX8_legOf_29 : decode cX8_legOf 29 = .ok (.invokevirtual 33, 3) := by decide +kernel
theorem dX8_legOf_32 : decode cX8_legOf 32 = .ok (.invokevirtual 144, 3) := by decide +kernel
theorem dX8_legOf_35 : decode cX8_legOf 35 = .ok (.ifCond .le 6, 3) := by decide +kernel
theorem dX8_legOf_38 : decode cX8_legOf 38 = .ok (.ldc 105, 2) := by decide +kernel
theorem dX8_legOf_40 : decode cX8_legOf 40 = .ok (.ireturn, 1) := by decide +kernel
theorem dX8_legOf_41 : decode cX8_legOf 41 = .ok (.iload_n 3, 1) := by decide +kernel
theorem dX8_legOf_42 : decode cX8_legOf 42 = .ok (.iconst 2, 1) := by decide +kernel
theorem dX8_legOf_43 : decode cX8_legOf 43 = .ok (.if_icmp .ne 12, 3) := by decide +kernel
theorem dX8_legOf_46 : decode cX8_legOf 46 = .ok (.aload_n 0, 1) := by decide +kernel
theorem dX8_legOf_47 : decode cX8_legOf 47 = .ok (.iload_n 1, 1) := by decide +kernel
theorem dX8_legOf_48 : decode cX8_legOf 48 = .ok (.iload_n 2, 1) := by decide +kernel
theorem dX8_legOf_49 : decode cX8_legOf 49 = .ok (.invokevirtual 164, 3) := by decide +kernel
theorem dX8_legOf_52 : decode cX8_legOf 52 = .ok (.goto 19, 3) := by decide +kernel
theorem dX8_legOf_55 : decode cX8_legOf 55 = .ok (.aload_n 0, 1) := by decide +kernel
theorem dX8_legOf_56 : decode cX8_legOf 56 = .ok (.iload_n 1, 1) := by decide +kernel
theorem dX8_legOf_57 : decode cX8_legOf 57 = .ok (.iload_n 2, 1) := by decide +kernel
theorem dX8_legOf_58 : decode cX8_legOf 58 = .ok (.iload_n 3, 1) := by decide +kernel
theorem dX8_legOf_59 : decode cX8_legOf 59 = .ok (.iconst 3, 1) := by decide +kernel
theorem dX8_legOf_60 : decode cX8_legOf 60 = .ok (.if_icmp .ne 7, 3) := by decide +kernel
theorem dX8_legOf_63 : decode cX8_legOf 63 = .ok (.iconst 1, 1) := by decide +kernel
theorem dX8_legOf_64 : decode cX8_legOf 64 = .ok (.goto 4, 3) := by decide +kernel
theorem dX8_legOf_67 : decode cX8_legOf 67 = .ok (.iconst 0, 1) := by decide +kernel
theorem dX8_legOf_68 : decode cX8_legOf 68 = .ok (.invokevirtual 191, 3) := by decide +kernel
theorem dX8_legOf_71 : decode cX8_legOf 71 = .ok (.ireturn, 1) := by decide +kernel
theorem dX8_leg_0 : decode cX8_leg 0 = .ok (.aload_n 0, 1) := by decide +kernel
theorem dX8_leg_1 : decode cX8_leg 1 = .ok (.iload_n 1, 1) := by decide +kernel
theorem dX8_leg_2 : decode cX8_leg 2 = .ok (.invokevirtual 155, 3) := by decide +kernel
theorem dX8_leg_5 : decode cX8_leg 5 = .ok (.ifCond .eq 20, 3) := by decide +kernel
theorem dX8_leg_8 : decode cX8_leg 8 = .ok (.iload_n 2, 1) := by decide +kernel
theorem dX8_leg_9 : decode cX8_leg 9 = .ok (.ifCond .lt 16, 3) := by decide +kernel
theorem dX8_leg_12 : decode cX8_leg 12 = .ok (.iload_n 2, 1) := by decide +kernel
theorem dX8_leg_13 : decode cX8_leg 13 = .ok (.aload_n 0, 1) := by decide +kernel
theorem dX8_leg_14 : decode cX8_leg 14 = .ok (.iload_n 1, 1) := by decide +kernel
theorem dX8_leg_15 : decode cX8_leg 15 = .ok (.invokevirtual 77, 3) := by decide +kernel
theorem dX8_leg_18 : decode cX8_leg 18 = .ok (.if_icmp .ge 7, 3) := by decide +kernel
theorem dX8_leg_21 : decode cX8_leg 21 = .ok (.iconst 1, 1) := by decide +kernel
theorem dX8_leg_22 : decode cX8_leg 22 = .ok (.goto 4, 3) := by decide +kernel
theorem dX8_leg_25 : decode cX8_leg 25 = .ok (.iconst 0, 1) := by decide +kernel
theorem dX8_leg_26 : decode cX8_leg 26 = .ok (.istore 4, 2) := by decide +kernel
theorem dX8_leg_28 : decode cX8_leg 28 = .ok (.aload_n 0, 1) := by decide +kernel
theorem dX8_leg_29 : decode cX8_leg 29 = .ok (.iload 4, 2) := by decide +kernel
theorem dX8_leg_31 : decode cX8_leg 31 = .ok (.ifCond .ne 7, 3) := by decide +kernel
theorem dX8_leg_34 : decode cX8_leg 34 = .ok (.iconst 1, 1) := by decide +kernel
theorem dX8_leg_35 : decode cX8_leg 35 = .ok (.goto 20, 3) := by decide +kernel
theorem dX8_leg_38 : decode cX8_leg 38 = .ok (.iload_n 3, 1) := by decide +kernel
theorem dX8_leg_39 : decode cX8_leg 39 = .ok (.i2l, 1) := by decide +kernel
theorem dX8_leg_40 : decode cX8_leg 40 = .ok (.lconst 0, 1) := by decide +kernel
theorem dX8_leg_41 : decode cX8_leg 41 = .ok (.ldc2_w 211, 3) := by decide +kernel
theorem dX8_leg_44 : decode cX8_leg 44 = .ok (.invokestatic 62, 3) := by decide +kernel
theorem dX8_leg_47 : decode cX8_leg 47 = .ok (.ifCond .eq 7, 3) := by decide +kernel
theorem dX8_leg_50 : decode cX8_leg 50 = .ok (.iconst 0, 1) := by decide +kernel
theorem dX8_leg_51 : decode cX8_leg 51 = .ok (.goto 4, 3) := by decide +kernel
theorem dX8_leg_54 : decode cX8_leg 54 = .ok (.iconst 2, 1) := by decide +kernel
theorem dX8_leg_55 : decode cX8_leg 55 = .ok (.invokevirtual 70, 3) := by decide +kernel
theorem dX8_leg_58 : decode cX8_leg 58 = .ok (.ifCond .eq 7, 3) := by decide +kernel
theorem dX8_leg_61 : decode cX8_leg 61 = .ok (.iconst 0, 1) := by decide +kernel
theorem dX8_leg_62 : decode cX8_leg 62 = .ok (.goto 10, 3) := by decide +kernel
theorem dX8_leg_65 : decode cX8_leg 65 = .ok (.aload_n 0, 1) := by decide +kernel
theorem dX8_leg_66 : decode cX8_leg 66 = .ok (.iload_n 1, 1) := by decide +kernel
theorem dX8_leg_67 : decode cX8_leg 67 = .ok (.iload_n 2, 1) := by decide +kernel
theorem dX8_leg_68 : decode cX8_leg 68 = .ok (.iload_n 3, 1) := by decide +kernel
theorem dX8_leg_69 : decode cX8_leg 69 = .ok (.invokevirtual 213, 3) := by decide +kernel
theorem dX8_leg_72 : decode cX8_leg 72 = .ok (.ireturn, 1) := by decide +kernel
theorem dX8_troubleAt_0 : decode cX8_troubleAt 0 = .ok (.aload_n 0, 1) := by decide +kernel
theorem dX8_troubleAt_1 : decode cX8_troubleAt 1 = .ok (.iload_n 1, 1) := by decide +kernel
theorem dX8_troubleAt_2 : decode cX8_troubleAt 2 = .ok (.invokevirtual 176, 3) := by decide +kernel
theorem dX8_troubleAt_5 : decode cX8_troubleAt 5 = .ok (.istore_n 3, 1) := by decide +kernel
theorem dX8_troubleAt_6 : decode cX8_troubleAt 6 = .ok (.iload_n 3, 1) := by decide +kernel
theorem dX8_troubleAt_7 : decode cX8_troubleAt 7 = .ok (.bipush 6, 2) := by decide +kernel
theorem dX8_troubleAt_9 : decode cX8_troubleAt 9 = .ok (.if_icmp .ne 12, 3) := by decide +kernel
theorem dX8_troubleAt_12 : decode cX8_troubleAt 12 = .ok (.aload_n 0, 1) := by decide +kernel
theorem dX8_troubleAt_13 : decode cX8_troubleAt 13 = .ok (.iload_n 1, 1) := by decide +kernel
theorem dX8_troubleAt_14 : decode cX8_troubleAt 14 = .ok (.iconst 0, 1) := by decide +kernel
theorem dX8_troubleAt_15 : decode cX8_troubleAt 15 = .ok (.invokevirtual 33, 3) := by decide +kernel
theorem dX8_troubleAt_18 : decode cX8_troubleAt 18 = .ok (.goto 20, 3) := by decide +kernel
theorem dX8_troubleAt_21 : decode cX8_troubleAt 21 = .ok (.iload_n 3, 1) := by decide +kernel
theorem dX8_troubleAt_22 : decode cX8_troubleAt 22 = .ok (.bipush 7, 2) := by decide +kernel
theorem dX8_troubleAt_24 : decode cX8_troubleAt 24 = .ok (.if_icmp .ne 12, 3) := by decide +kernel
theorem dX8_troubleAt_27 : decode cX8_troubleAt 27 = .ok (.aload_n 0, 1) := by decide +kernel
theorem dX8_troubleAt_28 : decode cX8_troubleAt 28 = .ok (.iload_n 1, 1) := by decide +kernel
theorem dX8_troubleAt_29 : decode cX8_troubleAt 29 = .ok (.iconst 2, 1) := by decide +kernel
theorem dX8_troubleAt_30 : decode cX8_troubleAt 30 = .ok (.invokevirtual 33, 3) := by decide +kernel
theorem dX8_troubleAt_33 : decode cX8_troubleAt 33 = .ok (.goto 5, 3) := by decide +kernel
theorem dX8_troubleAt_36 : decode cX8_troubleAt 36 = .ok (.ldc 105, 2) := by decide +kernel
theorem dX8_troubleAt_38 : decode cX8_troubleAt 38 = .ok (.istore 4, 2) := by decide +kernel
theorem dX8_troubleAt_40 : decode cX8_troubleAt 40 = .ok (.iload 4, 2) := by decide +kernel
theorem dX8_troubleAt_42 : decode cX8_troubleAt 42 = .ok (.ifCond .ge 7, 3) := by decide +kernel
theorem dX8_troubleAt_45 : decode cX8_troubleAt 45 = .ok (.iconst 0, 1) := by decide +kernel
theorem dX8_troubleAt_46 : decode cX8_troubleAt 46 = .ok (.goto 9, 3) := by decide +kernel
theorem dX8_troubleAt_49 : decode cX8_troubleAt 49 = .ok (.aload_n 0, 1) := by decide +kernel
theorem dX8_troubleAt_50 : decode cX8_troubleAt 50 = .ok (.iload 4, 2) := by decide +kernel
theorem dX8_troubleAt_52 : decode cX8_troubleAt 52 = .ok (.invokevirtual 144, 3) := by decide +kernel
theorem dX8_troubleAt_55 : decode cX8_troubleAt 55 = .ok (.istore 5, 2) := by decide +kernel
theorem dX8_troubleAt_57 : decode cX8_troubleAt 57 = .ok (.iload 5, 2) := by decide +kernel
theorem dX8_troubleAt_59 : decode cX8_troubleAt 59 = .ok (.iconst 3, 1) := by decide +kernel
theorem dX8_troubleAt_60 : decode cX8_troubleAt 60 = .ok (.if_icmp .ne 12, 3) := by decide +kernel
theorem dX8_troubleAt_63 : decode cX8_troubleAt 63 = .ok (.aload_n 0, 1) := by decide +kernel
theorem dX8_troubleAt_64 : decode cX8_troubleAt 64 = .ok (.iload 4, 2) := by decide +kernel
theorem dX8_troubleAt_66 : decode cX8_troubleAt 66 = .ok (.invokevirtual 141, 3) := by decide +kernel
theorem dX8_troubleAt_69 : decode cX8_troubleAt 69 = .ok (.goto 4, 3) := by decide +kernel
theorem dX8_troubleAt_72 : decode cX8_troubleAt 72 = .ok (.iconst 0, 1) := by decide +kernel
theorem dX8_troubleAt_73 : decode cX8_troubleAt 73 = .ok (.istore 6, 2) := by decide +kernel
theorem dX8_troubleAt_75 : decode cX8_troubleAt 75 = .ok (.iload_n 2, 1) := by decide +kernel
theorem dX8_troubleAt_76 : decode cX8_troubleAt 76 = .ok (.ifCond .ne 7, 3) := by decide +kernel
theorem dX8_troubleAt_79 : decode cX8_troubleAt 79 = .ok (.iload_n 3, 1) := by decide +kernel
theorem dX8_troubleAt_80 : decode cX8_troubleAt 80 = .ok (.goto 24, 3) := by decide +kernel
theorem dX8_troubleAt_83 : decode cX8_troubleAt 83 = .ok (.iload_n 2, 1) := by decide +kernel
theorem dX8_troubleAt_84 : decode cX8_troubleAt 84 = .ok (.iconst 1, 1) := by decide +kernel
theorem dX8_troubleAt_85 : decode cX8_troubleAt 85 = .ok (.if_icmp .ne 8, 3) := by decide +kernel
theorem dX8_troubleAt_88 : decode cX8_troubleAt 88 = .ok (.iload 5, 2) := by decide +kernel
theorem dX8_troubleAt_90 : decode cX8_troubleAt 90 = .ok (.goto 14, 3) := by decide +kernel
theorem dX8_troubleAt_93 : decode cX8_troubleAt 93 = .ok (.iload_n 2, 1) := by decide +kernel
theorem dX8_troubleAt_94 : decode cX8_troubleAt 94 = .ok (.iconst 2, 1) := by decide +kernel
theorem dX8_troubleAt_95 : decode cX8_troubleAt 95 = .ok (.if_icmp .ne 8, 3) := by decide +kernel
theorem dX8_troubleAt_98 : decode cX8_troubleAt 98 = .ok (.iload 6, 2) := by decide +kernel
theorem dX8_troubleAt_100 : decode cX8_troubleAt 100 = .ok (.goto 4, 3) := by decide +kernel
theorem dX8_troubleAt_103 : decode cX8_troubleAt 103 = .ok (.iconst 0, 1) := by decide +kernel
theorem dX8_troubleAt_104 : decode cX8_troubleAt 104 = .ok (.istore 7, 2) := by decide +kernel
theorem dX8_troubleAt_106 : decode cX8_troubleAt 106 = .ok (.iload 7, 2) := by decide +kernel
theorem dX8_troubleAt_108 : decode cX8_troubleAt 108 = .ok (.ifCond .ne 8, 3) := by decide +kernel
theorem dX8_troubleAt_111 : decode cX8_troubleAt 111 = .ok (.ldc 105, 2) := by decide +kernel
theorem dX8_troubleAt_113 : decode cX8_troubleAt 113 = .ok (.goto 5, 3) := by decide +kernel
theorem dX8_troubleAt_116 : decode cX8_troubleAt 116 = .ok (.iload 7, 2) := by decide +kernel
theorem dX8_troubleAt_118 : decode cX8_troubleAt 118 = .ok (.ireturn, 1) := by decide +kernel
theorem dX8_trouble_0 : decode cX8_trouble 0 = .ok (.aload_n 0, 1) := by decide +kernel
theorem dX8_trouble_1 : decode cX8_trouble 1 = .ok (.aload_n 0, 1) := by decide +kernel
theorem dX8_trouble_2 : decode cX8_trouble 2 = .ok (.iload_n 1, 1) := by decide +kernel
theorem dX8_trouble_3 : decode cX8_trouble 3 = .ok (.invokevirtual 155, 3) := by decide +kernel
theorem dX8_trouble_6 : decode cX8_trouble 6 = .ok (.ifCond .eq 7, 3) := by decide +kernel
theorem dX8_trouble_9 : decode cX8_trouble 9 = .ok (.iconst 0, 1) := by decide +kernel
theorem dX8_trouble_10 : decode cX8_trouble 10 = .ok (.goto 4, 3) := by decide +kernel
theorem dX8_trouble_13 : decode cX8_trouble 13 = .ok (.iconst 1, 1) := by decide +kernel
theorem dX8_trouble_14 : decode cX8_trouble 14 = .ok (.invokevirtual 70, 3) := by decide +kernel
theorem dX8_trouble_17 : decode cX8_trouble 17 = .ok (.ifCond .eq 7, 3) := by decide +kernel
theorem dX8_trouble_20 : decode cX8_trouble 20 = .ok (.iconst 0, 1) := by decide +kernel
theorem dX8_trouble_21 : decode cX8_trouble 21 = .ok (.goto 9, 3) := by decide +kernel
theorem dX8_trouble_24 : decode cX8_trouble 24 = .ok (.aload_n 0, 1) := by decide +kernel
theorem dX8_trouble_25 : decode cX8_trouble 25 = .ok (.iload_n 1, 1) := by decide +kernel
theorem dX8_trouble_26 : decode cX8_trouble 26 = .ok (.iload_n 2, 1) := by decide +kernel
theorem dX8_trouble_27 : decode cX8_trouble 27 = .ok (.invokevirtual 217, 3) := by decide +kernel
theorem dX8_trouble_30 : decode cX8_trouble 30 = .ok (.ireturn, 1) := by decide +kernel
theorem dX8_hasEnd_0 : decode cX8_hasEnd 0 = .ok (.aload_n 0, 1) := by decide +kernel
theorem dX8_hasEnd_1 : decode cX8_hasEnd 1 = .ok (.iload_n 1, 1) := by decide +kernel
theorem dX8_hasEnd_2 : decode cX8_hasEnd 2 = .ok (.invokevirtual 176, 3) := by decide +kernel
theorem dX8_hasEnd_5 : decode cX8_hasEnd 5 = .ok (.iconst 5, 1) := by decide +kernel
theorem dX8_hasEnd_6 : decode cX8_hasEnd 6 = .ok (.if_icmp .eq 17, 3) := by decide +kernel
theorem dX8_hasEnd_9 : decode cX8_hasEnd 9 = .ok (.aload_n 0, 1) := by decide +kernel
theorem dX8_hasEnd_10 : decode cX8_hasEnd 10 = .ok (.iload_n 1, 1) := by decide +kernel
theorem dX8_hasEnd_11 : decode cX8_hasEnd 11 = .ok (.invokevirtual 176, 3) := by decide +kernel
theorem dX8_hasEnd_14 : decode cX8_hasEnd 14 = .ok (.bipush 6, 2) := by decide +kernel
theorem dX8_hasEnd_16 : decode cX8_hasEnd 16 = .ok (.if_icmp .eq 7, 3) := by decide +kernel
theorem dX8_hasEnd_19 : decode cX8_hasEnd 19 = .ok (.iconst 1, 1) := by decide +kernel
theorem dX8_hasEnd_20 : decode cX8_hasEnd 20 = .ok (.goto 4, 3) := by decide +kernel
theorem dX8_hasEnd_23 : decode cX8_hasEnd 23 = .ok (.iconst 0, 1) := by decide +kernel
theorem dX8_hasEnd_24 : decode cX8_hasEnd 24 = .ok (.ireturn, 1) := by decide +kernel
theorem dX8_between_0 : decode cX8_between 0 = .ok (.aload_n 0, 1) := by decide +kernel
theorem dX8_between_1 : decode cX8_between 1 = .ok (.iload_n 1, 1) := by decide +kernel
theorem dX8_between_2 : decode cX8_between 2 = .ok (.invokevirtual 220, 3) := by decide +kernel
theorem dX8_between_5 : decode cX8_between 5 = .ok (.ifCond .eq 11, 3) := by decide +kernel
theorem dX8_between_8 : decode cX8_between 8 = .ok (.aload_n 0, 1) := by decide +kernel
theorem dX8_between_9 : decode cX8_between 9 = .ok (.iload_n 2, 1) := by decide +kernel
theorem dX8_between_10 : decode cX8_between 10 = .ok (.invokevirtual 220, 3) := by decide +kernel
theorem dX8_between_13 : decode cX8_between 13 = .ok (.ifCond .ne 6, 3) := by decide +kernel
theorem dX8_between_16 : decode cX8_between 16 = .ok (.ldc 105, 2) := by decide +kernel
theorem dX8_between_18 : decode cX8_between 18 = .ok (.ireturn, 1) := by decide +kernel
theorem dX8_between_19 : decode cX8_between 19 = .ok (.aload_n 0, 1) := by decide +kernel
theorem dX8_between_20 : decode cX8_between 20 = .ok (.iload_n 1, 1) := by decide +kernel
theorem dX8_between_21 : decode cX8_between 21 = .ok (.aload_n 0, 1) := by decide +kernel
theorem dX8_between_22 : decode cX8_between 22 = .ok (.iload_n 1, 1) := by decide +kernel
theorem dX8_between_23 : decode cX8_between 23 = .ok (.invokevirtual 77, 3) := by decide +kernel
theorem dX8_between_26 : decode cX8_between 26 = .ok (.iconst 1, 1) := by decide +kernel
theorem dX8_between_27 : decode cX8_between 27 = .ok (.isub, 1) := by decide +kernel
theorem dX8_between_28 : decode cX8_between 28 = .ok (.iconst 1, 1) := by decide +kernel
theorem dX8_between_29 : decode cX8_between 29 = .ok (.invokevirtual 191, 3) := by decide +kernel
theorem dX8_between_32 : decode cX8_between 32 = .ok (.aload_n 0, 1) := by decide +kernel
theorem dX8_between_33 : decode cX8_between 33 = .ok (.iload_n 2, 1) := by decide +kernel
theorem dX8_between_34 : decode cX8_between 34 = .ok (.aload_n 0, 1) := by decide +kernel
theorem dX8_between_35 : decode cX8_between 35 = .ok (.iload_n 2, 1) := by decide +kernel
theorem dX8_between_36 : decode cX8_between 36 = .ok (.invokevirtual 77, 3) := by decide +kernel
theorem dX8_between_39 : decode cX8_between 39 = .ok (.iconst 1, 1) := by decide +kernel
theorem dX8_between_40 : decode cX8_between 40 = .ok (.isub, 1) := by decide +kernel
theorem dX8_between_41 : decode cX8_between 41 = .ok (.iconst 1, 1) := by decide +kernel
theorem dX8_between_42 : decode cX8_between 42 = .ok (.invokevirtual 191, 3) := by decide +kernel
theorem dX8_between_45 : decode cX8_between 45 = .ok (.isub, 1) := by decide +kernel
theorem dX8_between_46 : decode cX8_between 46 = .ok (.istore_n 3, 1) := by decide +kernel
theorem dX8_between_47 : decode cX8_between 47 = .ok (.iload_n 3, 1) := by decide +kernel
theorem dX8_between_48 : decode cX8_between 48 = .ok (.i2l, 1) := by decide +kernel
theorem dX8_between_49 : decode cX8_between 49 = .ok (.aload_n 0, 1) := by decide +kernel
theorem dX8_between_50 : decode cX8_between 50 = .ok (.iload_n 1, 1) := by decide +kernel
theorem dX8_between_51 : decode cX8_between 51 = .ok (.aload_n 0, 1) := by decide +kernel
theorem dX8_between_52 : decode cX8_between 52 = .ok (.iload_n 1, 1) := by decide +kernel
theorem dX8_between_53 : decode cX8_between 53 = .ok (.invokevirtual 77, 3) := by decide +kernel
theorem dX8_between_56 : decode cX8_between 56 = .ok (.iconst 1, 1) := by decide +kernel
theorem dX8_between_57 : decode cX8_between 57 = .ok (.isub, 1) := by decide +kernel
theorem dX8_between_58 : decode cX8_between 58 = .ok (.iconst 0, 1) := by decide +kernel
theorem dX8_between_59 : decode cX8_between 59 = .ok (.invokevirtual 191, 3) := by decide +kernel
theorem dX8_between_62 : decode cX8_between 62 = .ok (.aload_n 0, 1) := by decide +kernel
theorem dX8_between_63 : decode cX8_between 63 = .ok (.iload_n 2, 1) := by decide +kernel
theorem dX8_between_64 : decode cX8_between 64 = .ok (.aload_n 0, 1) := by decide +kernel
theorem dX8_between_65 : decode cX8_between 65 = .ok (.iload_n 2, 1) := by decide +kernel
theorem dX8_between_66 : decode cX8_between 66 = .ok (.invokevirtual 77, 3) := by decide +kernel
theorem dX8_between_69 : decode cX8_between 69 = .ok (.iconst 1, 1) := by decide +kernel
theorem dX8_between_70 : decode cX8_between 70 = .ok (.isub, 1) := by decide +kernel
theorem dX8_between_71 : decode cX8_between 71 = .ok (.iconst 0, 1) := by decide +kernel
theorem dX8_between_72 : decode cX8_between 72 = .ok (.invokevirtual 191, 3) := by decide +kernel
theorem dX8_between_75 : decode cX8_between 75 = .ok (.isub, 1) := by decide +kernel
theorem dX8_between_76 : decode cX8_between 76 = .ok (.i2l, 1) := by decide +kernel
theorem dX8_between_77 : decode cX8_between 77 = .ok (.invokestatic 202, 3) := by decide +kernel
theorem dX8_between_80 : decode cX8_between 80 = .ok (.ireturn, 1) := by decide +kernel
theorem dX8_apart_0 : decode cX8_apart 0 = .ok (.aload_n 0, 1) := by decide +kernel
theorem dX8_apart_1 : decode cX8_apart 1 = .ok (.aload_n 0, 1) := by decide +kernel
theorem dX8_apart_2 : decode cX8_apart 2 = .ok (.iload_n 1, 1) := by decide +kernel
theorem dX8_apart_3 : decode cX8_apart 3 = .ok (.invokevirtual 155, 3) := by decide +kernel
theorem dX8_apart_6 : decode cX8_apart 6 = .ok (.ifCond .eq 15, 3) := by decide +kernel
theorem dX8_apart_9 : decode cX8_apart 9 = .ok (.aload_n 0, 1) := by decide +kernel
theorem dX8_apart_10 : decode cX8_apart 10 = .ok (.iload_n 2, 1) := by decide +kernel
theorem dX8_apart_11 : decode cX8_apart 11 = .ok (.invokevirtual 155, 3) := by decide +kernel
theorem dX8_apart_14 : decode cX8_apart 14 = .ok (.ifCond .eq 7, 3) := by decide +kernel
theorem dX8_apart_17 : decode cX8_apart 17 = .ok (.iconst 0, 1) := by decide +kernel
theorem dX8_apart_18 : decode cX8_apart 18 = .ok (.goto 4, 3) := by decide +kernel
theorem dX8_apart_21 : decode cX8_apart 21 = .ok (.iconst 1, 1) := by decide +kernel
theorem dX8_apart_22 : decode cX8_apart 22 = .ok (.invokevirtual 70, 3) := by decide +kernel
theorem dX8_apart_25 : decode cX8_apart 25 = .ok (.ifCond .eq 7, 3) := by decide +kernel
theorem dX8_apart_28 : decode cX8_apart 28 = .ok (.iconst 0, 1) := by decide +kernel
theorem dX8_apart_29 : decode cX8_apart 29 = .ok (.goto 9, 3) := by decide +kernel
theorem dX8_apart_32 : decode cX8_apart 32 = .ok (.aload_n 0, 1) := by decide +kernel
theorem dX8_apart_33 : decode cX8_apart 33 = .ok (.iload_n 1, 1) := by decide +kernel
theorem dX8_apart_34 : decode cX8_apart 34 = .ok (.iload_n 2, 1) := by decide +kernel
theorem dX8_apart_35 : decode cX8_apart 35 = .ok (.invokevirtual 223, 3) := by decide +kernel
theorem dX8_apart_38 : decode cX8_apart 38 = .ok (.ireturn, 1) := by decide +kernel
theorem dX8_meets_0 : decode cX8_meets 0 = .ok (.aload_n 0, 1) := by decide +kernel
theorem dX8_meets_1 : decode cX8_meets 1 = .ok (.aload_n 0, 1) := by decide +kernel
theorem dX8_meets_2 : decode cX8_meets 2 = .ok (.iload_n 1, 1) := by decide +kernel
theorem dX8_meets_3 : decode cX8_meets 3 = .ok (.invokevirtual 155, 3) := by decide +kernel
theorem dX8_meets_6 : decode cX8_meets 6 = .ok (.ifCond .eq 15, 3) := by decide +kernel
theorem dX8_meets_9 : decode cX8_meets 9 = .ok (.aload_n 0, 1) := by decide +kernel
theorem dX8_meets_10 : decode cX8_meets 10 = .ok (.iload_n 2, 1) := by decide +kernel
theorem dX8_meets_11 : decode cX8_meets 11 = .ok (.invokevirtual 155, 3) := by decide +kernel
theorem dX8_meets_14 : decode cX8_meets 14 = .ok (.ifCond .eq 7, 3) := by decide +kernel
theorem dX8_meets_17 : decode cX8_meets 17 = .ok (.iconst 0, 1) := by decide +kernel
theorem dX8_meets_18 : decode cX8_meets 18 = .ok (.goto 4, 3) := by decide +kernel
theorem dX8_meets_21 : decode cX8_meets 21 = .ok (.iconst 1, 1) := by decide +kernel
theorem dX8_meets_22 : decode cX8_meets 22 = .ok (.invokevirtual 70, 3) := by decide +kernel
theorem dX8_meets_25 : decode cX8_meets 25 = .ok (.ifCond .eq 5, 3) := by decide +kernel
theorem dX8_meets_28 : decode cX8_meets 28 = .ok (.iconst 0, 1) := by decide +kernel
theorem dX8_meets_29 : decode cX8_meets 29 = .ok (.ireturn, 1) := by decide +kernel
theorem dX8_meets_30 : decode cX8_meets 30 = .ok (.aload_n 0, 1) := by decide +kernel
theorem dX8_meets_31 : decode cX8_meets 31 = .ok (.iload_n 1, 1) := by decide +kernel
theorem dX8_meets_32 : decode cX8_meets 32 = .ok (.iload_n 2, 1) := by decide +kernel
theorem dX8_meets_33 : decode cX8_meets 33 = .ok (.invokevirtual 223, 3) := by decide +kernel
theorem dX8_meets_36 : decode cX8_meets 36 = .ok (.ldc 105, 2) := by decide +kernel
theorem dX8_meets_38 : decode cX8_meets 38 = .ok (.if_icmp .eq 22, 3) := by decide +kernel
theorem dX8_meets_41 : decode cX8_meets 41 = .ok (.aload_n 0, 1) := by decide +kernel
theorem dX8_meets_42 : decode cX8_meets 42 = .ok (.iload_n 1, 1) := by decide +kernel
theorem dX8_meets_43 : decode cX8_meets 43 = .ok (.iload_n 2, 1) := by decide +kernel
theorem dX8_meets_44 : decode cX8_meets 44 = .ok (.invokevirtual 223, 3) := by decide +kernel
theorem dX8_meets_47 : decode cX8_meets 47 = .ok (.aload_n 0, 1) := by decide +kernel
theorem dX8_meets_48 : decode cX8_meets 48 = .ok (.getfield 7, 3) := by decide +kernel
theorem dX8_meets_51 : decode cX8_meets 51 = .ok (.iconst 2, 1) := by decide +kernel
theorem dX8_meets_52 : decode cX8_meets 52 = .ok (.iaload, 1) := by decide +kernel
theorem dX8_meets_53 : decode cX8_meets 53 = .ok (.if_icmp .gt 7, 3) := by decide +kernel
theorem dX8_meets_56 : decode cX8_meets 56 = .ok (.iconst 1, 1) := by decide +kernel
theorem dX8_meets_57 : decode cX8_meets 57 = .ok (.goto 4, 3) := by decide +kernel
theorem dX8_meets_60 : decode cX8_meets 60 = .ok (.iconst 0, 1) := by decide +kernel
theorem dX8_meets_61 : decode cX8_meets 61 = .ok (.ireturn, 1) := by decide +kernel
theorem dX8_sine_0 : decode cX8_sine 0 = .ok (.aload_n 0, 1) := by decide +kernel
theorem dX8_sine_1 : decode cX8_sine 1 = .ok (.iload_n 1, 1) := by decide +kernel
theorem dX8_sine_2 : decode cX8_sine 2 = .ok (.i2l, 1) := by decide +kernel
theorem dX8_sine_3 : decode cX8_sine 3 = .ok (.ldc2_w 226, 3) := by decide +kernel
theorem dX8_sine_6 : decode cX8_sine 6 = .ok (.ldc2_w 228, 3) := by decide +kernel
theorem dX8_sine_9 : decode cX8_sine 9 = .ok (.invokestatic 62, 3) := by decide +kernel
theorem dX8_sine_12 : decode cX8_sine 12 = .ok (.ifCond .eq 7, 3) := by decide +kernel
theorem dX8_sine_15 : decode cX8_sine 15 = .ok (.iconst 0, 1) := by decide +kernel
theorem dX8_sine_16 : decode cX8_sine 16 = .ok (.goto 4, 3) := by decide +kernel
theorem dX8_sine_19 : decode cX8_sine 19 = .ok (.iconst 1, 1) := by decide +kernel
theorem dX8_sine_20 : decode cX8_sine 20 = .ok (.invokevirtual 70, 3) := by decide +kernel
theorem dX8_sine_23 : decode cX8_sine 23 = .ok (.ifCond .eq 7, 3) := by decide +kernel
theorem dX8_sine_26 : decode cX8_sine 26 = .ok (.iconst 0, 1) := by decide +kernel
theorem dX8_sine_27 : decode cX8_sine 27 = .ok (.goto 8, 3) := by decide +kernel
theorem dX8_sine_30 : decode cX8_sine 30 = .ok (.iload_n 1, 1) := by decide +kernel
theorem dX8_sine_31 : decode cX8_sine 31 = .ok (.i2l, 1) := by decide +kernel
theorem dX8_sine_32 : decode cX8_sine 32 = .ok (.invokestatic 53, 3) := by decide +kernel
theorem dX8_sine_35 : decode cX8_sine 35 = .ok (.ireturn, 1) := by decide +kernel
theorem dX8_suspectOf_0 : decode cX8_suspectOf 0 = .ok (.aload_n 0, 1) := by decide +kernel
theorem dX8_suspectOf_1 : decode cX8_suspectOf 1 = .ok (.iload_n 1, 1) := by decide +kernel
theorem dX8_suspectOf_2 : decode cX8_suspectOf 2 = .ok (.invokevirtual 195, 3) := by decide +kernel
theorem dX8_suspectOf_5 : decode cX8_suspectOf 5 = .ok (.ifCond .ne 6, 3) := by decide +kernel
theorem dX8_suspectOf_8 : decode cX8_suspectOf 8 = .ok (.ldc 105, 2) := by decide +kernel
theorem dX8_suspectOf_10 : decode cX8_suspectOf 10 = .ok (.ireturn, 1) := by decide +kernel
theorem dX8_suspectOf_11 : decode cX8_suspectOf 11 = .ok (.aload_n 0, 1) := by decide +kernel
theorem dX8_suspectOf_12 : decode cX8_suspectOf 12 = .ok (.iload_n 1, 1) := by decide +kernel
theorem dX8_suspectOf_13 : decode cX8_suspectOf 13 = .ok (.iconst 1, 1) := by decide +kernel
theorem dX8_suspectOf_14 : decode cX8_suspectOf 14 = .ok (.invokevirtual 198, 3) := by decide +kernel
theorem dX8_suspectOf_17 : decode cX8_suspectOf 17 = .ok (.i2l, 1) := by decide +kernel
theorem dX8_suspectOf_18 : decode cX8_suspectOf 18 = .ok (.lstore_n 2, 1) := by decide +kernel
theorem dX8_suspectOf_19 : decode cX8_suspectOf 19 = .ok (.aload_n 0, 1) := by decide +kernel
theorem dX8_suspectOf_20 : decode cX8_suspectOf 20 = .ok (.iload_n 1, 1) := by decide +kernel
theorem dX8_suspectOf_21 : decode cX8_suspectOf 21 = .ok (.iconst 0, 1) := by decide +kernel
theorem dX8_suspectOf_22 : decode cX8_suspectOf 22 = .ok (.invokevirtual 198, 3) := by decide +kernel
theorem dX8_suspectOf_25 : decode cX8_suspectOf 25 = .ok (.i2l, 1) := by decide +kernel
theorem dX8_suspectOf_26 : decode cX8_suspectOf 26 = .ok (.lstore 4, 2) := by decide +kernel
theorem dX8_suspectOf_28 : decode cX8_suspectOf 28 = .ok (.iconst 0, 1) := by decide +kernel
theorem dX8_suspectOf_29 : decode cX8_suspectOf 29 = .ok (.istore 6, 2) := by decide +kernel
theorem dX8_suspectOf_31 : decode cX8_suspectOf 31 = .ok (.ldc2_w 230, 3) := by decide +kernel
theorem dX8_suspectOf_34 : decode cX8_suspectOf 34 = .ok (.lstore 7, 2) := by decide +kernel
theorem dX8_suspectOf_36 : decode cX8_suspectOf 36 = .ok (.iconst 0, 1) := by decide +kernel
theorem dX8_suspectOf_37 : decode cX8_suspectOf 37 = .ok (.istore 9, 2) := by decide +kernel
theorem dX8_suspectOf_39 : decode cX8_suspectOf 39 = .ok (.iload 9, 2) := by decide +kernel
theorem dX8_suspectOf_41 : decode cX8_suspectOf 41 = .ok (.aload_n 0, 1) := by decide +kernel
theorem dX8_suspectOf_42 : decode cX8_suspectOf 42 = .ok (.iload_n 1, 1) := by decide +kernel
theorem dX8_suspectOf_43 : decode cX8_suspectOf 43 = .ok (.invokevirtual 77, 3) := by decide +kernel
theorem dX8_suspectOf_46 : decode cX8_suspectOf 46 = .ok (.if_icmp .ge 106, 3) := by decide +kernel
theorem dX8_suspectOf_49 : decode cX8_suspectOf 49 = .ok (.lload_n 2, 1) := by decide +kernel
theorem dX8_suspectOf_50 : decode cX8_suspectOf 50 = .ok (.aload_n 0, 1) := by decide +kernel
theorem dX8_suspectOf_51 : decode cX8_suspectOf 51 = .ok (.iload_n 1, 1) := by decide +kernel
theorem dX8_suspectOf_52 : decode cX8_suspectOf 52 = .ok (.iload 9, 2) := by decide +kernel
theorem dX8_suspectOf_54 : decode cX8_suspectOf 54 = .ok (.invokevirtual 164, 3) := by decide +kernel
theorem dX8_suspectOf_57 : decode cX8_suspectOf 57 = .ok (.i2l, 1) := by decide +kernel
theorem dX8_suspectOf_58 : decode cX8_suspectOf 58 = .ok (.invokestatic 186, 3) := by decide +kernel
theorem dX8_suspectOf_61 : decode cX8_suspectOf 61 = .ok (.i2l, 1) := by decide +kernel
theorem dX8_suspectOf_62 : decode cX8_suspectOf 62 = .ok (.lmul, 1) := by decide +kernel
theorem dX8_suspectOf_63 : decode cX8_suspectOf 63 = .ok (.lload 4, 2) := by decide +kernel
theorem dX8_suspectOf_65 : decode cX8_suspectOf 65 = .ok (.aload_n 0, 1) := by decide +kernel
theorem dX8_suspectOf_66 : decode cX8_suspectOf 66 = .ok (.iload_n 1, 1) := by decide +kernel
theorem dX8_suspectOf_67 : decode cX8_suspectOf 67 = .ok (.iload 9, 2) := by decide +kernel
theorem dX8_suspectOf_69 : decode cX8_suspectOf 69 = .ok (.invokevirtual 164, 3) := by decide +kernel
theorem dX8_suspectOf_72 : decode cX8_suspectOf 72 = .ok (.i2l, 1) := by decide +kernel
theorem dX8_suspectOf_73 : decode cX8_suspectOf 73 = .ok (.invokestatic 53, 3) := by decide +kernel
theorem dX8_suspectOf_76 : decode cX8_suspectOf 76 = .ok (.i2l, 1) := by decide +kernel
theorem dX8_suspectOf_77 : decode cX8_suspectOf 77 = .ok (.lmul, 1) := by decide +kernel
theorem dX8_suspectOf_78 : decode cX8_suspectOf 78 = .ok (.lsub, 1) := by decide +kernel
theorem dX8_suspectOf_79 : decode cX8_suspectOf 79 = .ok (.lstore 10, 2) := by decide +kernel
theorem dX8_suspectOf_81 : decode cX8_suspectOf 81 = .ok (.lload 10, 2) := by decide +kernel
theorem dX8_suspectOf_83 : decode cX8_suspectOf 83 = .ok (.lconst 0, 1) := by decide +kernel
theorem dX8_suspectOf_84 : decode cX8_suspectOf 84 = .ok (.lcmp, 1) := by decide +kernel
theorem dX8_suspectOf_85 : decode cX8_suspectOf 85 = .ok (.ifCond .ge 9, 3) := by decide +kernel
theorem dX8_suspectOf_88 : decode cX8_suspectOf 88 = .ok (.lload 10, 2) := by decide +kernel
theorem dX8_suspectOf_90 : decode cX8_suspectOf 90 = .ok (.lneg, 1) := by decide +kernel
theorem dX8_suspectOf_91 : decode cX8_suspectOf 91 = .ok (.goto 5, 3) := by decide +kernel
theorem dX8_suspectOf_94 : decode cX8_suspectOf 94 = .ok (.lload 10, 2) := by decide +kernel
theorem dX8_suspectOf_96 : decode cX8_suspectOf 96 = .ok (.lstore 10, 2) := by decide +kernel
theorem dX8_suspectOf_98 : decode cX8_suspectOf 98 = .ok (.lload 7, 2) := by decide +kernel
theorem dX8_suspectOf_100 : decode cX8_suspectOf 100 = .ok (.lconst 0, 1) := by decide +kernel
theorem dX8_suspectOf_101 : decode cX8_suspectOf 101 = .ok (.lcmp, 1) := by decide +kernel
theorem dX8_suspectOf_102 : decode cX8_suspectOf 102 = .ok (.ifCond .lt 11, 3) := by decide +kernel
theorem dX8_suspectOf_105 : decode cX8_suspectOf 105 = .ok (.lload 10, 2) := by decide +kernel
theorem dX8_suspectOf_107 : decode cX8_suspectOf 107 = .ok (.lload 7, 2) := by decide +kernel
theorem dX8_suspectOf_109 : decode cX8_suspectOf 109 = .ok (.lcmp, 1) := by decide +kernel
theorem dX8_suspectOf_110 : decode cX8_suspectOf 110 = .ok (.ifCond .ge 8, 3) := by decide +kernel
theorem dX8_suspectOf_113 : decode cX8_suspectOf 113 = .ok (.iload 9, 2) := by decide +kernel
theorem dX8_suspectOf_115 : decode cX8_suspectOf 115 = .ok (.goto 5, 3) := by decide +kernel
theorem dX8_suspectOf_118 : decode cX8_suspectOf 118 = .ok (.iload 6, 2) := by decide +kernel
theorem dX8_suspectOf_120 : decode cX8_suspectOf 120 = .ok (.istore 6, 2) := by decide +kernel
theorem dX8_suspectOf_122 : decode cX8_suspectOf 122 = .ok (.lload 7, 2) := by decide +kernel
theorem dX8_suspectOf_124 : decode cX8_suspectOf 124 = .ok (.lconst 0, 1) := by decide +kernel
theorem dX8_suspectOf_125 : decode cX8_suspectOf 125 = .ok (.lcmp, 1) := by decide +kernel
theorem dX8_suspectOf_126 : decode cX8_suspectOf 126 = .ok (.ifCond .lt 11, 3) := by decide +kernel
theorem dX8_suspectOf_129 : decode cX8_suspectOf 129 = .ok (.lload 10, 2) := by decide +kernel
theorem dX8_suspectOf_131 : decode cX8_suspectOf 131 = .ok (.lload 7, 2) := by decide +kernel
theorem dX8_suspectOf_133 : decode cX8_suspectOf 133 = .ok (.lcmp, 1) := by decide +kernel
theorem dX8_suspectOf_134 : decode cX8_suspectOf 134 = .ok (.ifCond .ge 8, 3) := by decide +kernel
theorem dX8_suspectOf_137 : decode cX8_suspectOf 137 = .ok (.lload 10, 2) := by decide +kernel
theorem dX8_suspectOf_139 : decode cX8_suspectOf 139 = .ok (.goto 5, 3) := by decide +kernel
theorem dX8_suspectOf_142 : decode cX8_suspectOf 142 = .ok (.lload 7, 2) := by decide +kernel
theorem dX8_suspectOf_144 : decode cX8_suspectOf 144 = .ok (.lstore 7, 2) := by decide +kernel
theorem dX8_suspectOf_146 : decode cX8_suspectOf 146 = .ok (.iinc 9 1, 3) := by decide +kernel
theorem dX8_suspectOf_149 : decode cX8_suspectOf 149 = .ok (.goto (-110), 3) := by decide +kernel
theorem dX8_suspectOf_152 : decode cX8_suspectOf 152 = .ok (.iload 6, 2) := by decide +kernel
theorem dX8_suspectOf_154 : decode cX8_suspectOf 154 = .ok (.ireturn, 1) := by decide +kernel
theorem dX8_suspect_0 : decode cX8_suspect 0 = .ok (.aload_n 0, 1) := by decide +kernel
theorem dX8_suspect_1 : decode cX8_suspect 1 = .ok (.aload_n 0, 1) := by decide +kernel
theorem dX8_suspect_2 : decode cX8_suspect 2 = .ok (.iload_n 1, 1) := by decide +kernel
theorem dX8_suspect_3 : decode cX8_suspect 3 = .ok (.invokevirtual 155, 3) := by decide +kernel
theorem dX8_suspect_6 : decode cX8_suspect 6 = .ok (.ifCond .eq 7, 3) := by decide +kernel
theorem dX8_suspect_9 : decode cX8_suspect 9 = .ok (.iconst 0, 1) := by decide +kernel
theorem dX8_suspect_10 : decode cX8_suspect 10 = .ok (.goto 4, 3) := by decide +kernel
theorem dX8_suspect_13 : decode cX8_suspect 13 = .ok (.iconst 1, 1) := by decide +kernel
theorem dX8_suspect_14 : decode cX8_suspect 14 = .ok (.invokevirtual 70, 3) := by decide +kernel
theorem dX8_suspect_17 : decode cX8_suspect 17 = .ok (.ifCond .eq 7, 3) := by decide +kernel
theorem dX8_suspect_20 : decode cX8_suspect 20 = .ok (.iconst 0, 1) := by decide +kernel
theorem dX8_suspect_21 : decode cX8_suspect 21 = .ok (.goto 8, 3) := by decide +kernel
theorem dX8_suspect_24 : decode cX8_suspect 24 = .ok (.aload_n 0, 1) := by decide +kernel
theorem dX8_suspect_25 : decode cX8_suspect 25 = .ok (.iload_n 1, 1) := by decide +kernel
theorem dX8_suspect_26 : decode cX8_suspect 26 = .ok (.invokevirtual 232, 3) := by decide +kernel
theorem dX8_suspect_29 : decode cX8_suspect 29 = .ok (.ireturn, 1) := by decide +kernel
theorem dX8_angleFor_0 : decode cX8_angleFor 0 = .ok (.aload_n 0, 1) := by decide +kernel
theorem dX8_angleFor_1 : decode cX8_angleFor 1 = .ok (.aload_n 0, 1) := by decide +kernel
theorem dX8_angleFor_2 : decode cX8_angleFor 2 = .ok (.iload_n 1, 1) := by decide +kernel
theorem dX8_angleFor_3 : decode cX8_angleFor 3 = .ok (.invokevirtual 155, 3) := by decide +kernel
theorem dX8_angleFor_6 : decode cX8_angleFor 6 = .ok (.ifCond .eq 11, 3) := by decide +kernel
theorem dX8_angleFor_9 : decode cX8_angleFor 9 = .ok (.aload_n 0, 1) := by decide +kernel
theorem dX8_angleFor_10 : decode cX8_angleFor 10 = .ok (.iload_n 2, 1) := by decide +kernel
theorem dX8_angleFor_11 : decode cX8_angleFor 11 = .ok (.invokevirtual 135, 3) := by decide +kernel
theorem dX8_angleFor_14 : decode cX8_angleFor 14 = .ok (.ifCond .ne 7, 3) := by decide +kernel
theorem dX8_angleFor_17 : decode cX8_angleFor 17 = .ok (.iconst 1, 1) := by decide +kernel
theorem dX8_angleFor_18 : decode cX8_angleFor 18 = .ok (.goto 20, 3) := by decide +kernel
theorem dX8_angleFor_21 : decode cX8_angleFor 21 = .ok (.iload_n 3, 1) := by decide +kernel
theorem dX8_angleFor_22 : decode cX8_angleFor 22 = .ok (.i2l, 1) := by decide +kernel
theorem dX8_angleFor_23 : decode cX8_angleFor 23 = .ok (.lconst 0, 1) := by decide +kernel
theorem dX8_angleFor_24 : decode cX8_angleFor 24 = .ok (.ldc2_w 121, 3) := by decide +kernel
theorem dX8_angleFor_27 : decode cX8_angleFor 27 = .ok (.invokestatic 62, 3) := by decide +kernel
theorem dX8_angleFor_30 : decode cX8_angleFor 30 = .ok (.ifCond .eq 7, 3) := by decide +kernel
theorem dX8_angleFor_33 : decode cX8_angleFor 33 = .ok (.iconst 0, 1) := by decide +kernel
theorem dX8_angleFor_34 : decode cX8_angleFor 34 = .ok (.goto 4, 3) := by decide +kernel
theorem dX8_angleFor_37 : decode cX8_angleFor 37 = .ok (.iconst 2, 1) := by decide +kernel
theorem dX8_angleFor_38 : decode cX8_angleFor 38 = .ok (.invokevirtual 70, 3) := by decide +kernel
theorem dX8_angleFor_41 : decode cX8_angleFor 41 = .ok (.ifCond .eq 5, 3) := by decide +kernel
theorem dX8_angleFor_44 : decode cX8_angleFor 44 = .ok (.iconst 0, 1) := by decide +kernel
theorem dX8_angleFor_45 : decode cX8_angleFor 45 = .ok (.ireturn, 1) := by decide +kernel
theorem dX8_angleFor_46 : decode cX8_angleFor 46 = .ok (.bipush 78, 2) := by decide +kernel
theorem dX8_angleFor_48 : decode cX8_angleFor 48 = .ok (.bipush 6, 2) := by decide +kernel
theorem dX8_angleFor_50 : decode cX8_angleFor 50 = .ok (.iload_n 2, 1) := by decide +kernel
theorem dX8_angleFor_51 : decode cX8_angleFor 51 = .ok (.imul, 1) := by decide +kernel
theorem dX8_angleFor_52 : decode cX8_angleFor 52 = .ok (.iadd, 1) := by decide +kernel
theorem dX8_angleFor_53 : decode cX8_angleFor 53 = .ok (.iconst 5, 1) := by decide +kernel
theorem dX8_angleFor_54 : decode cX8_angleFor 54 = .ok (.iadd, 1) := by decide +kernel
theorem dX8_angleFor_55 : decode cX8_angleFor 55 = .ok (.istore 4, 2) := by decide +kernel
theorem dX8_angleFor_57 : decode cX8_angleFor 57 = .ok (.aload_n 0, 1) := by decide +kernel
theorem dX8_angleFor_58 : decode cX8_angleFor 58 = .ok (.getfield 7, 3) := by decide +kernel
theorem dX8_angleFor_61 : decode cX8_angleFor 61 = .ok (.iload 4, 2) := by decide +kernel
theorem dX8_angleFor_63 : decode cX8_angleFor 63 = .ok (.iaload, 1) := by decide +kernel
theorem dX8_angleFor_64 : decode cX8_angleFor 64 = .ok (.istore 5, 2) := by decide +kernel
theorem dX8_angleFor_66 : decode cX8_angleFor 66 = .ok (.ldc 105, 2) := by decide +kernel
theorem dX8_angleFor_68 : decode cX8_angleFor 68 = .ok (.istore 6, 2) := by decide +kernel
theorem dX8_angleFor_70 : decode cX8_angleFor 70 = .ok (.sipush (-3600), 3) := by decide +kernel
theorem dX8_angleFor_73 : decode cX8_angleFor 73 = .ok (.istore 7, 2) := by decide +kernel
theorem dX8_angleFor_75 : decode cX8_angleFor 75 = .ok (.iload 7, 2) := by decide +kernel
theorem dX8_angleFor_77 : decode cX8_angleFor 77 = .ok (.sipush 3600, 3) := by decide +kernel
theorem dX8_angleFor_80 : decode cX8_angleFor 80 = .ok (.if_icmp .gt 54, 3) := by decide +kernel
theorem dX8_angleFor_83 : decode cX8_angleFor 83 = .ok (.iload 6, 2) := by decide +kernel
theorem dX8_angleFor_85 : decode cX8_angleFor 85 = .ok (.ldc 105, 2) := by decide +kernel
theorem dX8_angleFor_87 : decode cX8_angleFor 87 = .ok (.if_icmp .ne 47, 3) := by decide +kernel
theorem dX8_angleFor_90 : decode cX8_angleFor 90 = .ok (.aload_n 0, 1) := by decide +kernel
theorem dX8_angleFor_91 : decode cX8_angleFor 91 = .ok (.iload_n 1, 1) := by decide +kernel
theorem dX8_angleFor_92 : decode cX8_angleFor 92 = .ok (.invokevirtual 195, 3) := by decide +kernel
theorem dX8_angleFor_95 : decode cX8_angleFor 95 = .ok (.ifCond .eq 39, 3) := by decide +kernel
theorem dX8_angleFor_98 : decode cX8_angleFor 98 = .ok (.aload_n 0, 1) := by decide +kernel
theorem dX8_angleFor_99 : decode cX8_angleFor 99 = .ok (.getfield 7, 3) := by decide +kernel
theorem dX8_angleFor_102 : decode cX8_angleFor 102 = .ok (.iload 4, 2) := by decide +kernel
theorem dX8_angleFor_104 : decode cX8_angleFor 104 = .ok (.iload 7, 2) := by decide +kernel
theorem dX8_angleFor_106 : decode cX8_angleFor 106 = .ok (.iastore, 1) := by decide +kernel
theorem dX8_angleFor_107 : decode cX8_angleFor 107 = .ok (.aload_n 0, 1) := by decide +kernel
theorem dX8_angleFor_108 : decode cX8_angleFor 108 = .ok (.iload_n 1, 1) := by decide +kernel
theorem dX8_angleFor_109 : decode cX8_angleFor 109 = .ok (.invokevirtual 170, 3) := by decide +kernel
theorem dX8_angleFor_112 : decode cX8_angleFor 112 = .ok (.invokestatic 99, 3) := by decide +kernel
theorem dX8_angleFor_115 : decode cX8_angleFor 115 = .ok (.iload_n 3, 1) := by decide +kernel
theorem dX8_angleFor_116 : decode cX8_angleFor 116 = .ok (.if_icmp .gt 8, 3) := by decide +kernel
theorem dX8_angleFor_119 : decode cX8_angleFor 119 = .ok (.iload 7, 2) := by decide +kernel
theorem dX8_angleFor_121 : decode cX8_angleFor 121 = .ok (.goto 5, 3) := by decide +kernel
theorem dX8_angleFor_124 : decode cX8_angleFor 124 = .ok (.iload 6, 2) := by decide +kernel
theorem dX8_angleFor_126 : decode cX8_angleFor 126 = .ok (.istore 6, 2) := by decide +kernel
theorem dX8_angleFor_128 : decode cX8_angleFor 128 = .ok (.iinc 7 1, 3) := by decide +kernel
theorem dX8_angleFor_131 : decode cX8_angleFor 131 = .ok (.goto (-56), 3) := by decide +kernel
theorem dX8_angleFor_134 : decode cX8_angleFor 134 = .ok (.aload_n 0, 1) := by decide +kernel
theorem dX8_angleFor_135 : decode cX8_angleFor 135 = .ok (.getfield 7, 3) := by decide +kernel
theorem dX8_angleFor_138 : decode cX8_angleFor 138 = .ok (.iload 4, 2) := by decide +kernel
theorem dX8_angleFor_140 : decode cX8_angleFor 140 = .ok (.iload 5, 2) := by decide +kernel
theorem dX8_angleFor_142 : decode cX8_angleFor 142 = .ok (.iastore, 1) := by decide +kernel
theorem dX8_angleFor_143 : decode cX8_angleFor 143 = .ok (.iload 6, 2) := by decide +kernel
theorem dX8_angleFor_145 : decode cX8_angleFor 145 = .ok (.ireturn, 1) := by decide +kernel
theorem dX8_reachBy_0 : decode cX8_reachBy 0 = .ok (.aload_n 0, 1) := by decide +kernel
theorem dX8_reachBy_1 : decode cX8_reachBy 1 = .ok (.aload_n 0, 1) := by decide +kernel
theorem dX8_reachBy_2 : decode cX8_reachBy 2 = .ok (.iload_n 1, 1) := by decide +kernel
theorem dX8_reachBy_3 : decode cX8_reachBy 3 = .ok (.invokevirtual 155, 3) := by decide +kernel
theorem dX8_reachBy_6 : decode cX8_reachBy 6 = .ok (.ifCond .eq 11, 3) := by decide +kernel
theorem dX8_reachBy_9 : decode cX8_reachBy 9 = .ok (.aload_n 0, 1) := by decide +kernel
theorem dX8_reachBy_10 : decode cX8_reachBy 10 = .ok (.iload_n 2, 1) := by decide +kernel
theorem dX8_reachBy_11 : decode cX8_reachBy 11 = .ok (.invokevirtual 155, 3) := by decide +kernel
theorem dX8_reachBy_14 : decode cX8_reachBy 14 = .ok (.ifCond .ne 7, 3) := by decide +kernel
theorem dX8_reachBy_17 : decode cX8_reachBy 17 = .ok (.iconst 1, 1) := by decide +kernel
theorem dX8_reachBy_18 : decode cX8_reachBy 18 = .ok (.goto 28, 3) := by decide +kernel
theorem dX8_reachBy_21 : decode cX8_reachBy 21 = .ok (.iload_n 3, 1) := by decide +kernel
theorem dX8_reachBy_22 : decode cX8_reachBy 22 = .ok (.invokestatic 123, 3) := by decide +kernel
theorem dX8_reachBy_25 : decode cX8_reachBy 25 = .ok (.ifCond .eq 20, 3) := by decide +kernel
theorem dX8_reachBy_28 : decode cX8_reachBy 28 = .ok (.iload 4, 2) := by decide +kernel
theorem dX8_reachBy_30 : decode cX8_reachBy 30 = .ok (.i2l, 1) := by decide +kernel
theorem dX8_reachBy_31 : decode cX8_reachBy 31 = .ok (.lconst 1, 1) := by decide +kernel
theorem dX8_reachBy_32 : decode cX8_reachBy 32 = .ok (.ldc2_w 235, 3) := by decide +kernel
theorem dX8_reachBy_35 : decode cX8_reachBy 35 = .ok (.invokestatic 62, 3) := by decide +kernel
theorem dX8_reachBy_38 : decode cX8_reachBy 38 = .ok (.ifCond .eq 7, 3) := by decide +kernel
theorem dX8_reachBy_41 : decode cX8_reachBy 41 = .ok (.iconst 0, 1) := by decide +kernel
theorem dX8_reachBy_42 : decode cX8_reachBy 42 = .ok (.goto 4, 3) := by decide +kernel
theorem dX8_reachBy_45 : decode cX8_reachBy 45 = .ok (.iconst 2, 1) := by decide +kernel
theorem dX8_reachBy_46 : decode cX8_reachBy 46 = .ok (.invokevirtual 70, 3) := by decide +kernel
theorem dX8_reachBy_49 : decode cX8_reachBy 49 = .ok (.ifCond .eq 5, 3) := by decide +kernel
theorem dX8_reachBy_52 : decode cX8_reachBy 52 = .ok (.iconst 0, 1) := by decide +kernel
theorem dX8_reachBy_53 : decode cX8_reachBy 53 = .ok (.ireturn, 1) := by decide +kernel
theorem dX8_reachBy_54 : decode cX8_reachBy 54 = .ok (.aload_n 0, 1) := by decide +kernel
theorem dX8_reachBy_55 : decode cX8_reachBy 55 = .ok (.iload_n 1, 1) := by decide +kernel
theorem dX8_reachBy_56 : decode cX8_reachBy 56 = .ok (.iload_n 2, 1) := by decide +kernel
theorem dX8_reachBy_57 : decode cX8_reachBy 57 = .ok (.invokevirtual 223, 3) := by decide +kernel
theorem dX8_reachBy_60 : decode cX8_reachBy 60 = .ok (.ldc 105, 2) := by decide +kernel
theorem dX8_reachBy_62 : decode cX8_reachBy 62 = .ok (.if_icmp .ne 6, 3) := by decide +kernel
theorem dX8_reachBy_65 : decode cX8_reachBy 65 = .ok (.ldc 105, 2) := by decide +kernel
theorem dX8_reachBy_67 : decode cX8_reachBy 67 = .ok (.ireturn, 1) := by decide +kernel
theorem dX8_reachBy_68 : decode cX8_reachBy 68 = .ok (.aload_n 0, 1) := by decide +kernel
theorem dX8_reachBy_69 : decode cX8_reachBy 69 = .ok (.iload_n 1, 1) := by decide +kernel
theorem dX8_reachBy_70 : decode cX8_reachBy 70 = .ok (.aload_n 0, 1) := by decide +kernel
theorem dX8_reachBy_71 : decode cX8_reachBy 71 = .ok (.iload_n 1, 1) := by decide +kernel
theorem dX8_reachBy_72 : decode cX8_reachBy 72 = .ok (.invokevirtual 77, 3) := by decide +kernel
theorem dX8_reachBy_75 : decode cX8_reachBy 75 = .ok (.iconst 1, 1) := by decide +kernel
theorem dX8_reachBy_76 : decode cX8_reachBy 76 = .ok (.isub, 1) := by decide +kernel
theorem dX8_reachBy_77 : decode cX8_reachBy 77 = .ok (.invokevirtual 164, 3) := by decide +kernel
theorem dX8_reachBy_80 : decode cX8_reachBy 80 = .ok (.i2l, 1) := by decide +kernel
theorem dX8_reachBy_81 : decode cX8_reachBy 81 = .ok (.iload_n 3, 1) := by decide +kernel
theorem dX8_reachBy_82 : decode cX8_reachBy 82 = .ok (.i2l, 1) := by decide +kernel
theorem dX8_reachBy_83 : decode cX8_reachBy 83 = .ok (.ladd, 1) := by decide +kernel
theorem dX8_reachBy_84 : decode cX8_reachBy 84 = .ok (.ldc2_w 45, 3) := by decide +kernel
theorem dX8_reachBy_87 : decode cX8_reachBy 87 = .ok (.ladd, 1) := by decide +kernel
theorem dX8_reachBy_88 : decode cX8_reachBy 88 = .ok (.lstore 5, 2) := by decide +kernel
theorem dX8_reachBy_90 : decode cX8_reachBy 90 = .ok (.lload 5, 2) := by decide +kernel
theorem dX8_reachBy_92 : decode cX8_reachBy 92 = .ok (.invokestatic 53, 3) := by decide +kernel
theorem dX8_reachBy_95 : decode cX8_reachBy 95 = .ok (.i2l, 1) := by decide +kernel
theorem dX8_reachBy_96 : decode cX8_reachBy 96 = .ok (.lstore 7, 2) := by decide +kernel
theorem dX8_reachBy_98 : decode cX8_reachBy 98 = .ok (.lload 5, 2) := by decide +kernel
theorem dX8_reachBy_100 : decode cX8_reachBy 100 = .ok (.invokestatic 186, 3) := by decide +kernel
theorem dX8_reachBy_103 : decode cX8_reachBy 103 = .ok (.i2l, 1) := by decide +kernel
theorem dX8_reachBy_104 : decode cX8_reachBy 104 = .ok (.lstore 9, 2) := by decide +kernel
theorem dX8_reachBy_106 : decode cX8_reachBy 106 = .ok (.aload_n 0, 1) := by decide +kernel
theorem dX8_reachBy_107 : decode cX8_reachBy 107 = .ok (.iload_n 1, 1) := by decide +kernel
theorem dX8_reachBy_108 : decode cX8_reachBy 108 = .ok (.aload_n 0, 1) := by decide +kernel
theorem dX8_reachBy_109 : decode cX8_reachBy 109 = .ok (.iload_n 1, 1) := by decide +kernel
theorem dX8_reachBy_110 : decode cX8_reachBy 110 = .ok (.invokevirtual 77, 3) := by decide +kernel
theorem dX8_reachBy_113 : decode cX8_reachBy 113 = .ok (.iconst 1, 1) := by decide +kernel
theorem dX8_reachBy_114 : decode cX8_reachBy 114 = .ok (.isub, 1) := by decide +kernel
theorem dX8_reachBy_115 : decode cX8_reachBy 115 = .ok (.iconst 1, 1) := by decide +kernel
theorem dX8_reachBy_116 : decode cX8_reachBy 116 = .ok (.invokevirtual 191, 3) := by decide +kernel
theorem dX8_reachBy_119 : decode cX8_reachBy 119 = .ok (.i2l, 1) := by decide +kernel
theorem dX8_reachBy_120 : decode cX8_reachBy 120 = .ok (.aload_n 0, 1) := by decide +kernel
theorem dX8_reachBy_121 : decode cX8_reachBy 121 = .ok (.iload_n 2, 1) := by decide +kernel
theorem dX8_reachBy_122 : decode cX8_reachBy 122 = .ok (.aload_n 0, 1) := by decide +kernel
theorem dX8_reachBy_123 : decode cX8_reachBy 123 = .ok (.iload_n 2, 1) := by decide +kernel
theorem dX8_reachBy_124 : decode cX8_reachBy 124 = .ok (.invokevirtual 77, 3) := by decide +kernel
theorem dX8_reachBy_127 : decode cX8_reachBy 127 = .ok (.iconst 1, 1) := by decide +kernel
theorem dX8_reachBy_128 : decode cX8_reachBy 128 = .ok (.isub, 1) := by decide +kernel
theorem dX8_reachBy_129 : decode cX8_reachBy 129 = .ok (.iconst 1, 1) := by decide +kernel
theorem dX8_reachBy_130 : decode cX8_reachBy 130 = .ok (.invokevirtual 191, 3) := by decide +kernel
theorem dX8_reachBy_133 : decode cX8_reachBy 133 = .ok (.i2l, 1) := by decide +kernel
theorem dX8_reachBy_134 : decode cX8_reachBy 134 = .ok (.lsub, 1) := by decide +kernel
theorem dX8_reachBy_135 : decode cX8_reachBy 135 = .ok (.lstore 11, 2) := by decide +kernel
theorem dX8_reachBy_137 : decode cX8_reachBy 137 = .ok (.aload_n 0, 1) := by decide +kernel
theorem dX8_reachBy_138 : decode cX8_reachBy 138 = .ok (.iload_n 1, 1) := by decide +kernel
theorem dX8_reachBy_139 : decode cX8_reachBy 139 = .ok (.aload_n 0, 1) := by decide +kernel
theorem dX8_reachBy_140 : decode cX8_reachBy 140 = .ok (.iload_n 1, 1) := by decide +kernel
theorem dX8_reachBy_141 : decode cX8_reachBy 141 = .ok (.invokevirtual 77, 3) := by decide +kernel
theorem dX8_reachBy_144 : decode cX8_reachBy 144 = .ok (.iconst 1, 1) := by decide +kernel
theorem dX8_reachBy_145 : decode cX8_reachBy 145 = .ok (.isub, 1) := by decide +kernel
theorem dX8_reachBy_146 : decode cX8_reachBy 146 = .ok (.iconst 0, 1) := by decide +kernel
theorem dX8_reachBy_147 : decode cX8_reachBy 147 = .ok (.invokevirtual 191, 3) := by decide +kernel
theorem dX8_reachBy_150 : decode cX8_reachBy 150 = .ok (.i2l, 1) := by decide +kernel
theorem dX8_reachBy_151 : decode cX8_reachBy 151 = .ok (.aload_n 0, 1) := by decide +kernel
theorem dX8_reachBy_152 : decode cX8_reachBy 152 = .ok (.iload_n 2, 1) := by decide +kernel
theorem dX8_reachBy_153 : decode cX8_reachBy 153 = .ok (.aload_n 0, 1) := by decide +kernel
theorem dX8_reachBy_154 : decode cX8_reachBy 154 = .ok (.iload_n 2, 1) := by decide +kernel
theorem dX8_reachBy_155 : decode cX8_reachBy 155 = .ok (.invokevirtual 77, 3) := by decide +kernel
theorem dX8_reachBy_158 : decode cX8_reachBy 158 = .ok (.iconst 1, 1) := by decide +kernel
theorem dX8_reachBy_159 : decode cX8_reachBy 159 = .ok (.isub, 1) := by decide +kernel
theorem dX8_reachBy_160 : decode cX8_reachBy 160 = .ok (.iconst 0, 1) := by decide +kernel
theorem dX8_reachBy_161 : decode cX8_reachBy 161 = .ok (.invokevirtual 191, 3) := by decide +kernel
theorem dX8_reachBy_164 : decode cX8_reachBy 164 = .ok (.i2l, 1) := by decide +kernel
theorem dX8_reachBy_165 : decode cX8_reachBy 165 = .ok (.lsub, 1) := by decide +kernel
theorem dX8_reachBy_166 : decode cX8_reachBy 166 = .ok (.lstore 13, 2) := by decide +kernel
theorem dX8_reachBy_168 : decode cX8_reachBy 168 = .ok (.ldc 105, 2) := by decide +kernel
theorem dX8_reachBy_170 : decode cX8_reachBy 170 = .ok (.istore 15, 2) := by decide +kernel
theorem dX8_reachBy_172 : decode cX8_reachBy 172 = .ok (.iconst 0, 1) := by decide +kernel
theorem dX8_reachBy_173 : decode cX8_reachBy 173 = .ok (.istore 16, 2) := by decide +kernel
theorem dX8_reachBy_175 : decode cX8_reachBy 175 = .ok (.sipush 1000, 3) := by decide +kernel
theorem dX8_reachBy_178 : decode cX8_reachBy 178 = .ok (.istore 17, 2) := by decide +kernel
theorem dX8_reachBy_180 : decode cX8_reachBy 180 = .ok (.iload 17, 2) := by decide +kernel
theorem dX8_reachBy_182 : decode cX8_reachBy 182 = .ok (.sipush 1000, 3) := by decide +kernel
theorem dX8_reachBy_185 : decode cX8_reachBy 185 = .ok (.iload 4, 2) := by decide +kernel
theorem dX8_reachBy_187 : decode cX8_reachBy 187 = .ok (.imul, 1) := by decide +kernel
theorem dX8_reachBy_188 : decode cX8_reachBy 188 = .ok (.if_icmp .gt 92, 3) := by decide +kernel
theorem dX8_reachBy_191 : decode cX8_reachBy 191 = .ok (.lload 11, 2) := by decide +kernel
theorem dX8_reachBy_193 : decode cX8_reachBy 193 = .ok (.iload 17, 2) := by decide +kernel
theorem dX8_reachBy_195 : decode cX8_reachBy 195 = .ok (.i2l, 1) := by decide +kernel
theorem dX8_reachBy_196 : decode cX8_reachBy 196 = .ok (.lload 7, 2) := by decide +kernel
theorem dX8_reachBy_198 : decode cX8_reachBy 198 = .ok (.lmul, 1) := by decide +kernel
theorem dX8_reachBy_199 : decode cX8_reachBy 199 = .ok (.ldc2_w 189, 3) := by decide +kernel
theorem dX8_reachBy_202 : decode cX8_reachBy 202 = .ok (.ldiv, 1) := by decide +kernel
theorem dX8_reachBy_203 : decode cX8_reachBy 203 = .ok (.ladd, 1) := by decide +kernel
theorem dX8_reachBy_204 : decode cX8_reachBy 204 = .ok (.lload 13, 2) := by decide +kernel
theorem dX8_reachBy_206 : decode cX8_reachBy 206 = .ok (.iload 17, 2) := by decide +kernel
theorem dX8_reachBy_208 : decode cX8_reachBy 208 = .ok (.i2l, 1) := by decide +kernel
theorem dX8_reachBy_209 : decode cX8_reachBy 209 = .ok (.lload 9, 2) := by decide +kernel
theorem dX8_reachBy_211 : decode cX8_reachBy 211 = .ok (.lmul, 1) := by decide +kernel
theorem dX8_reachBy_212 : decode cX8_reachBy 212 = .ok (.ldc2_w 189, 3) := by decide +kernel
theorem dX8_reachBy_215 : decode cX8_reachBy 215 = .ok (.ldiv, 1) := by decide +kernel
theorem dX8_reachBy_216 : decode cX8_reachBy 216 = .ok (.ladd, 1) := by decide +kernel
theorem dX8_reachBy_217 : decode cX8_reachBy 217 = .ok (.invokestatic 202, 3) := by decide +kernel
theorem dX8_reachBy_220 : decode cX8_reachBy 220 = .ok (.istore 18, 2) := by decide +kernel
theorem dX8_reachBy_222 : decode cX8_reachBy 222 = .ok (.iload 15, 2) := by decide +kernel
theorem dX8_reachBy_224 : decode cX8_reachBy 224 = .ok (.ldc 105, 2) := by decide +kernel
theorem dX8_reachBy_226 : decode cX8_reachBy 226 = .ok (.if_icmp .eq 10, 3) := by decide +kernel
theorem dX8_reachBy_229 : decode cX8_reachBy 229 = .ok (.iload 18, 2) := by decide +kernel
theorem dX8_reachBy_231 : decode cX8_reachBy 231 = .ok (.iload 16, 2) := by decide +kernel
theorem dX8_reachBy_233 : decode cX8_reachBy 233 = .ok (.if_icmp .ge 7, 3) := by decide +kernel
theorem dX8_reachBy_236 : decode cX8_reachBy 236 = .ok (.iconst 1, 1) := by decide +kernel
theorem dX8_reachBy_237 : decode cX8_reachBy 237 = .ok (.goto 4, 3) := by decide +kernel
theorem dX8_reachBy_240 : decode cX8_reachBy 240 = .ok (.iconst 0, 1) := by decide +kernel
theorem dX8_reachBy_241 : decode cX8_reachBy 241 = .ok (.istore 19, 2) := by decide +kernel
theorem dX8_reachBy_243 : decode cX8_reachBy 243 = .ok (.iload 19, 2) := by decide +kernel
theorem dX8_reachBy_245 : decode cX8_reachBy 245 = .ok (.ifCond .eq 8, 3) := by decide +kernel
theorem dX8_reachBy_248 : decode cX8_reachBy 248 = .ok (.iload 17, 2) := by decide +kernel
theorem dX8_reachBy_250 : decode cX8_reachBy 250 = .ok (.goto 5, 3) := by decide +kernel
theorem dX8_reachBy_253 : decode cX8_reachBy 253 = .ok (.iload 15, 2) := by decide +kernel
theorem dX8_reachBy_255 : decode cX8_reachBy 255 = .ok (.istore 15, 2) := by decide +kernel
theorem dX8_reachBy_257 : decode cX8_reachBy 257 = .ok (.iload 19, 2) := by decide +kernel
theorem dX8_reachBy_259 : decode cX8_reachBy 259 = .ok (.ifCond .eq 8, 3) := by decide +kernel
theorem dX8_reachBy_262 : decode cX8_reachBy 262 = .ok (.iload 18, 2) := by decide +kernel
theorem dX8_reachBy_264 : decode cX8_reachBy 264 = .ok (.goto 5, 3) := by decide +kernel
theorem dX8_reachBy_267 : decode cX8_reachBy 267 = .ok (.iload 16, 2) := by decide +kernel
theorem dX8_reachBy_269 : decode cX8_reachBy 269 = .ok (.istore 16, 2) := by decide +kernel
theorem dX8_reachBy_271 : decode cX8_reachBy 271 = .ok (.iinc 17 1000, 6) := by decide +kernel
theorem dX8_reachBy_277 : decode cX8_reachBy 277 = .ok (.goto (-97), 3) := by decide +kernel
theorem dX8_reachBy_280 : decode cX8_reachBy 280 = .ok (.iload 15, 2) := by decide +kernel
theorem dX8_reachBy_282 : decode cX8_reachBy 282 = .ok (.ireturn, 1) := by decide +kernel
theorem dX8_type_0 : decode cX8_type 0 = .ok (.aload_n 0, 1) := by decide +kernel
theorem dX8_type_1 : decode cX8_type 1 = .ok (.iload_n 1, 1) := by decide +kernel
theorem dX8_type_2 : decode cX8_type 2 = .ok (.i2l, 1) := by decide +kernel
theorem dX8_type_3 : decode cX8_type 3 = .ok (.ldc2_w 237, 3) := by decide +kernel
theorem dX8_type_6 : decode cX8_type 6 = .ok (.ldc2_w 239, 3) := by decide +kernel
theorem dX8_type_9 : decode cX8_type 9 = .ok (.invokestatic 62, 3) := by decide +kernel
theorem dX8_type_12 : decode cX8_type 12 = .ok (.ifCond .ne 7, 3) := by decide +kernel
theorem dX8_type_15 : decode cX8_type 15 = .ok (.iconst 1, 1) := by decide +kernel
theorem dX8_type_16 : decode cX8_type 16 = .ok (.goto 17, 3) := by decide +kernel
theorem dX8_type_19 : decode cX8_type 19 = .ok (.aload_n 0, 1) := by decide +kernel
theorem dX8_type_20 : decode cX8_type 20 = .ok (.getfield 241, 3) := by decide +kernel
theorem dX8_type_23 : decode cX8_type 23 = .ok (.bipush 90, 2) := by decide +kernel
theorem dX8_type_25 : decode cX8_type 25 = .ok (.if_icmp .ne 7, 3) := by decide +kernel
theorem dX8_type_28 : decode cX8_type 28 = .ok (.iconst 2, 1) := by decide +kernel
theorem dX8_type_29 : decode cX8_type 29 = .ok (.goto 4, 3) := by decide +kernel
theorem dX8_type_32 : decode cX8_type 32 = .ok (.iconst 0, 1) := by decide +kernel
theorem dX8_type_33 : decode cX8_type 33 = .ok (.invokevirtual 70, 3) := by decide +kernel
theorem dX8_type_36 : decode cX8_type 36 = .ok (.ifCond .eq 5, 3) := by decide +kernel
theorem dX8_type_39 : decode cX8_type 39 = .ok (.iconst 0, 1) := by decide +kernel
theorem dX8_type_40 : decode cX8_type 40 = .ok (.ireturn, 1) := by decide +kernel
theorem dX8_type_41 : decode cX8_type 41 = .ok (.aload_n 0, 1) := by decide +kernel
theorem dX8_type_42 : decode cX8_type 42 = .ok (.getfield 16, 3) := by decide +kernel
theorem dX8_type_45 : decode cX8_type 45 = .ok (.aload_n 0, 1) := by decide +kernel
theorem dX8_type_46 : decode cX8_type 46 = .ok (.getfield 241, 3) := by decide +kernel
theorem dX8_type_49 : decode cX8_type 49 = .ok (.iload_n 1, 1) := by decide +kernel
theorem dX8_type_50 : decode cX8_type 50 = .ok (.iastore, 1) := by decide +kernel
theorem dX8_type_51 : decode cX8_type 51 = .ok (.aload_n 0, 1) := by decide +kernel
theorem dX8_type_52 : decode cX8_type 52 = .ok (.dup, 1) := by decide +kernel
theorem dX8_type_53 : decode cX8_type 53 = .ok (.getfield 241, 3) := by decide +kernel
theorem dX8_type_56 : decode cX8_type 56 = .ok (.iconst 1, 1) := by decide +kernel
theorem dX8_type_57 : decode cX8_type 57 = .ok (.iadd, 1) := by decide +kernel
theorem dX8_type_58 : decode cX8_type 58 = .ok (.putfield 241, 3) := by decide +kernel
theorem dX8_type_61 : decode cX8_type 61 = .ok (.aload_n 0, 1) := by decide +kernel
theorem dX8_type_62 : decode cX8_type 62 = .ok (.getfield 241, 3) := by decide +kernel
theorem dX8_type_65 : decode cX8_type 65 = .ok (.ireturn, 1) := by decide +kernel
theorem dX8_clearText_0 : decode cX8_clearText 0 = .ok (.aload_n 0, 1) := by decide +kernel
theorem dX8_clearText_1 : decode cX8_clearText 1 = .ok (.iconst 0, 1) := by decide +kernel
theorem dX8_clearText_2 : decode cX8_clearText 2 = .ok (.putfield 22, 3) := by decide +kernel
theorem dX8_clearText_5 : decode cX8_clearText 5 = .ok (.aload_n 0, 1) := by decide +kernel
theorem dX8_clearText_6 : decode cX8_clearText 6 = .ok (.getfield 241, 3) := by decide +kernel
theorem dX8_clearText_9 : decode cX8_clearText 9 = .ok (.istore_n 1, 1) := by decide +kernel
theorem dX8_clearText_10 : decode cX8_clearText 10 = .ok (.aload_n 0, 1) := by decide +kernel
theorem dX8_clearText_11 : decode cX8_clearText 11 = .ok (.iconst 0, 1) := by decide +kernel
theorem dX8_clearText_12 : decode cX8_clearText 12 = .ok (.putfield 241, 3) := by decide +kernel
theorem dX8_clearText_15 : decode cX8_clearText 15 = .ok (.iload_n 1, 1) := by decide +kernel
theorem dX8_clearText_16 : decode cX8_clearText 16 = .ok (.ireturn, 1) := by decide +kernel
theorem dX8_isAt_0 : decode cX8_isAt 0 = .ok (.aload_n 0, 1) := by decide +kernel
theorem dX8_isAt_1 : decode cX8_isAt 1 = .ok (.getfield 244, 3) := by decide +kernel
theorem dX8_isAt_4 : decode cX8_isAt 4 = .ok (.aload_n 0, 1) := by decide +kernel
theorem dX8_isAt_5 : decode cX8_isAt 5 = .ok (.getfield 241, 3) := by decide +kernel
theorem dX8_isAt_8 : decode cX8_isAt 8 = .ok (.if_icmp .ge 27, 3) := by decide +kernel
theorem dX8_isAt_11 : decode cX8_isAt 11 = .ok (.aload_n 0, 1) := by decide +kernel
theorem dX8_isAt_12 : decode cX8_isAt 12 = .ok (.getfield 16, 3) := by decide +kernel
theorem dX8_isAt_15 : decode cX8_isAt 15 = .ok (.aload_n 0, 1) := by decide +kernel
theorem dX8_isAt_16 : decode cX8_isAt 16 = .ok (.getfield 244, 3) := by decide +kernel
theorem dX8_isAt_19 : decode cX8_isAt 19 = .ok (.iaload, 1) := by decide +kernel
theorem dX8_isAt_20 : decode cX8_isAt 20 = .ok (.i2l, 1) := by decide +kernel
theorem dX8_isAt_21 : decode cX8_isAt 21 = .ok (.iload_n 1, 1) := by decide +kernel
theorem dX8_isAt_22 : decode cX8_isAt 22 = .ok (.i2l, 1) := by decide +kernel
theorem dX8_isAt_23 : decode cX8_isAt 23 = .ok (.iload_n 2, 1) := by decide +kernel
theorem dX8_isAt_24 : decode cX8_isAt 24 = .ok (.i2l, 1) := by decide +kernel
theorem dX8_isAt_25 : decode cX8_isAt 25 = .ok (.invokestatic 62, 3) := by decide +kernel
theorem dX8_isAt_28 : decode cX8_isAt 28 = .ok (.ifCond .eq 7, 3) := by decide +kernel
theorem dX8_isAt_31 : decode cX8_isAt 31 = .ok (.iconst 1, 1) := by decide +kernel
theorem dX8_isAt_32 : decode cX8_isAt 32 = .ok (.goto 4, 3) := by decide +kernel
theorem dX8_isAt_35 : decode cX8_isAt 35 = .ok (.iconst 0, 1) := by decide +kernel
theorem dX8_isAt_36 : decode cX8_isAt 36 = .ok (.ireturn, 1) := by decide +kernel
theorem dX8_number_0 : decode cX8_number 0 = .ok (.aload_n 0, 1) := by decide +kernel
theorem dX8_number_1 : decode cX8_number 1 = .ok (.getfield 244, 3) := by decide +kernel
theorem dX8_number_4 : decode cX8_number 4 = .ok (.istore_n 3, 1) := by decide +kernel
theorem dX8_number_5 : decode cX8_number 5 = .ok (.iconst 0, 1) := by decide +kernel
theorem dX8_number_6 : decode cX8_number 6 = .ok (.istore 4, 2) := by decide +kernel
theorem dX8_number_8 : decode cX8_number 8 = .ok (.aload_n 0, 1) := by decide +kernel
theorem dX8_number_9 : decode cX8_number 9 = .ok (.bipush 48, 2) := by decide +kernel
theorem dX8_number_11 : decode cX8_number 11 = .ok (.bipush 57, 2) := by decide +kernel
theorem dX8_number_13 : decode cX8_number 13 = .ok (.invokevirtual 247, 3) := by decide +kernel
theorem dX8_number_16 : decode cX8_number 16 = .ok (.ifCond .eq 47, 3) := by decide +kernel
theorem dX8_number_19 : decode cX8_number 19 = .ok (.aload_n 0, 1) := by decide +kernel
theorem dX8_number_20 : decode cX8_number 20 = .ok (.getfield 244, 3) := by decide +kernel
theorem dX8_number_23 : decode cX8_number 23 = .ok (.iload_n 3, 1) := by decide +kernel
theorem dX8_number_24 : decode cX8_number 24 = .ok (.isub, 1) := by decide +kernel
theorem dX8_number_25 : decode cX8_number 25 = .ok (.bipush 7, 2) := by decide +kernel
theorem dX8_number_27 : decode cX8_number 27 = .ok (.if_icmp .ge 36, 3) := by decide +kernel
theorem dX8_number_30 : decode cX8_number 30 = .ok (.bipush 10, 2) := by decide +kernel
theorem dX8_number_32 : decode cX8_number 32 = .ok (.iload 4, 2) := by decide +kernel
theorem dX8_number_34 : decode cX8_number 34 = .ok (.imul, 1) := by decide +kernel
theorem dX8_number_35 : decode cX8_number 35 = .ok (.aload_n 0, 1) := by decide +kernel
theorem dX8_number_36 : decode cX8_number 36 = .ok (.getfield 16, 3) := by decide +kernel
theorem dX8_number_39 : decode cX8_number 39 = .ok (.aload_n 0, 1) := by decide +kernel
theorem dX8_number_40 : decode cX8_number 40 = .ok (.getfield 244, 3) := by decide +kernel
theorem dX8_number_43 : decode cX8_number 43 = .ok (.iaload, 1) := by decide +kernel
theorem dX8_number_44 : decode cX8_number 44 = .ok (.iadd, 1) := by decide +kernel
theorem dX8_number_45 : decode cX8_number 45 = .ok (.bipush 48, 2) := by decide +kernel
theorem dX8_number_47 : decode cX8_number 47 = .ok (.isub, 1) := by decide +kernel
theorem dX8_number_48 : decode cX8_number 48 = .ok (.istore 4, 2) := by decide +kernel
theorem dX8_number_50 : decode cX8_number 50 = .ok (.aload_n 0, 1) := by decide +kernel
theorem dX8_number_51 : decode cX8_number 51 = .ok (.dup, 1) := by decide +kernel
theorem dX8_number_52 : decode cX8_number 52 = .ok (.getfield 244, 3) := by decide +kernel
theorem dX8_number_55 : decode cX8_number 55 = .ok (.iconst 1, 1) := by decide +kernel
theorem dX8_number_56 : decode cX8_number 56 = .ok (.iadd, 1) := by decide +kernel
theorem dX8_number_57 : decode cX8_number 57 = .ok (.putfield 244, 3) := by decide +kernel
theorem dX8_number_60 : decode cX8_number 60 = .ok (.goto (-52), 3) := by decide +kernel
theorem dX8_number_63 : decode cX8_number 63 = .ok (.aload_n 0, 1) := by decide +kernel
theorem dX8_number_64 : decode cX8_number 64 = .ok (.getfield 19, 3) := by decide +kernel
theorem dX8_number_67 : decode cX8_number 67 = .ok (.iload_n 1, 1) := by decide +kernel
theorem dX8_number_68 : decode cX8_number 68 = .ok (.iload 4, 2) := by decide +kernel
theorem dX8_number_70 : decode cX8_number 70 = .ok (.iastore, 1) := by decide +kernel
theorem dX8_number_71 : decode cX8_number 71 = .ok (.aload_n 0, 1) := by decide +kernel
theorem dX8_number_72 : decode cX8_number 72 = .ok (.getfield 244, 3) := by decide +kernel
theorem dX8_number_75 : decode cX8_number 75 = .ok (.iload_n 3, 1) := by decide +kernel
theorem dX8_number_76 : decode cX8_number 76 = .ok (.if_icmp .eq 12, 3) := by decide +kernel
theorem dX8_number_79 : decode cX8_number 79 = .ok (.aload_n 0, 1) := by decide +kernel
theorem dX8_number_80 : decode cX8_number 80 = .ok (.iload_n 2, 1) := by decide +kernel
theorem dX8_number_81 : decode cX8_number 81 = .ok (.iload_n 2, 1) := by decide +kernel
theorem dX8_number_82 : decode cX8_number 82 = .ok (.invokevirtual 247, 3) := by decide +kernel
theorem dX8_number_85 : decode cX8_number 85 = .ok (.ifCond .ne 5, 3) := by decide +kernel
theorem dX8_number_88 : decode cX8_number 88 = .ok (.iconst 0, 1) := by decide +kernel
theorem dX8_number_89 : decode cX8_number 89 = .ok (.ireturn, 1) := by decide +kernel
theorem dX8_number_90 : decode cX8_number 90 = .ok (.aload_n 0, 1) := by decide +kernel
theorem dX8_number_91 : decode cX8_number 91 = .ok (.dup, 1) := by decide +kernel
theorem dX8_number_92 : decode cX8_number 92 = .ok (.getfield 244, 3) := by decide +kernel
theorem dX8_number_95 : decode cX8_number 95 = .ok (.iconst 1, 1) := by decide +kernel
theorem dX8_number_96 : decode cX8_number 96 = .ok (.iadd, 1) := by decide +kernel
theorem dX8_number_97 : decode cX8_number 97 = .ok (.putfield 244, 3) := by decide +kernel
theorem dX8_number_100 : decode cX8_number 100 = .ok (.iconst 1, 1) := by decide +kernel
theorem dX8_number_101 : decode cX8_number 101 = .ok (.ireturn, 1) := by decide +kernel
theorem dX8_numbers_0 : decode cX8_numbers 0 = .ok (.iload_n 0, 1) := by decide +kernel
theorem dX8_numbers_1 : decode cX8_numbers 1 = .ok (.bipush 116, 2) := by decide +kernel
theorem dX8_numbers_3 : decode cX8_numbers 3 = .ok (.if_icmp .ne 7, 3) := by decide +kernel
theorem dX8_numbers_6 : decode cX8_numbers 6 = .ok (.iconst 2, 1) := by decide +kernel
theorem dX8_numbers_7 : decode cX8_numbers 7 = .ok (.goto 30, 3) := by decide +kernel
theorem dX8_numbers_10 : decode cX8_numbers 10 = .ok (.iload_n 0, 1) := by decide +kernel
theorem dX8_numbers_11 : decode cX8_numbers 11 = .ok (.bipush 108, 2) := by decide +kernel
theorem dX8_numbers_13 : decode cX8_numbers 13 = .ok (.if_icmp .ne 7, 3) := by decide +kernel
theorem dX8_numbers_16 : decode cX8_numbers 16 = .ok (.iconst 3, 1) := by decide +kernel
theorem dX8_numbers_17 : decode cX8_numbers 17 = .ok (.goto 20, 3) := by decide +kernel
theorem dX8_numbers_20 : decode cX8_numbers 20 = .ok (.iload_n 0, 1) := by decide +kernel
theorem dX8_numbers_21 : decode cX8_numbers 21 = .ok (.bipush 107, 2) := by decide +kernel
theorem dX8_numbers_23 : decode cX8_numbers 23 = .ok (.if_icmp .eq 9, 3) := by decide +kernel
theorem dX8_numbers_26 : decode cX8_numbers 26 = .ok (.iload_n 0, 1) := by decide +kernel
theorem dX8_numbers_27 : decode cX8_numbers 27 = .ok (.bipush 97, 2) := by decide +kernel
theorem dX8_numbers_29 : decode cX8_numbers 29 = .ok (.if_icmp .ne 7, 3) := by decide +kernel
theorem dX8_numbers_32 : decode cX8_numbers 32 = .ok (.iconst 1, 1) := by decide +kernel
theorem dX8_numbers_33 : decode cX8_numbers 33 = .ok (.goto 4, 3) := by decide +kernel
theorem dX8_numbers_36 : decode cX8_numbers 36 = .ok (.iconst 0, 1) := by decide +kernel
theorem dX8_numbers_37 : decode cX8_numbers 37 = .ok (.ireturn, 1) := by decide +kernel
theorem dX8_reads_0 : decode cX8_reads 0 = .ok (.aload_n 0, 1) := by decide +kernel
theorem dX8_reads_1 : decode cX8_reads 1 = .ok (.getfield 16, 3) := by decide +kernel
theorem dX8_reads_4 : decode cX8_reads 4 = .ok (.aload_n 0, 1) := by decide +kernel
theorem dX8_reads_5 : decode cX8_reads 5 = .ok (.getfield 244, 3) := by decide +kernel
theorem dX8_reads_8 : decode cX8_reads 8 = .ok (.iaload, 1) := by decide +kernel
theorem dX8_reads_9 : decode cX8_reads 9 = .ok (.invokestatic 251, 3) := by decide +kernel
theorem dX8_reads_12 : decode cX8_reads 12 = .ok (.istore_n 1, 1) := by decide +kernel
theorem dX8_reads_13 : decode cX8_reads 13 = .ok (.iload_n 1, 1) := by decide +kernel
theorem dX8_reads_14 : decode cX8_reads 14 = .ok (.ifCond .ne 5, 3) := by decide +kernel
theorem dX8_reads_17 : decode cX8_reads 17 = .ok (.iconst 0, 1) := by decide +kernel
theorem dX8_reads_18 : decode cX8_reads 18 = .ok (.ireturn, 1) := by decide +kernel
theorem dX8_reads_19 : decode cX8_reads 19 = .ok (.aload_n 0, 1) := by decide +kernel
theorem dX8_reads_20 : decode cX8_reads 20 = .ok (.dup, 1) := by decide +kernel
theorem dX8_reads_21 : decode cX8_reads 21 = .ok (.getfield 244, 3) := by decide +kernel
theorem dX8_reads_24 : decode cX8_reads 24 = .ok (.iconst 1, 1) := by decide +kernel
theorem dX8_reads_25 : decode cX8_reads 25 = .ok (.iadd, 1) := by decide +kernel
theorem dX8_reads_26 : decode cX8_reads 26 = .ok (.putfield 244, 3) := by decide +kernel
theorem dX8_reads_29 : decode cX8_reads 29 = .ok (.iconst 1, 1) := by decide +kernel
theorem dX8_reads_30 : decode cX8_reads 30 = .ok (.istore_n 2, 1) := by decide +kernel
theorem dX8_reads_31 : decode cX8_reads 31 = .ok (.iconst 0, 1) := by decide +kernel
theorem dX8_reads_32 : decode cX8_reads 32 = .ok (.istore_n 3, 1) := by decide +kernel
theorem dX8_reads_33 : decode cX8_reads 33 = .ok (.iload_n 3, 1) := by decide +kernel
theorem dX8_reads_34 : decode cX8_reads 34 = .ok (.iload_n 1, 1) := by decide +kernel
theorem dX8_reads_35 : decode cX8_reads 35 = .ok (.if_icmp .ge 33, 3) := by decide +kernel
theorem dX8_reads_38 : decode cX8_reads 38 = .ok (.iload_n 2, 1) := by decide +kernel
theorem dX8_reads_39 : decode cX8_reads 39 = .ok (.ifCond .eq 29, 3) := by decide +kernel
theorem dX8_reads_42 : decode cX8_reads 42 = .ok (.aload_n 0, 1) := by decide +kernel
theorem dX8_reads_43 : decode cX8_reads 43 = .ok (.iload_n 3, 1) := by decide +kernel
theorem dX8_reads_44 : decode cX8_reads 44 = .ok (.iload_n 3, 1) := by decide +kernel
theorem dX8_reads_45 : decode cX8_reads 45 = .ok (.iload_n 1, 1) := by decide +kernel
theorem dX8_reads_46 : decode cX8_reads 46 = .ok (.iconst 1, 1) := by decide +kernel
theorem dX8_reads_47 : decode cX8_reads 47 = .ok (.isub, 1) := by decide +kernel
theorem dX8_reads_48 : decode cX8_reads 48 = .ok (.if_icmp .ne 8, 3) := by decide +kernel
theorem dX8_reads_51 : decode cX8_reads 51 = .ok (.bipush 59, 2) := by decide +kernel
theorem dX8_reads_53 : decode cX8_reads 53 = .ok (.goto 5, 3) := by decide +kernel
theorem dX8_reads_56 : decode cX8_reads 56 = .ok (.bipush 44, 2) := by decide +kernel
theorem dX8_reads_58 : decode cX8_reads 58 = .ok (.invokevirtual 254, 3) := by decide +kernel
theorem dX8_reads_61 : decode cX8_reads 61 = .ok (.istore_n 2, 1) := by decide +kernel
theorem dX8_reads_62 : decode cX8_reads 62 = .ok (.iinc 3 1, 3) := by decide +kernel
theorem dX8_reads_65 : decode cX8_reads 65 = .ok (.goto (-32), 3) := by decide +kernel
theorem dX8_reads_68 : decode cX8_reads 68 = .ok (.iload_n 2, 1) := by decide +kernel
theorem dX8_reads_69 : decode cX8_reads 69 = .ok (.ireturn, 1) := by decide +kernel
theorem dX8_faultAt_0 : decode cX8_faultAt 0 = .ok (.aload_n 0, 1) := by decide +kernel
theorem dX8_faultAt_1 : decode cX8_faultAt 1 = .ok (.iconst 0, 1) := by decide +kernel
theorem dX8_faultAt_2 : decode cX8_faultAt 2 = .ok (.putfield 244, 3) := by decide +kernel
theorem dX8_faultAt_5 : decode cX8_faultAt 5 = .ok (.iconst 1, 1) := by decide +kernel
theorem dX8_faultAt_6 : decode cX8_faultAt 6 = .ok (.istore_n 1, 1) := by decide +kernel
theorem dX8_faultAt_7 : decode cX8_faultAt 7 = .ok (.iload_n 1, 1) := by decide +kernel
theorem dX8_faultAt_8 : decode cX8_faultAt 8 = .ok (.ifCond .eq 22, 3) := by decide +kernel
theorem dX8_faultAt_11 : decode cX8_faultAt 11 = .ok (.aload_n 0, 1) := by decide +kernel
theorem dX8_faultAt_12 : decode cX8_faultAt 12 = .ok (.getfield 244, 3) := by decide +kernel
theorem dX8_faultAt_15 : decode cX8_faultAt 15 = .ok (.aload_n 0, 1) := by decide +kernel
theorem dX8_faultAt_16 : decode cX8_faultAt 16 = .ok (.getfield 241, 3) := by decide +kernel
theorem dX8_faultAt_19 : decode cX8_faultAt 19 = .ok (.if_icmp .ge 11, 3) := by decide +kernel
theorem dX8_faultAt_22 : decode cX8_faultAt 22 = .ok (.aload_n 0, 1) := by decide +kernel
theorem dX8_faultAt_23 : decode cX8_faultAt 23 = .ok (.invokevirtual 257, 3) := by decide +kernel
theorem dX8_faultAt_26 : decode cX8_faultAt 26 = .ok (.istore_n 1, 1) := by decide +kernel
theorem dX8_faultAt_27 : decode cX8_faultAt 27 = .ok (.goto (-20), 3) := by decide +kernel
theorem dX8_faultAt_30 : decode cX8_faultAt 30 = .ok (.iload_n 1, 1) := by decide +kernel
theorem dX8_faultAt_31 : decode cX8_faultAt 31 = .ok (.ifCond .eq 8, 3) := by decide +kernel
theorem dX8_faultAt_34 : decode cX8_faultAt 34 = .ok (.ldc 105, 2) := by decide +kernel
theorem dX8_faultAt_36 : decode cX8_faultAt 36 = .ok (.goto 7, 3) := by decide +kernel
theorem dX8_faultAt_39 : decode cX8_faultAt 39 = .ok (.aload_n 0, 1) := by decide +kernel
theorem dX8_faultAt_40 : decode cX8_faultAt 40 = .ok (.getfield 244, 3) := by decide +kernel
theorem dX8_faultAt_43 : decode cX8_faultAt 43 = .ok (.ireturn, 1) := by decide +kernel
theorem dX8_fault_0 : decode cX8_fault 0 = .ok (.aload_n 0, 1) := by decide +kernel
theorem dX8_fault_1 : decode cX8_fault 1 = .ok (.iconst 0, 1) := by decide +kernel
theorem dX8_fault_2 : decode cX8_fault 2 = .ok (.putfield 22, 3) := by decide +kernel
theorem dX8_fault_5 : decode cX8_fault 5 = .ok (.aload_n 0, 1) := by decide +kernel
theorem dX8_fault_6 : decode cX8_fault 6 = .ok (.invokevirtual 261, 3) := by decide +kernel
theorem dX8_fault_9 : decode cX8_fault 9 = .ok (.ireturn, 1) := by decide +kernel
theorem dX8_does_0 : decode cX8_does 0 = .ok (.iload_n 1, 1) := by decide +kernel
theorem dX8_does_1 : decode cX8_does 1 = .ok (.lookupswitch 95 #[(107, 81), (108, 55), (116, 35)], 35) := by decide +kernel
theorem dX8_does_36 : decode cX8_does 36 = .ok (.aload_n 0, 1) := by decide +kernel
theorem dX8_does_37 : decode cX8_does 37 = .ok (.aload_n 0, 1) := by decide +kernel
theorem dX8_does_38 : decode cX8_does 38 = .ok (.getfield 19, 3) := by decide +kernel
theorem dX8_does_41 : decode cX8_does 41 = .ok (.iconst 0, 1) := by decide +kernel
theorem dX8_does_42 : decode cX8_does 42 = .ok (.iaload, 1) := by decide +kernel
theorem dX8_does_43 : decode cX8_does 43 = .ok (.aload_n 0, 1) := by decide +kernel
theorem dX8_does_44 : decode cX8_does 44 = .ok (.getfield 19, 3) := by decide +kernel
theorem dX8_does_47 : decode cX8_does 47 = .ok (.iconst 1, 1) := by decide +kernel
theorem dX8_does_48 : decode cX8_does 48 = .ok (.iaload, 1) := by decide +kernel
theorem dX8_does_49 : decode cX8_does 49 = .ok (.invokevirtual 265, 3) := by decide +kernel
theorem dX8_does_52 : decode cX8_does 52 = .ok (.pop, 1) := by decide +kernel
theorem dX8_does_53 : decode cX8_does 53 = .ok (.goto 54, 3) := by decide +kernel
theorem dX8_does_56 : decode cX8_does 56 = .ok (.aload_n 0, 1) := by decide +kernel
theorem dX8_does_57 : decode cX8_does 57 = .ok (.aload_n 0, 1) := by decide +kernel
theorem dX8_does_58 : decode cX8_does 58 = .ok (.getfield 19, 3) := by decide +kernel
theorem dX8_does_61 : decode cX8_does 61 = .ok (.iconst 0, 1) := by decide +kernel
theorem dX8_does_62 : decode cX8_does 62 = .ok (.iaload, 1) := by decide +kernel
theorem dX8_does_63 : decode cX8_does 63 = .ok (.aload_n 0, 1) := by decide +kernel
theorem dX8_does_64 : decode cX8_does 64 = .ok (.getfield 19, 3) := by decide +kernel
theorem dX8_does_67 : decode cX8_does 67 = .ok (.iconst 1, 1) := by decide +kernel
theorem dX8_does_68 : decode cX8_does 68 = .ok (.iaload, 1) := by decide +kernel
theorem dX8_does_69 : decode cX8_does 69 = .ok (.aload_n 0, 1) := by decide +kernel
theorem dX8_does_70 : decode cX8_does 70 = .ok (.getfield 19, 3) := by decide +kernel
theorem dX8_does_73 : decode cX8_does 73 = .ok (.iconst 2, 1) := by decide +kernel
theorem dX8_does_74 : decode cX8_does 74 = .ok (.iaload, 1) := by decide +kernel
theorem dX8_does_75 : decode cX8_does 75 = .ok (.invokevirtual 268, 3) := by decide +kernel
theorem dX8_does_78 : decode cX8_does 78 = .ok (.pop, 1) := by decide +kernel
theorem dX8_does_79 : decode cX8_does 79 = .ok (.goto 28, 3) := by decide +kernel
theorem dX8_does_82 : decode cX8_does 82 = .ok (.aload_n 0, 1) := by decide +kernel
theorem dX8_does_83 : decode cX8_does 83 = .ok (.aload_n 0, 1) := by decide +kernel
theorem dX8_does_84 : decode cX8_does 84 = .ok (.getfield 19, 3) := by decide +kernel
theorem dX8_does_87 : decode cX8_does 87 = .ok (.iconst 0, 1) := by decide +kernel
theorem dX8_does_88 : decode cX8_does 88 = .ok (.iaload, 1) := by decide +kernel
theorem dX8_does_89 : decode cX8_does 89 = .ok (.invokevirtual 271, 3) := by decide +kernel
theorem dX8_does_92 : decode cX8_does 92 = .ok (.pop, 1) := by decide +kernel
theorem dX8_does_93 : decode cX8_does 93 = .ok (.goto 14, 3) := by decide +kernel
theorem dX8_does_96 : decode cX8_does 96 = .ok (.aload_n 0, 1) := by decide +kernel
theorem dX8_does_97 : decode cX8_does 97 = .ok (.aload_n 0, 1) := by decide +kernel
theorem dX8_does_98 : decode cX8_does 98 = .ok (.getfield 19, 3) := by decide +kernel
theorem dX8_does_101 : decode cX8_does 101 = .ok (.iconst 0, 1) := by decide +kernel
theorem dX8_does_102 : decode cX8_does 102 = .ok (.iaload, 1) := by decide +kernel
theorem dX8_does_103 : decode cX8_does 103 = .ok (.invokevirtual 274, 3) := by decide +kernel
theorem dX8_does_106 : decode cX8_does 106 = .ok (.pop, 1) := by decide +kernel
theorem dX8_does_107 : decode cX8_does 107 = .ok (.return_, 1) := by decide +kernel
theorem dX8_run_0 : decode cX8_run 0 = .ok (.aload_n 0, 1) := by decide +kernel
theorem dX8_run_1 : decode cX8_run 1 = .ok (.aload_n 0, 1) := by decide +kernel
theorem dX8_run_2 : decode cX8_run 2 = .ok (.invokevirtual 261, 3) := by decide +kernel
theorem dX8_run_5 : decode cX8_run 5 = .ok (.ldc 105, 2) := by decide +kernel
theorem dX8_run_7 : decode cX8_run 7 = .ok (.if_icmp .ne 7, 3) := by decide +kernel
theorem dX8_run_10 : decode cX8_run 10 = .ok (.iconst 0, 1) := by decide +kernel
theorem dX8_run_11 : decode cX8_run 11 = .ok (.goto 4, 3) := by decide +kernel
theorem dX8_run_14 : decode cX8_run 14 = .ok (.iconst 1, 1) := by decide +kernel
theorem dX8_run_15 : decode cX8_run 15 = .ok (.invokevirtual 70, 3) := by decide +kernel
theorem dX8_run_18 : decode cX8_run 18 = .ok (.ifCond .eq 5, 3) := by decide +kernel
theorem dX8_run_21 : decode cX8_run 21 = .ok (.iconst 0, 1) := by decide +kernel
theorem dX8_run_22 : decode cX8_run 22 = .ok (.ireturn, 1) := by decide +kernel
theorem dX8_run_23 : decode cX8_run 23 = .ok (.aload_n 0, 1) := by decide +kernel
theorem dX8_run_24 : decode cX8_run 24 = .ok (.invokevirtual 74, 3) := by decide +kernel
theorem dX8_run_27 : decode cX8_run 27 = .ok (.aload_n 0, 1) := by decide +kernel
theorem dX8_run_28 : decode cX8_run 28 = .ok (.iconst 1, 1) := by decide +kernel
theorem dX8_run_29 : decode cX8_run 29 = .ok (.putfield 26, 3) := by decide +kernel
theorem dX8_run_32 : decode cX8_run 32 = .ok (.iconst 0, 1) := by decide +kernel
theorem dX8_run_33 : decode cX8_run 33 = .ok (.istore_n 1, 1) := by decide +kernel
theorem dX8_run_34 : decode cX8_run 34 = .ok (.aload_n 0, 1) := by decide +kernel
theorem dX8_run_35 : decode cX8_run 35 = .ok (.iconst 0, 1) := by decide +kernel
theorem dX8_run_36 : decode cX8_run 36 = .ok (.putfield 244, 3) := by decide +kernel
theorem dX8_run_39 : decode cX8_run 39 = .ok (.iconst 1, 1) := by decide +kernel
theorem dX8_run_40 : decode cX8_run 40 = .ok (.istore_n 2, 1) := by decide +kernel
theorem dX8_run_41 : decode cX8_run 41 = .ok (.iload_n 2, 1) := by decide +kernel
theorem dX8_run_42 : decode cX8_run 42 = .ok (.ifCond .eq 52, 3) := by decide +kernel
theorem dX8_run_45 : decode cX8_run 45 = .ok (.aload_n 0, 1) := by decide +kernel
theorem dX8_run_46 : decode cX8_run 46 = .ok (.getfield 244, 3) := by decide +kernel
theorem dX8_run_49 : decode cX8_run 49 = .ok (.aload_n 0, 1) := by decide +kernel
theorem dX8_run_50 : decode cX8_run 50 = .ok (.getfield 241, 3) := by decide +kernel
theorem dX8_run_53 : decode cX8_run 53 = .ok (.if_icmp .ge 41, 3) := by decide +kernel
theorem dX8_run_56 : decode cX8_run 56 = .ok (.aload_n 0, 1) := by decide +kernel
theorem dX8_run_57 : decode cX8_run 57 = .ok (.getfield 16, 3) := by decide +kernel
theorem dX8_run_60 : decode cX8_run 60 = .ok (.aload_n 0, 1) := by decide +kernel
theorem dX8_run_61 : decode cX8_run 61 = .ok (.getfield 244, 3) := by decide +kernel
theorem dX8_run_64 : decode cX8_run 64 = .ok (.iaload, 1) := by decide +kernel
theorem dX8_run_65 : decode cX8_run 65 = .ok (.istore_n 3, 1) := by decide +kernel
theorem dX8_run_66 : decode cX8_run 66 = .ok (.aload_n 0, 1) := by decide +kernel
theorem dX8_run_67 : decode cX8_run 67 = .ok (.invokevirtual 257, 3) := by decide +kernel
theorem dX8_run_70 : decode cX8_run 70 = .ok (.istore_n 2, 1) := by decide +kernel
theorem dX8_run_71 : decode cX8_run 71 = .ok (.aload_n 0, 1) := by decide +kernel
theorem dX8_run_72 : decode cX8_run 72 = .ok (.iload_n 3, 1) := by decide +kernel
theorem dX8_run_73 : decode cX8_run 73 = .ok (.invokevirtual 277, 3) := by decide +kernel
theorem dX8_run_76 : decode cX8_run 76 = .ok (.iload_n 1, 1) := by decide +kernel
theorem dX8_run_77 : decode cX8_run 77 = .ok (.aload_n 0, 1) := by decide +kernel
theorem dX8_run_78 : decode cX8_run 78 = .ok (.getfield 22, 3) := by decide +kernel
theorem dX8_run_81 : decode cX8_run 81 = .ok (.ifCond .ne 7, 3) := by decide +kernel
theorem dX8_run_84 : decode cX8_run 84 = .ok (.iconst 1, 1) := by decide +kernel
theorem dX8_run_85 : decode cX8_run 85 = .ok (.goto 4, 3) := by decide +kernel
theorem dX8_run_88 : decode cX8_run 88 = .ok (.iconst 0, 1) := by decide +kernel
theorem dX8_run_89 : decode cX8_run 89 = .ok (.iadd, 1) := by decide +kernel
theorem dX8_run_90 : decode cX8_run 90 = .ok (.istore_n 1, 1) := by decide +kernel
theorem dX8_run_91 : decode cX8_run 91 = .ok (.goto (-50), 3) := by decide +kernel
theorem dX8_run_94 : decode cX8_run 94 = .ok (.aload_n 0, 1) := by decide +kernel
theorem dX8_run_95 : decode cX8_run 95 = .ok (.iconst 0, 1) := by decide +kernel
theorem dX8_run_96 : decode cX8_run 96 = .ok (.putfield 26, 3) := by decide +kernel
theorem dX8_run_99 : decode cX8_run 99 = .ok (.aload_n 0, 1) := by decide +kernel
theorem dX8_run_100 : decode cX8_run 100 = .ok (.iconst 0, 1) := by decide +kernel
theorem dX8_run_101 : decode cX8_run 101 = .ok (.putfield 22, 3) := by decide +kernel
theorem dX8_run_104 : decode cX8_run 104 = .ok (.iload_n 1, 1) := by decide +kernel
theorem dX8_run_105 : decode cX8_run 105 = .ok (.ireturn, 1) := by decide +kernel
theorem dX8_undo_0 : decode cX8_undo 0 = .ok (.aload_n 0, 1) := by decide +kernel
theorem dX8_undo_1 : decode cX8_undo 1 = .ok (.aload_n 0, 1) := by decide +kernel
theorem dX8_undo_2 : decode cX8_undo 2 = .ok (.getfield 30, 3) := by decide +kernel
theorem dX8_undo_5 : decode cX8_undo 5 = .ok (.ifCond .ne 7, 3) := by decide +kernel
theorem dX8_undo_8 : decode cX8_undo 8 = .ok (.iconst 1, 1) := by decide +kernel
theorem dX8_undo_9 : decode cX8_undo 9 = .ok (.goto 4, 3) := by decide +kernel
theorem dX8_undo_12 : decode cX8_undo 12 = .ok (.iconst 0, 1) := by decide +kernel
theorem dX8_undo_13 : decode cX8_undo 13 = .ok (.invokevirtual 70, 3) := by decide +kernel
theorem dX8_undo_16 : decode cX8_undo 16 = .ok (.ifCond .eq 5, 3) := by decide +kernel
theorem dX8_undo_19 : decode cX8_undo 19 = .ok (.iconst 0, 1) := by decide +kernel
theorem dX8_undo_20 : decode cX8_undo 20 = .ok (.ireturn, 1) := by decide +kernel
theorem dX8_undo_21 : decode cX8_undo 21 = .ok (.aload_n 0, 1) := by decide +kernel
theorem dX8_undo_22 : decode cX8_undo 22 = .ok (.dup, 1) := by decide +kernel
theorem dX8_undo_23 : decode cX8_undo 23 = .ok (.getfield 30, 3) := by decide +kernel
theorem dX8_undo_26 : decode cX8_undo 26 = .ok (.iconst 1, 1) := by decide +kernel
theorem dX8_undo_27 : decode cX8_undo 27 = .ok (.isub, 1) := by decide +kernel
theorem dX8_undo_28 : decode cX8_undo 28 = .ok (.putfield 30, 3) := by decide +kernel
theorem dX8_undo_31 : decode cX8_undo 31 = .ok (.iconst 0, 1) := by decide +kernel
theorem dX8_undo_32 : decode cX8_undo 32 = .ok (.istore_n 1, 1) := by decide +kernel
theorem dX8_undo_33 : decode cX8_undo 33 = .ok (.iload_n 1, 1) := by decide +kernel
theorem dX8_undo_34 : decode cX8_undo 34 = .ok (.sipush 214, 3) := by decide +kernel
theorem dX8_undo_37 : decode cX8_undo 37 = .ok (.if_icmp .ge 30, 3) := by decide +kernel
theorem dX8_undo_40 : decode cX8_undo 40 = .ok (.aload_n 0, 1) := by decide +kernel
theorem dX8_undo_41 : decode cX8_undo 41 = .ok (.getfield 7, 3) := by decide +kernel
theorem dX8_undo_44 : decode cX8_undo 44 = .ok (.iload_n 1, 1) := by decide +kernel
theorem dX8_undo_45 : decode cX8_undo 45 = .ok (.aload_n 0, 1) := by decide +kernel
theorem dX8_undo_46 : decode cX8_undo 46 = .ok (.getfield 13, 3) := by decide +kernel
theorem dX8_undo_49 : decode cX8_undo 49 = .ok (.sipush 214, 3) := by decide +kernel
theorem dX8_undo_52 : decode cX8_undo 52 = .ok (.aload_n 0, 1) := by decide +kernel
theorem dX8_undo_53 : decode cX8_undo 53 = .ok (.getfield 30, 3) := by decide +kernel
theorem dX8_undo_56 : decode cX8_undo 56 = .ok (.imul, 1) := by decide +kernel
theorem dX8_undo_57 : decode cX8_undo 57 = .ok (.iload_n 1, 1) := by decide +kernel
theorem dX8_undo_58 : decode cX8_undo 58 = .ok (.iadd, 1) := by decide +kernel
theorem dX8_undo_59 : decode cX8_undo 59 = .ok (.iaload, 1) := by decide +kernel
theorem dX8_undo_60 : decode cX8_undo 60 = .ok (.iastore, 1) := by decide +kernel
theorem dX8_undo_61 : decode cX8_undo 61 = .ok (.iinc 1 1, 3) := by decide +kernel
theorem dX8_undo_64 : decode cX8_undo 64 = .ok (.goto (-31), 3) := by decide +kernel
theorem dX8_undo_67 : decode cX8_undo 67 = .ok (.aload_n 0, 1) := by decide +kernel
theorem dX8_undo_68 : decode cX8_undo 68 = .ok (.getfield 30, 3) := by decide +kernel
theorem dX8_undo_71 : decode cX8_undo 71 = .ok (.ireturn, 1) := by decide +kernel
theorem dX8_say_0 : decode cX8_say 0 = .ok (.aload_n 0, 1) := by decide +kernel
theorem dX8_say_1 : decode cX8_say 1 = .ok (.ldc2_w 281, 3) := by decide +kernel
theorem dX8_say_4 : decode cX8_say 4 = .ok (.aload_n 0, 1) := by decide +kernel
theorem dX8_say_5 : decode cX8_say 5 = .ok (.getfield 283, 3) := by decide +kernel
theorem dX8_say_8 : decode cX8_say 8 = .ok (.lmul, 1) := by decide +kernel
theorem dX8_say_9 : decode cX8_say 9 = .ok (.lload_n 1, 1) := by decide +kernel
theorem dX8_say_10 : decode cX8_say 10 = .ok (.ladd, 1) := by decide +kernel
theorem dX8_say_11 : decode cX8_say 11 = .ok (.putfield 283, 3) := by decide +kernel
theorem dX8_say_14 : decode cX8_say 14 = .ok (.return_, 1) := by decide +kernel
theorem dX8_checksum_0 : decode cX8_checksum 0 = .ok (.aload_n 0, 1) := by decide +kernel
theorem dX8_checksum_1 : decode cX8_checksum 1 = .ok (.iconst 0, 1) := by decide +kernel
theorem dX8_checksum_2 : decode cX8_checksum 2 = .ok (.putfield 22, 3) := by decide +kernel
theorem dX8_checksum_5 : decode cX8_checksum 5 = .ok (.aload_n 0, 1) := by decide +kernel
theorem dX8_checksum_6 : decode cX8_checksum 6 = .ok (.ldc2_w 287, 3) := by decide +kernel
theorem dX8_checksum_9 : decode cX8_checksum 9 = .ok (.putfield 283, 3) := by decide +kernel
theorem dX8_checksum_12 : decode cX8_checksum 12 = .ok (.iconst 0, 1) := by decide +kernel
theorem dX8_checksum_13 : decode cX8_checksum 13 = .ok (.istore_n 1, 1) := by decide +kernel
theorem dX8_checksum_14 : decode cX8_checksum 14 = .ok (.iload_n 1, 1) := by decide +kernel
theorem dX8_checksum_15 : decode cX8_checksum 15 = .ok (.bipush 8, 2) := by decide +kernel
theorem dX8_checksum_17 : decode cX8_checksum 17 = .ok (.if_icmp .ge 19, 3) := by decide +kernel
theorem dX8_checksum_20 : decode cX8_checksum 20 = .ok (.aload_n 0, 1) := by decide +kernel
theorem dX8_checksum_21 : decode cX8_checksum 21 = .ok (.aload_n 0, 1) := by decide +kernel
theorem dX8_checksum_22 : decode cX8_checksum 22 = .ok (.iload_n 1, 1) := by decide +kernel
theorem dX8_checksum_23 : decode cX8_checksum 23 = .ok (.invokevirtual 86, 3) := by decide +kernel
theorem dX8_checksum_26 : decode cX8_checksum 26 = .ok (.i2l, 1) := by decide +kernel
theorem dX8_checksum_27 : decode cX8_checksum 27 = .ok (.invokevirtual 289, 3) := by decide +kernel
theorem dX8_checksum_30 : decode cX8_checksum 30 = .ok (.iinc 1 1, 3) := by decide +kernel
theorem dX8_checksum_33 : decode cX8_checksum 33 = .ok (.goto (-19), 3) := by decide +kernel
theorem dX8_checksum_36 : decode cX8_checksum 36 = .ok (.iconst 0, 1) := by decide +kernel
theorem dX8_checksum_37 : decode cX8_checksum 37 = .ok (.istore_n 1, 1) := by decide +kernel
theorem dX8_checksum_38 : decode cX8_checksum 38 = .ok (.iload_n 1, 1) := by decide +kernel
theorem dX8_checksum_39 : decode cX8_checksum 39 = .ok (.bipush 6, 2) := by decide +kernel
theorem dX8_checksum_41 : decode cX8_checksum 41 = .ok (.aload_n 0, 1) := by decide +kernel
theorem dX8_checksum_42 : decode cX8_checksum 42 = .ok (.getfield 7, 3) := by decide +kernel
theorem dX8_checksum_45 : decode cX8_checksum 45 = .ok (.iconst 3, 1) := by decide +kernel
theorem dX8_checksum_46 : decode cX8_checksum 46 = .ok (.iaload, 1) := by decide +kernel
theorem dX8_checksum_47 : decode cX8_checksum 47 = .ok (.imul, 1) := by decide +kernel
theorem dX8_checksum_48 : decode cX8_checksum 48 = .ok (.if_icmp .ge 26, 3) := by decide +kernel
theorem dX8_checksum_51 : decode cX8_checksum 51 = .ok (.aload_n 0, 1) := by decide +kernel
theorem dX8_checksum_52 : decode cX8_checksum 52 = .ok (.aload_n 0, 1) := by decide +kernel
theorem dX8_checksum_53 : decode cX8_checksum 53 = .ok (.iload_n 1, 1) := by decide +kernel
theorem dX8_checksum_54 : decode cX8_checksum 54 = .ok (.bipush 6, 2) := by decide +kernel
theorem dX8_checksum_56 : decode cX8_checksum 56 = .ok (.idiv, 1) := by decide +kernel
theorem dX8_checksum_57 : decode cX8_checksum 57 = .ok (.iload_n 1, 1) := by decide +kernel
theorem dX8_checksum_58 : decode cX8_checksum 58 = .ok (.bipush 6, 2) := by decide +kernel
theorem dX8_checksum_60 : decode cX8_checksum 60 = .ok (.irem, 1) := by decide +kernel
theorem dX8_checksum_61 : decode cX8_checksum 61 = .ok (.invokevirtual 114, 3) := by decide +kernel
theorem dX8_checksum_64 : decode cX8_checksum 64 = .ok (.i2l, 1) := by decide +kernel
theorem dX8_checksum_65 : decode cX8_checksum 65 = .ok (.invokevirtual 289, 3) := by decide +kernel
theorem dX8_checksum_68 : decode cX8_checksum 68 = .ok (.iinc 1 1, 3) := by decide +kernel
theorem dX8_checksum_71 : decode cX8_checksum 71 = .ok (.goto (-33), 3) := by decide +kernel
theorem dX8_checksum_74 : decode cX8_checksum 74 = .ok (.iconst 0, 1) := by decide +kernel
theorem dX8_checksum_75 : decode cX8_checksum 75 = .ok (.istore_n 1, 1) := by decide +kernel
theorem dX8_checksum_76 : decode cX8_checksum 76 = .ok (.iload_n 1, 1) := by decide +kernel
theorem dX8_checksum_77 : decode cX8_checksum 77 = .ok (.bipush 8, 2) := by decide +kernel
theorem dX8_checksum_79 : decode cX8_checksum 79 = .ok (.aload_n 0, 1) := by decide +kernel
theorem dX8_checksum_80 : decode cX8_checksum 80 = .ok (.getfield 7, 3) := by decide +kernel
theorem dX8_checksum_83 : decode cX8_checksum 83 = .ok (.iconst 4, 1) := by decide +kernel
theorem dX8_checksum_84 : decode cX8_checksum 84 = .ok (.iaload, 1) := by decide +kernel
theorem dX8_checksum_85 : decode cX8_checksum 85 = .ok (.imul, 1) := by decide +kernel
theorem dX8_checksum_86 : decode cX8_checksum 86 = .ok (.if_icmp .ge 26, 3) := by decide +kernel
theorem dX8_checksum_89 : decode cX8_checksum 89 = .ok (.aload_n 0, 1) := by decide +kernel
theorem dX8_checksum_90 : decode cX8_checksum 90 = .ok (.aload_n 0, 1) := by decide +kernel
theorem dX8_checksum_91 : decode cX8_checksum 91 = .ok (.iload_n 1, 1) := by decide +kernel
theorem dX8_checksum_92 : decode cX8_checksum 92 = .ok (.bipush 8, 2) := by decide +kernel
theorem dX8_checksum_94 : decode cX8_checksum 94 = .ok (.idiv, 1) := by decide +kernel
theorem dX8_checksum_95 : decode cX8_checksum 95 = .ok (.iload_n 1, 1) := by decide +kernel
theorem dX8_checksum_96 : decode cX8_checksum 96 = .ok (.bipush 8, 2) := by decide +kernel
theorem dX8_checksum_98 : decode cX8_checksum 98 = .ok (.irem, 1) := by decide +kernel
theorem dX8_checksum_99 : decode cX8_checksum 99 = .ok (.invokevirtual 150, 3) := by decide +kernel
theorem dX8_checksum_102 : decode cX8_checksum 102 = .ok (.i2l, 1) := by decide +kernel
theorem dX8_checksum_103 : decode cX8_checksum 103 = .ok (.invokevirtual 289, 3) := by decide +kernel
theorem dX8_checksum_106 : decode cX8_checksum 106 = .ok (.iinc 1 1, 3) := by decide +kernel
theorem dX8_checksum_109 : decode cX8_checksum 109 = .ok (.goto (-33), 3) := by decide +kernel
theorem dX8_checksum_112 : decode cX8_checksum 112 = .ok (.iconst 0, 1) := by decide +kernel
theorem dX8_checksum_113 : decode cX8_checksum 113 = .ok (.istore_n 1, 1) := by decide +kernel
theorem dX8_checksum_114 : decode cX8_checksum 114 = .ok (.iload_n 1, 1) := by decide +kernel
theorem dX8_checksum_115 : decode cX8_checksum 115 = .ok (.aload_n 0, 1) := by decide +kernel
theorem dX8_checksum_116 : decode cX8_checksum 116 = .ok (.getfield 7, 3) := by decide +kernel
theorem dX8_checksum_119 : decode cX8_checksum 119 = .ok (.iconst 5, 1) := by decide +kernel
theorem dX8_checksum_120 : decode cX8_checksum 120 = .ok (.iaload, 1) := by decide +kernel
theorem dX8_checksum_121 : decode cX8_checksum 121 = .ok (.if_icmp .ge 103, 3) := by decide +kernel
theorem dX8_checksum_124 : decode cX8_checksum 124 = .ok (.iconst 0, 1) := by decide +kernel
theorem dX8_checksum_125 : decode cX8_checksum 125 = .ok (.istore_n 2, 1) := by decide +kernel
theorem dX8_checksum_126 : decode cX8_checksum 126 = .ok (.iload_n 2, 1) := by decide +kernel
theorem dX8_checksum_127 : decode cX8_checksum 127 = .ok (.bipush 10, 2) := by decide +kernel
theorem dX8_checksum_129 : decode cX8_checksum 129 = .ok (.if_icmp .ge 20, 3) := by decide +kernel
theorem dX8_checksum_132 : decode cX8_checksum 132 = .ok (.aload_n 0, 1) := by decide +kernel
theorem dX8_checksum_133 : decode cX8_checksum 133 = .ok (.aload_n 0, 1) := by decide +kernel
theorem dX8_checksum_134 : decode cX8_checksum 134 = .ok (.iload_n 1, 1) := by decide +kernel
theorem dX8_checksum_135 : decode cX8_checksum 135 = .ok (.iload_n 2, 1) := by decide +kernel
theorem dX8_checksum_136 : decode cX8_checksum 136 = .ok (.invokevirtual 208, 3) := by decide +kernel
theorem dX8_checksum_139 : decode cX8_checksum 139 = .ok (.i2l, 1) := by decide +kernel
theorem dX8_checksum_140 : decode cX8_checksum 140 = .ok (.invokevirtual 289, 3) := by decide +kernel
theorem dX8_checksum_143 : decode cX8_checksum 143 = .ok (.iinc 2 1, 3) := by decide +kernel
theorem dX8_checksum_146 : decode cX8_checksum 146 = .ok (.goto (-20), 3) := by decide +kernel
theorem dX8_checksum_149 : decode cX8_checksum 149 = .ok (.iconst 0, 1) := by decide +kernel
theorem dX8_checksum_150 : decode cX8_checksum 150 = .ok (.istore_n 2, 1) := by decide +kernel
theorem dX8_checksum_151 : decode cX8_checksum 151 = .ok (.iload_n 2, 1) := by decide +kernel
theorem dX8_checksum_152 : decode cX8_checksum 152 = .ok (.iconst 5, 1) := by decide +kernel
theorem dX8_checksum_153 : decode cX8_checksum 153 = .ok (.aload_n 0, 1) := by decide +kernel
theorem dX8_checksum_154 : decode cX8_checksum 154 = .ok (.iload_n 1, 1) := by decide +kernel
theorem dX8_checksum_155 : decode cX8_checksum 155 = .ok (.invokevirtual 77, 3) := by decide +kernel
theorem dX8_checksum_158 : decode cX8_checksum 158 = .ok (.imul, 1) := by decide +kernel
theorem dX8_checksum_159 : decode cX8_checksum 159 = .ok (.if_icmp .ge 25, 3) := by decide +kernel
theorem dX8_checksum_162 : decode cX8_checksum 162 = .ok (.aload_n 0, 1) := by decide +kernel
theorem dX8_checksum_163 : decode cX8_checksum 163 = .ok (.aload_n 0, 1) := by decide +kernel
theorem dX8_checksum_164 : decode cX8_checksum 164 = .ok (.iload_n 1, 1) := by decide +kernel
theorem dX8_checksum_165 : decode cX8_checksum 165 = .ok (.iload_n 2, 1) := by decide +kernel
theorem dX8_checksum_166 : decode cX8_checksum 166 = .ok (.iconst 5, 1) := by decide +kernel
theorem dX8_checksum_167 : decode cX8_checksum 167 = .ok (.idiv, 1) := by decide +kernel
theorem dX8_checksum_168 : decode cX8_checksum 168 = .ok (.iload_n 2, 1) := by decide +kernel
theorem dX8_checksum_169 : decode cX8_checksum 169 = .ok (.iconst 5, 1) := by decide +kernel
theorem dX8_checksum_170 : decode cX8_checksum 170 = .ok (.irem, 1) := by decide +kernel
theorem dX8_checksum_171 : decode cX8_checksum 171 = .ok (.invokevirtual 213, 3) := by decide +kernel
theorem dX8_checksum_174 : decode cX8_checksum 174 = .ok (.i2l, 1) := by decide +kernel
theorem dX8_checksum_175 : decode cX8_checksum 175 = .ok (.invokevirtual 289, 3) := by decide +kernel
theorem dX8_checksum_178 : decode cX8_checksum 178 = .ok (.iinc 2 1, 3) := by decide +kernel
theorem dX8_checksum_181 : decode cX8_checksum 181 = .ok (.goto (-30), 3) := by decide +kernel
theorem dX8_checksum_184 : decode cX8_checksum 184 = .ok (.aload_n 0, 1) := by decide +kernel
theorem dX8_checksum_185 : decode cX8_checksum 185 = .ok (.aload_n 0, 1) := by decide +kernel
theorem dX8_checksum_186 : decode cX8_checksum 186 = .ok (.iload_n 1, 1) := by decide +kernel
theorem dX8_checksum_187 : decode cX8_checksum 187 = .ok (.invokevirtual 232, 3) := by decide +kernel
theorem dX8_checksum_190 : decode cX8_checksum 190 = .ok (.i2l, 1) := by decide +kernel
theorem dX8_checksum_191 : decode cX8_checksum 191 = .ok (.invokevirtual 289, 3) := by decide +kernel
theorem dX8_checksum_194 : decode cX8_checksum 194 = .ok (.iconst 0, 1) := by decide +kernel
theorem dX8_checksum_195 : decode cX8_checksum 195 = .ok (.istore_n 2, 1) := by decide +kernel
theorem dX8_checksum_196 : decode cX8_checksum 196 = .ok (.iload_n 2, 1) := by decide +kernel
theorem dX8_checksum_197 : decode cX8_checksum 197 = .ok (.iconst 3, 1) := by decide +kernel
theorem dX8_checksum_198 : decode cX8_checksum 198 = .ok (.if_icmp .ge 20, 3) := by decide +kernel
theorem dX8_checksum_201 : decode cX8_checksum 201 = .ok (.aload_n 0, 1) := by decide +kernel
theorem dX8_checksum_202 : decode cX8_checksum 202 = .ok (.aload_n 0, 1) := by decide +kernel
theorem dX8_checksum_203 : decode cX8_checksum 203 = .ok (.iload_n 1, 1) := by decide +kernel
theorem dX8_checksum_204 : decode cX8_checksum 204 = .ok (.iload_n 2, 1) := by decide +kernel
theorem dX8_checksum_205 : decode cX8_checksum 205 = .ok (.invokevirtual 217, 3) := by decide +kernel
theorem dX8_checksum_208 : decode cX8_checksum 208 = .ok (.i2l, 1) := by decide +kernel
theorem dX8_checksum_209 : decode cX8_checksum 209 = .ok (.invokevirtual 289, 3) := by decide +kernel
theorem dX8_checksum_212 : decode cX8_checksum 212 = .ok (.iinc 2 1, 3) := by decide +kernel
theorem dX8_checksum_215 : decode cX8_checksum 215 = .ok (.goto (-19), 3) := by decide +kernel
theorem dX8_checksum_218 : decode cX8_checksum 218 = .ok (.iinc 1 1, 3) := by decide +kernel
theorem dX8_checksum_221 : decode cX8_checksum 221 = .ok (.goto (-107), 3) := by decide +kernel
theorem dX8_checksum_224 : decode cX8_checksum 224 = .ok (.aload_n 0, 1) := by decide +kernel
theorem dX8_checksum_225 : decode cX8_checksum 225 = .ok (.aload_n 0, 1) := by decide +kernel
theorem dX8_checksum_226 : decode cX8_checksum 226 = .ok (.getfield 241, 3) := by decide +kernel
theorem dX8_checksum_229 : decode cX8_checksum 229 = .ok (.i2l, 1) := by decide +kernel
theorem dX8_checksum_230 : decode cX8_checksum 230 = .ok (.invokevirtual 289, 3) := by decide +kernel
theorem dX8_checksum_233 : decode cX8_checksum 233 = .ok (.aload_n 0, 1) := by decide +kernel
theorem dX8_checksum_234 : decode cX8_checksum 234 = .ok (.aload_n 0, 1) := by decide +kernel
theorem dX8_checksum_235 : decode cX8_checksum 235 = .ok (.getfield 30, 3) := by decide +kernel
theorem dX8_checksum_238 : decode cX8_checksum 238 = .ok (.i2l, 1) := by decide +kernel
theorem dX8_checksum_239 : decode cX8_checksum 239 = .ok (.invokevirtual 289, 3) := by decide +kernel
theorem dX8_checksum_242 : decode cX8_checksum 242 = .ok (.aload_n 0, 1) := by decide +kernel
theorem dX8_checksum_243 : decode cX8_checksum 243 = .ok (.getfield 283, 3) := by decide +kernel
theorem dX8_checksum_246 : decode cX8_checksum 246 = .ok (.lreturn, 1) := by decide +kernel
theorem dL_set_0 : decode cL_set 0 = .ok (.aload_n 3, 1) := by decide +kernel
theorem dL_set_1 : decode cL_set 1 = .ok (.iconst 0, 1) := by decide +kernel
theorem dL_set_2 : decode cL_set 2 = .ok (.aload_n 0, 1) := by decide +kernel
theorem dL_set_3 : decode cL_set 3 = .ok (.iload_n 1, 1) := by decide +kernel
theorem dL_set_4 : decode cL_set 4 = .ok (.iload_n 2, 1) := by decide +kernel
theorem dL_set_5 : decode cL_set 5 = .ok (.invokevirtual 7, 3) := by decide +kernel
theorem dL_set_8 : decode cL_set 8 = .ok (.i2l, 1) := by decide +kernel
theorem dL_set_9 : decode cL_set 9 = .ok (.lastore, 1) := by decide +kernel
theorem dL_set_10 : decode cL_set 10 = .ok (.goto 7, 3) := by decide +kernel
theorem dL_set_13 : decode cL_set 13 = .ok (.astore 4, 2) := by decide +kernel
theorem dL_set_15 : decode cL_set 15 = .ok (.iconst 1, 1) := by decide +kernel
theorem dL_set_16 : decode cL_set 16 = .ok (.ireturn, 1) := by decide +kernel
theorem dL_set_17 : decode cL_set 17 = .ok (.iconst 0, 1) := by decide +kernel
theorem dL_set_18 : decode cL_set 18 = .ok (.ireturn, 1) := by decide +kernel
theorem dL_info_0 : decode cL_info 0 = .ok (.aload_n 2, 1) := by decide +kernel
theorem dL_info_1 : decode cL_info 1 = .ok (.iconst 0, 1) := by decide +kernel
theorem dL_info_2 : decode cL_info 2 = .ok (.aload_n 0, 1) := by decide +kernel
theorem dL_info_3 : decode cL_info 3 = .ok (.iload_n 1, 1) := by decide +kernel
theorem dL_info_4 : decode cL_info 4 = .ok (.invokevirtual 15, 3) := by decide +kernel
theorem dL_info_7 : decode cL_info 7 = .ok (.i2l, 1) := by decide +kernel
theorem dL_info_8 : decode cL_info 8 = .ok (.lastore, 1) := by decide +kernel
theorem dL_info_9 : decode cL_info 9 = .ok (.goto 6, 3) := by decide +kernel
theorem dL_info_12 : decode cL_info 12 = .ok (.astore_n 3, 1) := by decide +kernel
theorem dL_info_13 : decode cL_info 13 = .ok (.iconst 1, 1) := by decide +kernel
theorem dL_info_14 : decode cL_info 14 = .ok (.ireturn, 1) := by decide +kernel
theorem dL_info_15 : decode cL_info 15 = .ok (.iconst 0, 1) := by decide +kernel
theorem dL_info_16 : decode cL_info 16 = .ok (.ireturn, 1) := by decide +kernel
theorem dL_hang_0 : decode cL_hang 0 = .ok (.aload_n 3, 1) := by decide +kernel
theorem dL_hang_1 : decode cL_hang 1 = .ok (.iconst 0, 1) := by decide +kernel
theorem dL_hang_2 : decode cL_hang 2 = .ok (.aload_n 0, 1) := by decide +kernel
theorem dL_hang_3 : decode cL_hang 3 = .ok (.iload_n 1, 1) := by decide +kernel
theorem dL_hang_4 : decode cL_hang 4 = .ok (.iload_n 2, 1) := by decide +kernel
theorem dL_hang_5 : decode cL_hang 5 = .ok (.invokevirtual 19, 3) := by decide +kernel
theorem dL_hang_8 : decode cL_hang 8 = .ok (.i2l, 1) := by decide +kernel
theorem dL_hang_9 : decode cL_hang 9 = .ok (.lastore, 1) := by decide +kernel
theorem dL_hang_10 : decode cL_hang 10 = .ok (.goto 11, 3) := by decide +kernel
theorem dL_hang_13 : decode cL_hang 13 = .ok (.astore 4, 2) := by decide +kernel
theorem dL_hang_15 : decode cL_hang 15 = .ok (.iconst 1, 1) := by decide +kernel
theorem dL_hang_16 : decode cL_hang 16 = .ok (.ireturn, 1) := by decide +kernel
theorem dL_hang_17 : decode cL_hang 17 = .ok (.astore 4, 2) := by decide +kernel
theorem dL_hang_19 : decode cL_hang 19 = .ok (.iconst 2, 1) := by decide +kernel
theorem dL_hang_20 : decode cL_hang 20 = .ok (.ireturn, 1) := by decide +kernel
theorem dL_hang_21 : decode cL_hang 21 = .ok (.iconst 0, 1) := by decide +kernel
theorem dL_hang_22 : decode cL_hang 22 = .ok (.ireturn, 1) := by decide +kernel
theorem dL_swing_0 : decode cL_swing 0 = .ok (.aload_n 3, 1) := by decide +kernel
theorem dL_swing_1 : decode cL_swing 1 = .ok (.iconst 0, 1) := by decide +kernel
theorem dL_swing_2 : decode cL_swing 2 = .ok (.aload_n 0, 1) := by decide +kernel
theorem dL_swing_3 : decode cL_swing 3 = .ok (.iload_n 1, 1) := by decide +kernel
theorem dL_swing_4 : decode cL_swing 4 = .ok (.iload_n 2, 1) := by decide +kernel
theorem dL_swing_5 : decode cL_swing 5 = .ok (.invokevirtual 24, 3) := by decide +kernel
theorem dL_swing_8 : decode cL_swing 8 = .ok (.i2l, 1) := by decide +kernel
theorem dL_swing_9 : decode cL_swing 9 = .ok (.lastore, 1) := by decide +kernel
theorem dL_swing_10 : decode cL_swing 10 = .ok (.goto 15, 3) := by decide +kernel
theorem dL_swing_13 : decode cL_swing 13 = .ok (.astore 4, 2) := by decide +kernel
theorem dL_swing_15 : decode cL_swing 15 = .ok (.iconst 1, 1) := by decide +kernel
theorem dL_swing_16 : decode cL_swing 16 = .ok (.ireturn, 1) := by decide +kernel
theorem dL_swing_17 : decode cL_swing 17 = .ok (.astore 4, 2) := by decide +kernel
theorem dL_swing_19 : decode cL_swing 19 = .ok (.iconst 2, 1) := by decide +kernel
theorem dL_swing_20 : decode cL_swing 20 = .ok (.ireturn, 1) := by decide +kernel
theorem dL_swing_21 : decode cL_swing 21 = .ok (.astore 4, 2) := by decide +kernel
theorem dL_swing_23 : decode cL_swing 23 = .ok (.iconst 3, 1) := by decide +kernel
theorem dL_swing_24 : decode cL_swing 24 = .ok (.ireturn, 1) := by decide +kernel
theorem dL_swing_25 : decode cL_swing 25 = .ok (.iconst 0, 1) := by decide +kernel
theorem dL_swing_26 : decode cL_swing 26 = .ok (.ireturn, 1) := by decide +kernel
theorem dL_still_0 : decode cL_still 0 = .ok (.aload_n 2, 1) := by decide +kernel
theorem dL_still_1 : decode cL_still 1 = .ok (.iconst 0, 1) := by decide +kernel
theorem dL_still_2 : decode cL_still 2 = .ok (.aload_n 0, 1) := by decide +kernel
theorem dL_still_3 : decode cL_still 3 = .ok (.iload_n 1, 1) := by decide +kernel
theorem dL_still_4 : decode cL_still 4 = .ok (.invokevirtual 29, 3) := by decide +kernel
theorem dL_still_7 : decode cL_still 7 = .ok (.i2l, 1) := by decide +kernel
theorem dL_still_8 : decode cL_still 8 = .ok (.lastore, 1) := by decide +kernel
theorem dL_still_9 : decode cL_still 9 = .ok (.goto 6, 3) := by decide +kernel
theorem dL_still_12 : decode cL_still 12 = .ok (.astore_n 3, 1) := by decide +kernel
theorem dL_still_13 : decode cL_still 13 = .ok (.iconst 1, 1) := by decide +kernel
theorem dL_still_14 : decode cL_still 14 = .ok (.ireturn, 1) := by decide +kernel
theorem dL_still_15 : decode cL_still 15 = .ok (.iconst 0, 1) := by decide +kernel
theorem dL_still_16 : decode cL_still 16 = .ok (.ireturn, 1) := by decide +kernel
theorem dL_wire_0 : decode cL_wire 0 = .ok (.aload_n 3, 1) := by decide +kernel
theorem dL_wire_1 : decode cL_wire 1 = .ok (.iconst 0, 1) := by decide +kernel
theorem dL_wire_2 : decode cL_wire 2 = .ok (.aload_n 0, 1) := by decide +kernel
theorem dL_wire_3 : decode cL_wire 3 = .ok (.iload_n 1, 1) := by decide +kernel
theorem dL_wire_4 : decode cL_wire 4 = .ok (.iload_n 2, 1) := by decide +kernel
theorem dL_wire_5 : decode cL_wire 5 = .ok (.invokevirtual 32, 3) := by decide +kernel
theorem dL_wire_8 : decode cL_wire 8 = .ok (.i2l, 1) := by decide +kernel
theorem dL_wire_9 : decode cL_wire 9 = .ok (.lastore, 1) := by decide +kernel
theorem dL_wire_10 : decode cL_wire 10 = .ok (.goto 11, 3) := by decide +kernel
theorem dL_wire_13 : decode cL_wire 13 = .ok (.astore 4, 2) := by decide +kernel
theorem dL_wire_15 : decode cL_wire 15 = .ok (.iconst 1, 1) := by decide +kernel
theorem dL_wire_16 : decode cL_wire 16 = .ok (.ireturn, 1) := by decide +kernel
theorem dL_wire_17 : decode cL_wire 17 = .ok (.astore 4, 2) := by decide +kernel
theorem dL_wire_19 : decode cL_wire 19 = .ok (.iconst 2, 1) := by decide +kernel
theorem dL_wire_20 : decode cL_wire 20 = .ok (.ireturn, 1) := by decide +kernel
theorem dL_wire_21 : decode cL_wire 21 = .ok (.iconst 0, 1) := by decide +kernel
theorem dL_wire_22 : decode cL_wire 22 = .ok (.ireturn, 1) := by decide +kernel
theorem dL_join_0 : decode cL_join 0 = .ok (.aload 7, 2) := by decide +kernel
theorem dL_join_2 : decode cL_join 2 = .ok (.iconst 0, 1) := by decide +kernel
theorem dL_join_3 : decode cL_join 3 = .ok (.aload_n 0, 1) := by decide +kernel
theorem dL_join_4 : decode cL_join 4 = .ok (.iload_n 1, 1) := by decide +kernel
theorem dL_join_5 : decode cL_join 5 = .ok (.iload_n 2, 1) := by decide +kernel
theorem dL_join_6 : decode cL_join 6 = .ok (.iload_n 3, 1) := by decide +kernel
theorem dL_join_7 : decode cL_join 7 = .ok (.iload 4, 2) := by decide +kernel
theorem dL_join_9 : decode cL_join 9 = .ok (.iload 5, 2) := by decide +kernel
theorem dL_join_11 : decode cL_join 11 = .ok (.iload 6, 2) := by decide +kernel
theorem dL_join_13 : decode cL_join 13 = .ok (.invokevirtual 35, 3) := by decide +kernel
theorem dL_join_16 : decode cL_join 16 = .ok (.i2l, 1) := by decide +kernel
theorem dL_join_17 : decode cL_join 17 = .ok (.lastore, 1) := by decide +kernel
theorem dL_join_18 : decode cL_join 18 = .ok (.goto 15, 3) := by decide +kernel
theorem dL_join_21 : decode cL_join 21 = .ok (.astore 8, 2) := by decide +kernel
theorem dL_join_23 : decode cL_join 23 = .ok (.iconst 1, 1) := by decide +kernel
theorem dL_join_24 : decode cL_join 24 = .ok (.ireturn, 1) := by decide +kernel
theorem dL_join_25 : decode cL_join 25 = .ok (.astore 8, 2) := by decide +kernel
theorem dL_join_27 : decode cL_join 27 = .ok (.iconst 2, 1) := by decide +kernel
theorem dL_join_28 : decode cL_join 28 = .ok (.ireturn, 1) := by decide +kernel
theorem dL_join_29 : decode cL_join 29 = .ok (.astore 8, 2) := by decide +kernel
theorem dL_join_31 : decode cL_join 31 = .ok (.iconst 3, 1) := by decide +kernel
theorem dL_join_32 : decode cL_join 32 = .ok (.ireturn, 1) := by decide +kernel
theorem dL_join_33 : decode cL_join 33 = .ok (.iconst 0, 1) := by decide +kernel
theorem dL_join_34 : decode cL_join 34 = .ok (.ireturn, 1) := by decide +kernel
theorem dL_measure_0 : decode cL_measure 0 = .ok (.aload_n 3, 1) := by decide +kernel
theorem dL_measure_1 : decode cL_measure 1 = .ok (.iconst 0, 1) := by decide +kernel
theorem dL_measure_2 : decode cL_measure 2 = .ok (.aload_n 0, 1) := by decide +kernel
theorem dL_measure_3 : decode cL_measure 3 = .ok (.iload_n 1, 1) := by decide +kernel
theorem dL_measure_4 : decode cL_measure 4 = .ok (.iload_n 2, 1) := by decide +kernel
theorem dL_measure_5 : decode cL_measure 5 = .ok (.invokevirtual 39, 3) := by decide +kernel
theorem dL_measure_8 : decode cL_measure 8 = .ok (.i2l, 1) := by decide +kernel
theorem dL_measure_9 : decode cL_measure 9 = .ok (.lastore, 1) := by decide +kernel
theorem dL_measure_10 : decode cL_measure 10 = .ok (.goto 11, 3) := by decide +kernel
theorem dL_measure_13 : decode cL_measure 13 = .ok (.astore 4, 2) := by decide +kernel
theorem dL_measure_15 : decode cL_measure 15 = .ok (.iconst 1, 1) := by decide +kernel
theorem dL_measure_16 : decode cL_measure 16 = .ok (.ireturn, 1) := by decide +kernel
theorem dL_measure_17 : decode cL_measure 17 = .ok (.astore 4, 2) := by decide +kernel
theorem dL_measure_19 : decode cL_measure 19 = .ok (.iconst 2, 1) := by decide +kernel
theorem dL_measure_20 : decode cL_measure 20 = .ok (.ireturn, 1) := by decide +kernel
theorem dL_measure_21 : decode cL_measure 21 = .ok (.iconst 0, 1) := by decide +kernel
theorem dL_measure_22 : decode cL_measure 22 = .ok (.ireturn, 1) := by decide +kernel
theorem dL_joinOf_0 : decode cL_joinOf 0 = .ok (.aload_n 3, 1) := by decide +kernel
theorem dL_joinOf_1 : decode cL_joinOf 1 = .ok (.iconst 0, 1) := by decide +kernel
theorem dL_joinOf_2 : decode cL_joinOf 2 = .ok (.aload_n 0, 1) := by decide +kernel
theorem dL_joinOf_3 : decode cL_joinOf 3 = .ok (.iload_n 1, 1) := by decide +kernel
theorem dL_joinOf_4 : decode cL_joinOf 4 = .ok (.iload_n 2, 1) := by decide +kernel
theorem dL_joinOf_5 : decode cL_joinOf 5 = .ok (.invokevirtual 42, 3) := by decide +kernel
theorem dL_joinOf_8 : decode cL_joinOf 8 = .ok (.i2l, 1) := by decide +kernel
theorem dL_joinOf_9 : decode cL_joinOf 9 = .ok (.lastore, 1) := by decide +kernel
theorem dL_joinOf_10 : decode cL_joinOf 10 = .ok (.goto 11, 3) := by decide +kernel
theorem dL_joinOf_13 : decode cL_joinOf 13 = .ok (.astore 4, 2) := by decide +kernel
theorem dL_joinOf_15 : decode cL_joinOf 15 = .ok (.iconst 1, 1) := by decide +kernel
theorem dL_joinOf_16 : decode cL_joinOf 16 = .ok (.ireturn, 1) := by decide +kernel
theorem dL_joinOf_17 : decode cL_joinOf 17 = .ok (.astore 4, 2) := by decide +kernel
theorem dL_joinOf_19 : decode cL_joinOf 19 = .ok (.iconst 2, 1) := by decide +kernel
theorem dL_joinOf_20 : decode cL_joinOf 20 = .ok (.ireturn, 1) := by decide +kernel
theorem dL_joinOf_21 : decode cL_joinOf 21 = .ok (.iconst 0, 1) := by decide +kernel
theorem dL_joinOf_22 : decode cL_joinOf 22 = .ok (.ireturn, 1) := by decide +kernel
theorem dL_begin_0 : decode cL_begin 0 = .ok (.aload_n 2, 1) := by decide +kernel
theorem dL_begin_1 : decode cL_begin 1 = .ok (.iconst 0, 1) := by decide +kernel
theorem dL_begin_2 : decode cL_begin 2 = .ok (.aload_n 0, 1) := by decide +kernel
theorem dL_begin_3 : decode cL_begin 3 = .ok (.iload_n 1, 1) := by decide +kernel
theorem dL_begin_4 : decode cL_begin 4 = .ok (.invokevirtual 45, 3) := by decide +kernel
theorem dL_begin_7 : decode cL_begin 7 = .ok (.i2l, 1) := by decide +kernel
theorem dL_begin_8 : decode cL_begin 8 = .ok (.lastore, 1) := by decide +kernel
theorem dL_begin_9 : decode cL_begin 9 = .ok (.goto 9, 3) := by decide +kernel
theorem dL_begin_12 : decode cL_begin 12 = .ok (.astore_n 3, 1) := by decide +kernel
theorem dL_begin_13 : decode cL_begin 13 = .ok (.iconst 1, 1) := by decide +kernel
theorem dL_begin_14 : decode cL_begin 14 = .ok (.ireturn, 1) := by decide +kernel
theorem dL_begin_15 : decode cL_begin 15 = .ok (.astore_n 3, 1) := by decide +kernel
theorem dL_begin_16 : decode cL_begin 16 = .ok (.iconst 2, 1) := by decide +kernel
theorem dL_begin_17 : decode cL_begin 17 = .ok (.ireturn, 1) := by decide +kernel
theorem dL_begin_18 : decode cL_begin 18 = .ok (.iconst 0, 1) := by decide +kernel
theorem dL_begin_19 : decode cL_begin 19 = .ok (.ireturn, 1) := by decide +kernel
theorem dL_addLeg_0 : decode cL_addLeg 0 = .ok (.aload 4, 2) := by decide +kernel
theorem dL_addLeg_2 : decode cL_addLeg 2 = .ok (.iconst 0, 1) := by decide +kernel
theorem dL_addLeg_3 : decode cL_addLeg 3 = .ok (.aload_n 0, 1) := by decide +kernel
theorem dL_addLeg_4 : decode cL_addLeg 4 = .ok (.iload_n 1, 1) := by decide +kernel
theorem dL_addLeg_5 : decode cL_addLeg 5 = .ok (.iload_n 2, 1) := by decide +kernel
theorem dL_addLeg_6 : decode cL_addLeg 6 = .ok (.iload_n 3, 1) := by decide +kernel
theorem dL_addLeg_7 : decode cL_addLeg 7 = .ok (.invokevirtual 48, 3) := by decide +kernel
theorem dL_addLeg_10 : decode cL_addLeg 10 = .ok (.i2l, 1) := by decide +kernel
theorem dL_addLeg_11 : decode cL_addLeg 11 = .ok (.lastore, 1) := by decide +kernel
theorem dL_addLeg_12 : decode cL_addLeg 12 = .ok (.goto 15, 3) := by decide +kernel
theorem dL_addLeg_15 : decode cL_addLeg 15 = .ok (.astore 5, 2) := by decide +kernel
theorem dL_addLeg_17 : decode cL_addLeg 17 = .ok (.iconst 1, 1) := by decide +kernel
theorem dL_addLeg_18 : decode cL_addLeg 18 = .ok (.ireturn, 1) := by decide +kernel
theorem dL_addLeg_19 : decode cL_addLeg 19 = .ok (.astore 5, 2) := by decide +kernel
theorem dL_addLeg_21 : decode cL_addLeg 21 = .ok (.iconst 2, 1) := by decide +kernel
theorem dL_addLeg_22 : decode cL_addLeg 22 = .ok (.ireturn, 1) := by decide +kernel
theorem dL_addLeg_23 : decode cL_addLeg 23 = .ok (.astore 5, 2) := by decide +kernel
theorem dL_addLeg_25 : decode cL_addLeg 25 = .ok (.iconst 3, 1) := by decide +kernel
theorem dL_addLeg_26 : decode cL_addLeg 26 = .ok (.ireturn, 1) := by decide +kernel
theorem dL_addLeg_27 : decode cL_addLeg 27 = .ok (.iconst 0, 1) := by decide +kernel
theorem dL_addLeg_28 : decode cL_addLeg 28 = .ok (.ireturn, 1) := by decide +kernel
theorem dL_dropLeg_0 : decode cL_dropLeg 0 = .ok (.aload_n 2, 1) := by decide +kernel
theorem dL_dropLeg_1 : decode cL_dropLeg 1 = .ok (.iconst 0, 1) := by decide +kernel
theorem dL_dropLeg_2 : decode cL_dropLeg 2 = .ok (.aload_n 0, 1) := by decide +kernel
theorem dL_dropLeg_3 : decode cL_dropLeg 3 = .ok (.iload_n 1, 1) := by decide +kernel
theorem dL_dropLeg_4 : decode cL_dropLeg 4 = .ok (.invokevirtual 52, 3) := by decide +kernel
theorem dL_dropLeg_7 : decode cL_dropLeg 7 = .ok (.i2l, 1) := by decide +kernel
theorem dL_dropLeg_8 : decode cL_dropLeg 8 = .ok (.lastore, 1) := by decide +kernel
theorem dL_dropLeg_9 : decode cL_dropLeg 9 = .ok (.goto 9, 3) := by decide +kernel
theorem dL_dropLeg_12 : decode cL_dropLeg 12 = .ok (.astore_n 3, 1) := by decide +kernel
theorem dL_dropLeg_13 : decode cL_dropLeg 13 = .ok (.iconst 1, 1) := by decide +kernel
theorem dL_dropLeg_14 : decode cL_dropLeg 14 = .ok (.ireturn, 1) := by decide +kernel
theorem dL_dropLeg_15 : decode cL_dropLeg 15 = .ok (.astore_n 3, 1) := by decide +kernel
theorem dL_dropLeg_16 : decode cL_dropLeg 16 = .ok (.iconst 2, 1) := by decide +kernel
theorem dL_dropLeg_17 : decode cL_dropLeg 17 = .ok (.ireturn, 1) := by decide +kernel
theorem dL_dropLeg_18 : decode cL_dropLeg 18 = .ok (.iconst 0, 1) := by decide +kernel
theorem dL_dropLeg_19 : decode cL_dropLeg 19 = .ok (.ireturn, 1) := by decide +kernel
theorem dL_close_0 : decode cL_close 0 = .ok (.aload 4, 2) := by decide +kernel
theorem dL_close_2 : decode cL_close 2 = .ok (.iconst 0, 1) := by decide +kernel
theorem dL_close_3 : decode cL_close 3 = .ok (.aload_n 0, 1) := by decide +kernel
theorem dL_close_4 : decode cL_close 4 = .ok (.iload_n 1, 1) := by decide +kernel
theorem dL_close_5 : decode cL_close 5 = .ok (.iload_n 2, 1) := by decide +kernel
theorem dL_close_6 : decode cL_close 6 = .ok (.iload_n 3, 1) := by decide +kernel
theorem dL_close_7 : decode cL_close 7 = .ok (.invokevirtual 55, 3) := by decide +kernel
theorem dL_close_10 : decode cL_close 10 = .ok (.i2l, 1) := by decide +kernel
theorem dL_close_11 : decode cL_close 11 = .ok (.lastore, 1) := by decide +kernel
theorem dL_close_12 : decode cL_close 12 = .ok (.goto 15, 3) := by decide +kernel
theorem dL_close_15 : decode cL_close 15 = .ok (.astore 5, 2) := by decide +kernel
theorem dL_close_17 : decode cL_close 17 = .ok (.iconst 1, 1) := by decide +kernel
theorem dL_close_18 : decode cL_close 18 = .ok (.ireturn, 1) := by decide +kernel
theorem dL_close_19 : decode cL_close 19 = .ok (.astore 5, 2) := by decide +kernel
theorem dL_close_21 : decode cL_close 21 = .ok (.iconst 2, 1) := by decide +kernel
theorem dL_close_22 : decode cL_close 22 = .ok (.ireturn, 1) := by decide +kernel
theorem dL_close_23 : decode cL_close 23 = .ok (.astore 5, 2) := by decide +kernel
theorem dL_close_25 : decode cL_close 25 = .ok (.iconst 3, 1) := by decide +kernel
theorem dL_close_26 : decode cL_close 26 = .ok (.ireturn, 1) := by decide +kernel
theorem dL_close_27 : decode cL_close 27 = .ok (.iconst 0, 1) := by decide +kernel
theorem dL_close_28 : decode cL_close 28 = .ok (.ireturn, 1) := by decide +kernel
theorem dL_adjust_0 : decode cL_adjust 0 = .ok (.aload_n 2, 1) := by decide +kernel
theorem dL_adjust_1 : decode cL_adjust 1 = .ok (.iconst 0, 1) := by decide +kernel
theorem dL_adjust_2 : decode cL_adjust 2 = .ok (.aload_n 0, 1) := by decide +kernel
theorem dL_adjust_3 : decode cL_adjust 3 = .ok (.iload_n 1, 1) := by decide +kernel
theorem dL_adjust_4 : decode cL_adjust 4 = .ok (.invokevirtual 58, 3) := by decide +kernel
theorem dL_adjust_7 : decode cL_adjust 7 = .ok (.i2l, 1) := by decide +kernel
theorem dL_adjust_8 : decode cL_adjust 8 = .ok (.lastore, 1) := by decide +kernel
theorem dL_adjust_9 : decode cL_adjust 9 = .ok (.goto 9, 3) := by decide +kernel
theorem dL_adjust_12 : decode cL_adjust 12 = .ok (.astore_n 3, 1) := by decide +kernel
theorem dL_adjust_13 : decode cL_adjust 13 = .ok (.iconst 1, 1) := by decide +kernel
theorem dL_adjust_14 : decode cL_adjust 14 = .ok (.ireturn, 1) := by decide +kernel
theorem dL_adjust_15 : decode cL_adjust 15 = .ok (.astore_n 3, 1) := by decide +kernel
theorem dL_adjust_16 : decode cL_adjust 16 = .ok (.iconst 2, 1) := by decide +kernel
theorem dL_adjust_17 : decode cL_adjust 17 = .ok (.ireturn, 1) := by decide +kernel
theorem dL_adjust_18 : decode cL_adjust 18 = .ok (.iconst 0, 1) := by decide +kernel
theorem dL_adjust_19 : decode cL_adjust 19 = .ok (.ireturn, 1) := by decide +kernel
theorem dL_traverse_0 : decode cL_traverse 0 = .ok (.aload_n 3, 1) := by decide +kernel
theorem dL_traverse_1 : decode cL_traverse 1 = .ok (.iconst 0, 1) := by decide +kernel
theorem dL_traverse_2 : decode cL_traverse 2 = .ok (.aload_n 0, 1) := by decide +kernel
theorem dL_traverse_3 : decode cL_traverse 3 = .ok (.iload_n 1, 1) := by decide +kernel
theorem dL_traverse_4 : decode cL_traverse 4 = .ok (.iload_n 2, 1) := by decide +kernel
theorem dL_traverse_5 : decode cL_traverse 5 = .ok (.invokevirtual 61, 3) := by decide +kernel
theorem dL_traverse_8 : decode cL_traverse 8 = .ok (.i2l, 1) := by decide +kernel
theorem dL_traverse_9 : decode cL_traverse 9 = .ok (.lastore, 1) := by decide +kernel
theorem dL_traverse_10 : decode cL_traverse 10 = .ok (.goto 11, 3) := by decide +kernel
theorem dL_traverse_13 : decode cL_traverse 13 = .ok (.astore 4, 2) := by decide +kernel
theorem dL_traverse_15 : decode cL_traverse 15 = .ok (.iconst 1, 1) := by decide +kernel
theorem dL_traverse_16 : decode cL_traverse 16 = .ok (.ireturn, 1) := by decide +kernel
theorem dL_traverse_17 : decode cL_traverse 17 = .ok (.astore 4, 2) := by decide +kernel
theorem dL_traverse_19 : decode cL_traverse 19 = .ok (.iconst 2, 1) := by decide +kernel
theorem dL_traverse_20 : decode cL_traverse 20 = .ok (.ireturn, 1) := by decide +kernel
theorem dL_traverse_21 : decode cL_traverse 21 = .ok (.iconst 0, 1) := by decide +kernel
theorem dL_traverse_22 : decode cL_traverse 22 = .ok (.ireturn, 1) := by decide +kernel
theorem dL_leg_0 : decode cL_leg 0 = .ok (.aload 4, 2) := by decide +kernel
theorem dL_leg_2 : decode cL_leg 2 = .ok (.iconst 0, 1) := by decide +kernel
theorem dL_leg_3 : decode cL_leg 3 = .ok (.aload_n 0, 1) := by decide +kernel
theorem dL_leg_4 : decode cL_leg 4 = .ok (.iload_n 1, 1) := by decide +kernel
theorem dL_leg_5 : decode cL_leg 5 = .ok (.iload_n 2, 1) := by decide +kernel
theorem dL_leg_6 : decode cL_leg 6 = .ok (.iload_n 3, 1) := by decide +kernel
theorem dL_leg_7 : decode cL_leg 7 = .ok (.invokevirtual 64, 3) := by decide +kernel
theorem dL_leg_10 : decode cL_leg 10 = .ok (.i2l, 1) := by decide +kernel
theorem dL_leg_11 : decode cL_leg 11 = .ok (.lastore, 1) := by decide +kernel
theorem dL_leg_12 : decode cL_leg 12 = .ok (.goto 11, 3) := by decide +kernel
theorem dL_leg_15 : decode cL_leg 15 = .ok (.astore 5, 2) := by decide +kernel
theorem dL_leg_17 : decode cL_leg 17 = .ok (.iconst 1, 1) := by decide +kernel
theorem dL_leg_18 : decode cL_leg 18 = .ok (.ireturn, 1) := by decide +kernel
theorem dL_leg_19 : decode cL_leg 19 = .ok (.astore 5, 2) := by decide +kernel
theorem dL_leg_21 : decode cL_leg 21 = .ok (.iconst 2, 1) := by decide +kernel
theorem dL_leg_22 : decode cL_leg 22 = .ok (.ireturn, 1) := by decide +kernel
theorem dL_leg_23 : decode cL_leg 23 = .ok (.iconst 0, 1) := by decide +kernel
theorem dL_leg_24 : decode cL_leg 24 = .ok (.ireturn, 1) := by decide +kernel
theorem dL_trouble_0 : decode cL_trouble 0 = .ok (.aload_n 3, 1) := by decide +kernel
theorem dL_trouble_1 : decode cL_trouble 1 = .ok (.iconst 0, 1) := by decide +kernel
theorem dL_trouble_2 : decode cL_trouble 2 = .ok (.aload_n 0, 1) := by decide +kernel
theorem dL_trouble_3 : decode cL_trouble 3 = .ok (.iload_n 1, 1) := by decide +kernel
theorem dL_trouble_4 : decode cL_trouble 4 = .ok (.iload_n 2, 1) := by decide +kernel
theorem dL_trouble_5 : decode cL_trouble 5 = .ok (.invokevirtual 67, 3) := by decide +kernel
theorem dL_trouble_8 : decode cL_trouble 8 = .ok (.i2l, 1) := by decide +kernel
theorem dL_trouble_9 : decode cL_trouble 9 = .ok (.lastore, 1) := by decide +kernel
theorem dL_trouble_10 : decode cL_trouble 10 = .ok (.goto 7, 3) := by decide +kernel
theorem dL_trouble_13 : decode cL_trouble 13 = .ok (.astore 4, 2) := by decide +kernel
theorem dL_trouble_15 : decode cL_trouble 15 = .ok (.iconst 1, 1) := by decide +kernel
theorem dL_trouble_16 : decode cL_trouble 16 = .ok (.ireturn, 1) := by decide +kernel
theorem dL_trouble_17 : decode cL_trouble 17 = .ok (.iconst 0, 1) := by decide +kernel
theorem dL_trouble_18 : decode cL_trouble 18 = .ok (.ireturn, 1) := by decide +kernel
theorem dL_apart_0 : decode cL_apart 0 = .ok (.aload_n 3, 1) := by decide +kernel
theorem dL_apart_1 : decode cL_apart 1 = .ok (.iconst 0, 1) := by decide +kernel
theorem dL_apart_2 : decode cL_apart 2 = .ok (.aload_n 0, 1) := by decide +kernel
theorem dL_apart_3 : decode cL_apart 3 = .ok (.iload_n 1, 1) := by decide +kernel
theorem dL_apart_4 : decode cL_apart 4 = .ok (.iload_n 2, 1) := by decide +kernel
theorem dL_apart_5 : decode cL_apart 5 = .ok (.invokevirtual 70, 3) := by decide +kernel
theorem dL_apart_8 : decode cL_apart 8 = .ok (.i2l, 1) := by decide +kernel
theorem dL_apart_9 : decode cL_apart 9 = .ok (.lastore, 1) := by decide +kernel
theorem dL_apart_10 : decode cL_apart 10 = .ok (.goto 7, 3) := by decide +kernel
theorem dL_apart_13 : decode cL_apart 13 = .ok (.astore 4, 2) := by decide +kernel
theorem dL_apart_15 : decode cL_apart 15 = .ok (.iconst 1, 1) := by decide +kernel
theorem dL_apart_16 : decode cL_apart 16 = .ok (.ireturn, 1) := by decide +kernel
theorem dL_apart_17 : decode cL_apart 17 = .ok (.iconst 0, 1) := by decide +kernel
theorem dL_apart_18 : decode cL_apart 18 = .ok (.ireturn, 1) := by decide +kernel
theorem dL_meets_0 : decode cL_meets 0 = .ok (.aload_n 3, 1) := by decide +kernel
theorem dL_meets_1 : decode cL_meets 1 = .ok (.iconst 0, 1) := by decide +kernel
theorem dL_meets_2 : decode cL_meets 2 = .ok (.aload_n 0, 1) := by decide +kernel
theorem dL_meets_3 : decode cL_meets 3 = .ok (.iload_n 1, 1) := by decide +kernel
theorem dL_meets_4 : decode cL_meets 4 = .ok (.iload_n 2, 1) := by decide +kernel
theorem dL_meets_5 : decode cL_meets 5 = .ok (.invokevirtual 73, 3) := by decide +kernel
theorem dL_meets_8 : decode cL_meets 8 = .ok (.ifCond .eq 7, 3) := by decide +kernel
theorem dL_meets_11 : decode cL_meets 11 = .ok (.lconst 1, 1) := by decide +kernel
theorem dL_meets_12 : decode cL_meets 12 = .ok (.goto 4, 3) := by decide +kernel
theorem dL_meets_15 : decode cL_meets 15 = .ok (.lconst 0, 1) := by decide +kernel
theorem dL_meets_16 : decode cL_meets 16 = .ok (.lastore, 1) := by decide +kernel
theorem dL_meets_17 : decode cL_meets 17 = .ok (.goto 7, 3) := by decide +kernel
theorem dL_meets_20 : decode cL_meets 20 = .ok (.astore 4, 2) := by decide +kernel
theorem dL_meets_22 : decode cL_meets 22 = .ok (.iconst 1, 1) := by decide +kernel
theorem dL_meets_23 : decode cL_meets 23 = .ok (.ireturn, 1) := by decide +kernel
theorem dL_meets_24 : decode cL_meets 24 = .ok (.iconst 0, 1) := by decide +kernel
theorem dL_meets_25 : decode cL_meets 25 = .ok (.ireturn, 1) := by decide +kernel
theorem dL_sine_0 : decode cL_sine 0 = .ok (.aload_n 2, 1) := by decide +kernel
theorem dL_sine_1 : decode cL_sine 1 = .ok (.iconst 0, 1) := by decide +kernel
theorem dL_sine_2 : decode cL_sine 2 = .ok (.aload_n 0, 1) := by decide +kernel
theorem dL_sine_3 : decode cL_sine 3 = .ok (.iload_n 1, 1) := by decide +kernel
theorem dL_sine_4 : decode cL_sine 4 = .ok (.invokevirtual 77, 3) := by decide +kernel
theorem dL_sine_7 : decode cL_sine 7 = .ok (.i2l, 1) := by decide +kernel
theorem dL_sine_8 : decode cL_sine 8 = .ok (.lastore, 1) := by decide +kernel
theorem dL_sine_9 : decode cL_sine 9 = .ok (.goto 6, 3) := by decide +kernel
theorem dL_sine_12 : decode cL_sine 12 = .ok (.astore_n 3, 1) := by decide +kernel
theorem dL_sine_13 : decode cL_sine 13 = .ok (.iconst 1, 1) := by decide +kernel
theorem dL_sine_14 : decode cL_sine 14 = .ok (.ireturn, 1) := by decide +kernel
theorem dL_sine_15 : decode cL_sine 15 = .ok (.iconst 0, 1) := by decide +kernel
theorem dL_sine_16 : decode cL_sine 16 = .ok (.ireturn, 1) := by decide +kernel
theorem dL_suspect_0 : decode cL_suspect 0 = .ok (.aload_n 2, 1) := by decide +kernel
theorem dL_suspect_1 : decode cL_suspect 1 = .ok (.iconst 0, 1) := by decide +kernel
theorem dL_suspect_2 : decode cL_suspect 2 = .ok (.aload_n 0, 1) := by decide +kernel
theorem dL_suspect_3 : decode cL_suspect 3 = .ok (.iload_n 1, 1) := by decide +kernel
theorem dL_suspect_4 : decode cL_suspect 4 = .ok (.invokevirtual 80, 3) := by decide +kernel
theorem dL_suspect_7 : decode cL_suspect 7 = .ok (.i2l, 1) := by decide +kernel
theorem dL_suspect_8 : decode cL_suspect 8 = .ok (.lastore, 1) := by decide +kernel
theorem dL_suspect_9 : decode cL_suspect 9 = .ok (.goto 6, 3) := by decide +kernel
theorem dL_suspect_12 : decode cL_suspect 12 = .ok (.astore_n 3, 1) := by decide +kernel
theorem dL_suspect_13 : decode cL_suspect 13 = .ok (.iconst 1, 1) := by decide +kernel
theorem dL_suspect_14 : decode cL_suspect 14 = .ok (.ireturn, 1) := by decide +kernel
theorem dL_suspect_15 : decode cL_suspect 15 = .ok (.iconst 0, 1) := by decide +kernel
theorem dL_suspect_16 : decode cL_suspect 16 = .ok (.ireturn, 1) := by decide +kernel
theorem dL_angleFor_0 : decode cL_angleFor 0 = .ok (.aload 4, 2) := by decide +kernel
theorem dL_angleFor_2 : decode cL_angleFor 2 = .ok (.iconst 0, 1) := by decide +kernel
theorem dL_angleFor_3 : decode cL_angleFor 3 = .ok (.aload_n 0, 1) := by decide +kernel
theorem dL_angleFor_4 : decode cL_angleFor 4 = .ok (.iload_n 1, 1) := by decide +kernel
theorem dL_angleFor_5 : decode cL_angleFor 5 = .ok (.iload_n 2, 1) := by decide +kernel
theorem dL_angleFor_6 : decode cL_angleFor 6 = .ok (.iload_n 3, 1) := by decide +kernel
theorem dL_angleFor_7 : decode cL_angleFor 7 = .ok (.invokevirtual 83, 3) := by decide +kernel
theorem dL_angleFor_10 : decode cL_angleFor 10 = .ok (.i2l, 1) := by decide +kernel
theorem dL_angleFor_11 : decode cL_angleFor 11 = .ok (.lastore, 1) := by decide +kernel
theorem dL_angleFor_12 : decode cL_angleFor 12 = .ok (.goto 11, 3) := by decide +kernel
theorem dL_angleFor_15 : decode cL_angleFor 15 = .ok (.astore 5, 2) := by decide +kernel
theorem dL_angleFor_17 : decode cL_angleFor 17 = .ok (.iconst 1, 1) := by decide +kernel
theorem dL_angleFor_18 : decode cL_angleFor 18 = .ok (.ireturn, 1) := by decide +kernel
theorem dL_angleFor_19 : decode cL_angleFor 19 = .ok (.astore 5, 2) := by decide +kernel
theorem dL_angleFor_21 : decode cL_angleFor 21 = .ok (.iconst 2, 1) := by decide +kernel
theorem dL_angleFor_22 : decode cL_angleFor 22 = .ok (.ireturn, 1) := by decide +kernel
theorem dL_angleFor_23 : decode cL_angleFor 23 = .ok (.iconst 0, 1) := by decide +kernel
theorem dL_angleFor_24 : decode cL_angleFor 24 = .ok (.ireturn, 1) := by decide +kernel
theorem dL_reachBy_0 : decode cL_reachBy 0 = .ok (.aload 5, 2) := by decide +kernel
theorem dL_reachBy_2 : decode cL_reachBy 2 = .ok (.iconst 0, 1) := by decide +kernel
theorem dL_reachBy_3 : decode cL_reachBy 3 = .ok (.aload_n 0, 1) := by decide +kernel
theorem dL_reachBy_4 : decode cL_reachBy 4 = .ok (.iload_n 1, 1) := by decide +kernel
theorem dL_reachBy_5 : decode cL_reachBy 5 = .ok (.iload_n 2, 1) := by decide +kernel
theorem dL_reachBy_6 : decode cL_reachBy 6 = .ok (.iload_n 3, 1) := by decide +kernel
theorem dL_reachBy_7 : decode cL_reachBy 7 = .ok (.iload 4, 2) := by decide +kernel
theorem dL_reachBy_9 : decode cL_reachBy 9 = .ok (.invokevirtual 86, 3) := by decide +kernel
theorem dL_reachBy_12 : decode cL_reachBy 12 = .ok (.i2l, 1) := by decide +kernel
theorem dL_reachBy_13 : decode cL_reachBy 13 = .ok (.lastore, 1) := by decide +kernel
theorem dL_reachBy_14 : decode cL_reachBy 14 = .ok (.goto 11, 3) := by decide +kernel
theorem dL_reachBy_17 : decode cL_reachBy 17 = .ok (.astore 6, 2) := by decide +kernel
theorem dL_reachBy_19 : decode cL_reachBy 19 = .ok (.iconst 1, 1) := by decide +kernel
theorem dL_reachBy_20 : decode cL_reachBy 20 = .ok (.ireturn, 1) := by decide +kernel
theorem dL_reachBy_21 : decode cL_reachBy 21 = .ok (.astore 6, 2) := by decide +kernel
theorem dL_reachBy_23 : decode cL_reachBy 23 = .ok (.iconst 2, 1) := by decide +kernel
theorem dL_reachBy_24 : decode cL_reachBy 24 = .ok (.ireturn, 1) := by decide +kernel
theorem dL_reachBy_25 : decode cL_reachBy 25 = .ok (.iconst 0, 1) := by decide +kernel
theorem dL_reachBy_26 : decode cL_reachBy 26 = .ok (.ireturn, 1) := by decide +kernel
theorem dL_type_0 : decode cL_type 0 = .ok (.aload_n 2, 1) := by decide +kernel
theorem dL_type_1 : decode cL_type 1 = .ok (.iconst 0, 1) := by decide +kernel
theorem dL_type_2 : decode cL_type 2 = .ok (.aload_n 0, 1) := by decide +kernel
theorem dL_type_3 : decode cL_type 3 = .ok (.iload_n 1, 1) := by decide +kernel
theorem dL_type_4 : decode cL_type 4 = .ok (.invokevirtual 90, 3) := by decide +kernel
theorem dL_type_7 : decode cL_type 7 = .ok (.i2l, 1) := by decide +kernel
theorem dL_type_8 : decode cL_type 8 = .ok (.lastore, 1) := by decide +kernel
theorem dL_type_9 : decode cL_type 9 = .ok (.goto 9, 3) := by decide +kernel
theorem dL_type_12 : decode cL_type 12 = .ok (.astore_n 3, 1) := by decide +kernel
theorem dL_type_13 : decode cL_type 13 = .ok (.iconst 1, 1) := by decide +kernel
theorem dL_type_14 : decode cL_type 14 = .ok (.ireturn, 1) := by decide +kernel
theorem dL_type_15 : decode cL_type 15 = .ok (.astore_n 3, 1) := by decide +kernel
theorem dL_type_16 : decode cL_type 16 = .ok (.iconst 2, 1) := by decide +kernel
theorem dL_type_17 : decode cL_type 17 = .ok (.ireturn, 1) := by decide +kernel
theorem dL_type_18 : decode cL_type 18 = .ok (.iconst 0, 1) := by decide +kernel
theorem dL_type_19 : decode cL_type 19 = .ok (.ireturn, 1) := by decide +kernel
theorem dL_run_0 : decode cL_run 0 = .ok (.aload_n 1, 1) := by decide +kernel
theorem dL_run_1 : decode cL_run 1 = .ok (.iconst 0, 1) := by decide +kernel
theorem dL_run_2 : decode cL_run 2 = .ok (.aload_n 0, 1) := by decide +kernel
theorem dL_run_3 : decode cL_run 3 = .ok (.invokevirtual 93, 3) := by decide +kernel
theorem dL_run_6 : decode cL_run 6 = .ok (.i2l, 1) := by decide +kernel
theorem dL_run_7 : decode cL_run 7 = .ok (.lastore, 1) := by decide +kernel
theorem dL_run_8 : decode cL_run 8 = .ok (.goto 6, 3) := by decide +kernel
theorem dL_run_11 : decode cL_run 11 = .ok (.astore_n 2, 1) := by decide +kernel
theorem dL_run_12 : decode cL_run 12 = .ok (.iconst 1, 1) := by decide +kernel
theorem dL_run_13 : decode cL_run 13 = .ok (.ireturn, 1) := by decide +kernel
theorem dL_run_14 : decode cL_run 14 = .ok (.iconst 0, 1) := by decide +kernel
theorem dL_run_15 : decode cL_run 15 = .ok (.ireturn, 1) := by decide +kernel
theorem dL_undo_0 : decode cL_undo 0 = .ok (.aload_n 1, 1) := by decide +kernel
theorem dL_undo_1 : decode cL_undo 1 = .ok (.iconst 0, 1) := by decide +kernel
theorem dL_undo_2 : decode cL_undo 2 = .ok (.aload_n 0, 1) := by decide +kernel
theorem dL_undo_3 : decode cL_undo 3 = .ok (.invokevirtual 97, 3) := by decide +kernel
theorem dL_undo_6 : decode cL_undo 6 = .ok (.i2l, 1) := by decide +kernel
theorem dL_undo_7 : decode cL_undo 7 = .ok (.lastore, 1) := by decide +kernel
theorem dL_undo_8 : decode cL_undo 8 = .ok (.goto 6, 3) := by decide +kernel
theorem dL_undo_11 : decode cL_undo 11 = .ok (.astore_n 2, 1) := by decide +kernel
theorem dL_undo_12 : decode cL_undo 12 = .ok (.iconst 1, 1) := by decide +kernel
theorem dL_undo_13 : decode cL_undo 13 = .ok (.ireturn, 1) := by decide +kernel
theorem dL_undo_14 : decode cL_undo 14 = .ok (.iconst 0, 1) := by decide +kernel
theorem dL_undo_15 : decode cL_undo 15 = .ok (.ireturn, 1) := by decide +kernel
theorem dL_law_0 : decode cL_law 0 = .ok (.new 8, 3) := by decide +kernel
theorem dL_law_3 : decode cL_law 3 = .ok (.dup, 1) := by decide +kernel
theorem dL_law_4 : decode cL_law 4 = .ok (.invokespecial 100, 3) := by decide +kernel
theorem dL_law_7 : decode cL_law 7 = .ok (.astore_n 1, 1) := by decide +kernel
theorem dL_law_8 : decode cL_law 8 = .ok (.new 101, 3) := by decide +kernel
theorem dL_law_11 : decode cL_law 11 = .ok (.dup, 1) := by decide +kernel
theorem dL_law_12 : decode cL_law 12 = .ok (.invokespecial 103, 3) := by decide +kernel
theorem dL_law_15 : decode cL_law 15 = .ok (.astore_n 2, 1) := by decide +kernel
theorem dL_law_16 : decode cL_law 16 = .ok (.iconst 1, 1) := by decide +kernel
theorem dL_law_17 : decode cL_law 17 = .ok (.newarray .long, 2) := by decide +kernel
theorem dL_law_19 : decode cL_law 19 = .ok (.astore_n 3, 1) := by decide +kernel
theorem dL_law_20 : decode cL_law 20 = .ok (.iconst 0, 1) := by decide +kernel
theorem dL_law_21 : decode cL_law 21 = .ok (.istore 4, 2) := by decide +kernel
theorem dL_law_23 : decode cL_law 23 = .ok (.iload 4, 2) := by decide +kernel
theorem dL_law_25 : decode cL_law 25 = .ok (.aload_n 0, 1) := by decide +kernel
theorem dL_law_26 : decode cL_law 26 = .ok (.arraylength, 1) := by decide +kernel
theorem dL_law_27 : decode cL_law 27 = .ok (.bipush 7, 2) := by decide +kernel
theorem dL_law_29 : decode cL_law 29 = .ok (.isub, 1) := by decide +kernel
theorem dL_law_30 : decode cL_law 30 = .ok (.if_icmp .gt 1941, 3) := by decide +kernel
theorem dL_law_33 : decode cL_law 33 = .ok (.aload_n 0, 1) := by decide +kernel
theorem dL_law_34 : decode cL_law 34 = .ok (.iload 4, 2) := by decide +kernel
theorem dL_law_36 : decode cL_law 36 = .ok (.iaload, 1) := by decide +kernel
theorem dL_law_37 : decode cL_law 37 = .ok (.bipush 31, 2) := by decide +kernel
end
section
theorem dL_law_39 : decode cL_law 39 = .ok (.iand, 1) := by decide +kernel
theorem dL_law_40 : decode cL_law 40 = .ok (.tableswitch 1925 0 28 #[132, 200, 256, 324, 392, 448, 516, 634, 702, 770, 826, 906, 962, 1042, 1098, 1166, 1246, 1314, 1382, 1457, 1513, 1569, 1649, 1741, 1797, 1810, 1823, 1867, 1911], 132) := by decide +kernel
theorem dL_law_172 : decode cL_law 172 = .ok (.aload_n 1, 1) := by decide +kernel
theorem dL_law_173 : decode cL_law 173 = .ok (.aload_n 0, 1) := by decide +kernel
theorem dL_law_174 : decode cL_law 174 = .ok (.iload 4, 2) := by decide +kernel
theorem dL_law_176 : decode cL_law 176 = .ok (.iconst 1, 1) := by decide +kernel
theorem dL_law_177 : decode cL_law 177 = .ok (.iadd, 1) := by decide +kernel
theorem dL_law_178 : decode cL_law 178 = .ok (.iaload, 1) := by decide +kernel
theorem dL_law_179 : decode cL_law 179 = .ok (.aload_n 0, 1) := by decide +kernel
theorem dL_law_180 : decode cL_law 180 = .ok (.iload 4, 2) := by decide +kernel
theorem dL_law_182 : decode cL_law 182 = .ok (.iconst 2, 1) := by decide +kernel
theorem dL_law_183 : decode cL_law 183 = .ok (.iadd, 1) := by decide +kernel
theorem dL_law_184 : decode cL_law 184 = .ok (.iaload, 1) := by decide +kernel
theorem dL_law_185 : decode cL_law 185 = .ok (.aload_n 3, 1) := by decide +kernel
theorem dL_law_186 : decode cL_law 186 = .ok (.invokestatic 104, 3) := by decide +kernel
theorem dL_law_189 : decode cL_law 189 = .ok (.istore 5, 2) := by decide +kernel
theorem dL_law_191 : decode cL_law 191 = .ok (.aload_n 2, 1) := by decide +kernel
theorem dL_law_192 : decode cL_law 192 = .ok (.aload_n 0, 1) := by decide +kernel
theorem dL_law_193 : decode cL_law 193 = .ok (.iload 4, 2) := by decide +kernel
theorem dL_law_195 : decode cL_law 195 = .ok (.iconst 1, 1) := by decide +kernel
theorem dL_law_196 : decode cL_law 196 = .ok (.iadd, 1) := by decide +kernel
theorem dL_law_197 : decode cL_law 197 = .ok (.iaload, 1) := by decide +kernel
theorem dL_law_198 : decode cL_law 198 = .ok (.aload_n 0, 1) := by decide +kernel
theorem dL_law_199 : decode cL_law 199 = .ok (.iload 4, 2) := by decide +kernel
theorem dL_law_201 : decode cL_law 201 = .ok (.iconst 2, 1) := by decide +kernel
theorem dL_law_202 : decode cL_law 202 = .ok (.iadd, 1) := by decide +kernel
theorem dL_law_203 : decode cL_law 203 = .ok (.iaload, 1) := by decide +kernel
theorem dL_law_204 : decode cL_law 204 = .ok (.invokevirtual 109, 3) := by decide +kernel
theorem dL_law_207 : decode cL_law 207 = .ok (.istore 6, 2) := by decide +kernel
theorem dL_law_209 : decode cL_law 209 = .ok (.aload_n 2, 1) := by decide +kernel
theorem dL_law_210 : decode cL_law 210 = .ok (.invokevirtual 110, 3) := by decide +kernel
theorem dL_law_213 : decode cL_law 213 = .ok (.iload 5, 2) := by decide +kernel
theorem dL_law_215 : decode cL_law 215 = .ok (.if_icmp .eq 5, 3) := by decide +kernel
theorem dL_law_218 : decode cL_law 218 = .ok (.iconst 0, 1) := by decide +kernel
theorem dL_law_219 : decode cL_law 219 = .ok (.ireturn, 1) := by decide +kernel
theorem dL_law_220 : decode cL_law 220 = .ok (.iload 5, 2) := by decide +kernel
theorem dL_law_222 : decode cL_law 222 = .ok (.ifCond .ne 15, 3) := by decide +kernel
theorem dL_law_225 : decode cL_law 225 = .ok (.aload_n 3, 1) := by decide +kernel
theorem dL_law_226 : decode cL_law 226 = .ok (.iconst 0, 1) := by decide +kernel
theorem dL_law_227 : decode cL_law 227 = .ok (.laload, 1) := by decide +kernel
theorem dL_law_228 : decode cL_law 228 = .ok (.iload 6, 2) := by decide +kernel
theorem dL_law_230 : decode cL_law 230 = .ok (.i2l, 1) := by decide +kernel
theorem dL_law_231 : decode cL_law 231 = .ok (.lcmp, 1) := by decide +kernel
theorem dL_law_232 : decode cL_law 232 = .ok (.ifCond .eq 5, 3) := by decide +kernel
theorem dL_law_235 : decode cL_law 235 = .ok (.iconst 0, 1) := by decide +kernel
theorem dL_law_236 : decode cL_law 236 = .ok (.ireturn, 1) := by decide +kernel
theorem dL_law_237 : decode cL_law 237 = .ok (.goto 1728, 3) := by decide +kernel
theorem dL_law_240 : decode cL_law 240 = .ok (.aload_n 1, 1) := by decide +kernel
theorem dL_law_241 : decode cL_law 241 = .ok (.aload_n 0, 1) := by decide +kernel
theorem dL_law_242 : decode cL_law 242 = .ok (.iload 4, 2) := by decide +kernel
theorem dL_law_244 : decode cL_law 244 = .ok (.iconst 1, 1) := by decide +kernel
theorem dL_law_245 : decode cL_law 245 = .ok (.iadd, 1) := by decide +kernel
theorem dL_law_246 : decode cL_law 246 = .ok (.iaload, 1) := by decide +kernel
theorem dL_law_247 : decode cL_law 247 = .ok (.aload_n 3, 1) := by decide +kernel
theorem dL_law_248 : decode cL_law 248 = .ok (.invokestatic 113, 3) := by decide +kernel
theorem dL_law_251 : decode cL_law 251 = .ok (.istore 5, 2) := by decide +kernel
theorem dL_law_253 : decode cL_law 253 = .ok (.aload_n 2, 1) := by decide +kernel
theorem dL_law_254 : decode cL_law 254 = .ok (.aload_n 0, 1) := by decide +kernel
theorem dL_law_255 : decode cL_law 255 = .ok (.iload 4, 2) := by decide +kernel
theorem dL_law_257 : decode cL_law 257 = .ok (.iconst 1, 1) := by decide +kernel
theorem dL_law_258 : decode cL_law 258 = .ok (.iadd, 1) := by decide +kernel
theorem dL_law_259 : decode cL_law 259 = .ok (.iaload, 1) := by decide +kernel
theorem dL_law_260 : decode cL_law 260 = .ok (.invokevirtual 116, 3) := by decide +kernel
theorem dL_law_263 : decode cL_law 263 = .ok (.istore 6, 2) := by decide +kernel
theorem dL_law_265 : decode cL_law 265 = .ok (.aload_n 2, 1) := by decide +kernel
theorem dL_law_266 : decode cL_law 266 = .ok (.invokevirtual 110, 3) := by decide +kernel
theorem dL_law_269 : decode cL_law 269 = .ok (.iload 5, 2) := by decide +kernel
theorem dL_law_271 : decode cL_law 271 = .ok (.if_icmp .eq 5, 3) := by decide +kernel
theorem dL_law_274 : decode cL_law 274 = .ok (.iconst 0, 1) := by decide +kernel
theorem dL_law_275 : decode cL_law 275 = .ok (.ireturn, 1) := by decide +kernel
theorem dL_law_276 : decode cL_law 276 = .ok (.iload 5, 2) := by decide +kernel
theorem dL_law_278 : decode cL_law 278 = .ok (.ifCond .ne 15, 3) := by decide +kernel
theorem dL_law_281 : decode cL_law 281 = .ok (.aload_n 3, 1) := by decide +kernel
theorem dL_law_282 : decode cL_law 282 = .ok (.iconst 0, 1) := by decide +kernel
theorem dL_law_283 : decode cL_law 283 = .ok (.laload, 1) := by decide +kernel
theorem dL_law_284 : decode cL_law 284 = .ok (.iload 6, 2) := by decide +kernel
theorem dL_law_286 : decode cL_law 286 = .ok (.i2l, 1) := by decide +kernel
theorem dL_law_287 : decode cL_law 287 = .ok (.lcmp, 1) := by decide +kernel
theorem dL_law_288 : decode cL_law 288 = .ok (.ifCond .eq 5, 3) := by decide +kernel
theorem dL_law_291 : decode cL_law 291 = .ok (.iconst 0, 1) := by decide +kernel
theorem dL_law_292 : decode cL_law 292 = .ok (.ireturn, 1) := by decide +kernel
theorem dL_law_293 : decode cL_law 293 = .ok (.goto 1672, 3) := by decide +kernel
theorem dL_law_296 : decode cL_law 296 = .ok (.aload_n 1, 1) := by decide +kernel
theorem dL_law_297 : decode cL_law 297 = .ok (.aload_n 0, 1) := by decide +kernel
theorem dL_law_298 : decode cL_law 298 = .ok (.iload 4, 2) := by decide +kernel
theorem dL_law_300 : decode cL_law 300 = .ok (.iconst 1, 1) := by decide +kernel
theorem dL_law_301 : decode cL_law 301 = .ok (.iadd, 1) := by decide +kernel
theorem dL_law_302 : decode cL_law 302 = .ok (.iaload, 1) := by decide +kernel
theorem dL_law_303 : decode cL_law 303 = .ok (.aload_n 0, 1) := by decide +kernel
theorem dL_law_304 : decode cL_law 304 = .ok (.iload 4, 2) := by decide +kernel
theorem dL_law_306 : decode cL_law 306 = .ok (.iconst 2, 1) := by decide +kernel
theorem dL_law_307 : decode cL_law 307 = .ok (.iadd, 1) := by decide +kernel
theorem dL_law_308 : decode cL_law 308 = .ok (.iaload, 1) := by decide +kernel
theorem dL_law_309 : decode cL_law 309 = .ok (.aload_n 3, 1) := by decide +kernel
theorem dL_law_310 : decode cL_law 310 = .ok (.invokestatic 117, 3) := by decide +kernel
theorem dL_law_313 : decode cL_law 313 = .ok (.istore 5, 2) := by decide +kernel
theorem dL_law_315 : decode cL_law 315 = .ok (.aload_n 2, 1) := by decide +kernel
theorem dL_law_316 : decode cL_law 316 = .ok (.aload_n 0, 1) := by decide +kernel
theorem dL_law_317 : decode cL_law 317 = .ok (.iload 4, 2) := by decide +kernel
theorem dL_law_319 : decode cL_law 319 = .ok (.iconst 1, 1) := by decide +kernel
theorem dL_law_320 : decode cL_law 320 = .ok (.iadd, 1) := by decide +kernel
theorem dL_law_321 : decode cL_law 321 = .ok (.iaload, 1) := by decide +kernel
theorem dL_law_322 : decode cL_law 322 = .ok (.aload_n 0, 1) := by decide +kernel
theorem dL_law_323 : decode cL_law 323 = .ok (.iload 4, 2) := by decide +kernel
theorem dL_law_325 : decode cL_law 325 = .ok (.iconst 2, 1) := by decide +kernel
theorem dL_law_326 : decode cL_law 326 = .ok (.iadd, 1) := by decide +kernel
theorem dL_law_327 : decode cL_law 327 = .ok (.iaload, 1) := by decide +kernel
theorem dL_law_328 : decode cL_law 328 = .ok (.invokevirtual 119, 3) := by decide +kernel
theorem dL_law_331 : decode cL_law 331 = .ok (.istore 6, 2) := by decide +kernel
theorem dL_law_333 : decode cL_law 333 = .ok (.aload_n 2, 1) := by decide +kernel
theorem dL_law_334 : decode cL_law 334 = .ok (.invokevirtual 110, 3) := by decide +kernel
theorem dL_law_337 : decode cL_law 337 = .ok (.iload 5, 2) := by decide +kernel
theorem dL_law_339 : decode cL_law 339 = .ok (.if_icmp .eq 5, 3) := by decide +kernel
theorem dL_law_342 : decode cL_law 342 = .ok (.iconst 0, 1) := by decide +kernel
theorem dL_law_343 : decode cL_law 343 = .ok (.ireturn, 1) := by decide +kernel
theorem dL_law_344 : decode cL_law 344 = .ok (.iload 5, 2) := by decide +kernel
theorem dL_law_346 : decode cL_law 346 = .ok (.ifCond .ne 15, 3) := by decide +kernel
theorem dL_law_349 : decode cL_law 349 = .ok (.aload_n 3, 1) := by decide +kernel
theorem dL_law_350 : decode cL_law 350 = .ok (.iconst 0, 1) := by decide +kernel
theorem dL_law_351 : decode cL_law 351 = .ok (.laload, 1) := by decide +kernel
theorem dL_law_352 : decode cL_law 352 = .ok (.iload 6, 2) := by decide +kernel
theorem dL_law_354 : decode cL_law 354 = .ok (.i2l, 1) := by decide +kernel
theorem dL_law_355 : decode cL_law 355 = .ok (.lcmp, 1) := by decide +kernel
theorem dL_law_356 : decode cL_law 356 = .ok (.ifCond .eq 5, 3) := by decide +kernel
theorem dL_law_359 : decode cL_law 359 = .ok (.iconst 0, 1) := by decide +kernel
theorem dL_law_360 : decode cL_law 360 = .ok (.ireturn, 1) := by decide +kernel
theorem dL_law_361 : decode cL_law 361 = .ok (.goto 1604, 3) := by decide +kernel
theorem dL_law_364 : decode cL_law 364 = .ok (.aload_n 1, 1) := by decide +kernel
theorem dL_law_365 : decode cL_law 365 = .ok (.aload_n 0, 1) := by decide +kernel
theorem dL_law_366 : decode cL_law 366 = .ok (.iload 4, 2) := by decide +kernel
theorem dL_law_368 : decode cL_law 368 = .ok (.iconst 1, 1) := by decide +kernel
theorem dL_law_369 : decode cL_law 369 = .ok (.iadd, 1) := by decide +kernel
theorem dL_law_370 : decode cL_law 370 = .ok (.iaload, 1) := by decide +kernel
theorem dL_law_371 : decode cL_law 371 = .ok (.aload_n 0, 1) := by decide +kernel
theorem dL_law_372 : decode cL_law 372 = .ok (.iload 4, 2) := by decide +kernel
theorem dL_law_374 : decode cL_law 374 = .ok (.iconst 2, 1) := by decide +kernel
theorem dL_law_375 : decode cL_law 375 = .ok (.iadd, 1) := by decide +kernel
theorem dL_law_376 : decode cL_law 376 = .ok (.iaload, 1) := by decide +kernel
theorem dL_law_377 : decode cL_law 377 = .ok (.aload_n 3, 1) := by decide +kernel
theorem dL_law_378 : decode cL_law 378 = .ok (.invokestatic 120, 3) := by decide +kernel
theorem dL_law_381 : decode cL_law 381 = .ok (.istore 5, 2) := by decide +kernel
theorem dL_law_383 : decode cL_law 383 = .ok (.aload_n 2, 1) := by decide +kernel
theorem dL_law_384 : decode cL_law 384 = .ok (.aload_n 0, 1) := by decide +kernel
theorem dL_law_385 : decode cL_law 385 = .ok (.iload 4, 2) := by decide +kernel
theorem dL_law_387 : decode cL_law 387 = .ok (.iconst 1, 1) := by decide +kernel
theorem dL_law_388 : decode cL_law 388 = .ok (.iadd, 1) := by decide +kernel
theorem dL_law_389 : decode cL_law 389 = .ok (.iaload, 1) := by decide +kernel
theorem dL_law_390 : decode cL_law 390 = .ok (.aload_n 0, 1) := by decide +kernel
theorem dL_law_391 : decode cL_law 391 = .ok (.iload 4, 2) := by decide +kernel
theorem dL_law_393 : decode cL_law 393 = .ok (.iconst 2, 1) := by decide +kernel
theorem dL_law_394 : decode cL_law 394 = .ok (.iadd, 1) := by decide +kernel
theorem dL_law_395 : decode cL_law 395 = .ok (.iaload, 1) := by decide +kernel
theorem dL_law_396 : decode cL_law 396 = .ok (.invokevirtual 122, 3) := by decide +kernel
theorem dL_law_399 : decode cL_law 399 = .ok (.istore 6, 2) := by decide +kernel
theorem dL_law_401 : decode cL_law 401 = .ok (.aload_n 2, 1) := by decide +kernel
theorem dL_law_402 : decode cL_law 402 = .ok (.invokevirtual 110, 3) := by decide +kernel
theorem dL_law_405 : decode cL_law 405 = .ok (.iload 5, 2) := by decide +kernel
theorem dL_law_407 : decode cL_law 407 = .ok (.if_icmp .eq 5, 3) := by decide +kernel
theorem dL_law_410 : decode cL_law 410 = .ok (.iconst 0, 1) := by decide +kernel
theorem dL_law_411 : decode cL_law 411 = .ok (.ireturn, 1) := by decide +kernel
theorem dL_law_412 : decode cL_law 412 = .ok (.iload 5, 2) := by decide +kernel
theorem dL_law_414 : decode cL_law 414 = .ok (.ifCond .ne 15, 3) := by decide +kernel
theorem dL_law_417 : decode cL_law 417 = .ok (.aload_n 3, 1) := by decide +kernel
theorem dL_law_418 : decode cL_law 418 = .ok (.iconst 0, 1) := by decide +kernel
theorem dL_law_419 : decode cL_law 419 = .ok (.laload, 1) := by decide +kernel
theorem dL_law_420 : decode cL_law 420 = .ok (.iload 6, 2) := by decide +kernel
theorem dL_law_422 : decode cL_law 422 = .ok (.i2l, 1) := by decide +kernel
theorem dL_law_423 : decode cL_law 423 = .ok (.lcmp, 1) := by decide +kernel
theorem dL_law_424 : decode cL_law 424 = .ok (.ifCond .eq 5, 3) := by decide +kernel
theorem dL_law_427 : decode cL_law 427 = .ok (.iconst 0, 1) := by decide +kernel
theorem dL_law_428 : decode cL_law 428 = .ok (.ireturn, 1) := by decide +kernel
theorem dL_law_429 : decode cL_law 429 = .ok (.goto 1536, 3) := by decide +kernel
theorem dL_law_432 : decode cL_law 432 = .ok (.aload_n 1, 1) := by decide +kernel
theorem dL_law_433 : decode cL_law 433 = .ok (.aload_n 0, 1) := by decide +kernel
theorem dL_law_434 : decode cL_law 434 = .ok (.iload 4, 2) := by decide +kernel
theorem dL_law_436 : decode cL_law 436 = .ok (.iconst 1, 1) := by decide +kernel
theorem dL_law_437 : decode cL_law 437 = .ok (.iadd, 1) := by decide +kernel
theorem dL_law_438 : decode cL_law 438 = .ok (.iaload, 1) := by decide +kernel
theorem dL_law_439 : decode cL_law 439 = .ok (.aload_n 3, 1) := by decide +kernel
theorem dL_law_440 : decode cL_law 440 = .ok (.invokestatic 123, 3) := by decide +kernel
theorem dL_law_443 : decode cL_law 443 = .ok (.istore 5, 2) := by decide +kernel
theorem dL_law_445 : decode cL_law 445 = .ok (.aload_n 2, 1) := by decide +kernel
theorem dL_law_446 : decode cL_law 446 = .ok (.aload_n 0, 1) := by decide +kernel
theorem dL_law_447 : decode cL_law 447 = .ok (.iload 4, 2) := by decide +kernel
theorem dL_law_449 : decode cL_law 449 = .ok (.iconst 1, 1) := by decide +kernel
theorem dL_law_450 : decode cL_law 450 = .ok (.iadd, 1) := by decide +kernel
theorem dL_law_451 : decode cL_law 451 = .ok (.iaload, 1) := by decide +kernel
theorem dL_law_452 : decode cL_law 452 = .ok (.invokevirtual 125, 3) := by decide +kernel
theorem dL_law_455 : decode cL_law 455 = .ok (.istore 6, 2) := by decide +kernel
theorem dL_law_457 : decode cL_law 457 = .ok (.aload_n 2, 1) := by decide +kernel
theorem dL_law_458 : decode cL_law 458 = .ok (.invokevirtual 110, 3) := by decide +kernel
theorem dL_law_461 : decode cL_law 461 = .ok (.iload 5, 2) := by decide +kernel
theorem dL_law_463 : decode cL_law 463 = .ok (.if_icmp .eq 5, 3) := by decide +kernel
theorem dL_law_466 : decode cL_law 466 = .ok (.iconst 0, 1) := by decide +kernel
theorem dL_law_467 : decode cL_law 467 = .ok (.ireturn, 1) := by decide +kernel
theorem dL_law_468 : decode cL_law 468 = .ok (.iload 5, 2) := by decide +kernel
theorem dL_law_470 : decode cL_law 470 = .ok (.ifCond .ne 15, 3) := by decide +kernel
theorem dL_law_473 : decode cL_law 473 = .ok (.aload_n 3, 1) := by decide +kernel
theorem dL_law_474 : decode cL_law 474 = .ok (.iconst 0, 1) := by decide +kernel
theorem dL_law_475 : decode cL_law 475 = .ok (.laload, 1) := by decide +kernel
theorem dL_law_476 : decode cL_law 476 = .ok (.iload 6, 2) := by decide +kernel
theorem dL_law_478 : decode cL_law 478 = .ok (.i2l, 1) := by decide +kernel
theorem dL_law_479 : decode cL_law 479 = .ok (.lcmp, 1) := by decide +kernel
theorem dL_law_480 : decode cL_law 480 = .ok (.ifCond .eq 5, 3) := by decide +kernel
theorem dL_law_483 : decode cL_law 483 = .ok (.iconst 0, 1) := by decide +kernel
theorem dL_law_484 : decode cL_law 484 = .ok (.ireturn, 1) := by decide +kernel
theorem dL_law_485 : decode cL_law 485 = .ok (.goto 1480, 3) := by decide +kernel
theorem dL_law_488 : decode cL_law 488 = .ok (.aload_n 1, 1) := by decide +kernel
theorem dL_law_489 : decode cL_law 489 = .ok (.aload_n 0, 1) := by decide +kernel
theorem dL_law_490 : decode cL_law 490 = .ok (.iload 4, 2) := by decide +kernel
theorem dL_law_492 : decode cL_law 492 = .ok (.iconst 1, 1) := by decide +kernel
theorem dL_law_493 : decode cL_law 493 = .ok (.iadd, 1) := by decide +kernel
theorem dL_law_494 : decode cL_law 494 = .ok (.iaload, 1) := by decide +kernel
theorem dL_law_495 : decode cL_law 495 = .ok (.aload_n 0, 1) := by decide +kernel
theorem dL_law_496 : decode cL_law 496 = .ok (.iload 4, 2) := by decide +kernel
theorem dL_law_498 : decode cL_law 498 = .ok (.iconst 2, 1) := by decide +kernel
theorem dL_law_499 : decode cL_law 499 = .ok (.iadd, 1) := by decide +kernel
theorem dL_law_500 : decode cL_law 500 = .ok (.iaload, 1) := by decide +kernel
theorem dL_law_501 : decode cL_law 501 = .ok (.aload_n 3, 1) := by decide +kernel
theorem dL_law_502 : decode cL_law 502 = .ok (.invokestatic 126, 3) := by decide +kernel
theorem dL_law_505 : decode cL_law 505 = .ok (.istore 5, 2) := by decide +kernel
theorem dL_law_507 : decode cL_law 507 = .ok (.aload_n 2, 1) := by decide +kernel
theorem dL_law_508 : decode cL_law 508 = .ok (.aload_n 0, 1) := by decide +kernel
theorem dL_law_509 : decode cL_law 509 = .ok (.iload 4, 2) := by decide +kernel
theorem dL_law_511 : decode cL_law 511 = .ok (.iconst 1, 1) := by decide +kernel
theorem dL_law_512 : decode cL_law 512 = .ok (.iadd, 1) := by decide +kernel
theorem dL_law_513 : decode cL_law 513 = .ok (.iaload, 1) := by decide +kernel
theorem dL_law_514 : decode cL_law 514 = .ok (.aload_n 0, 1) := by decide +kernel
theorem dL_law_515 : decode cL_law 515 = .ok (.iload 4, 2) := by decide +kernel
theorem dL_law_517 : decode cL_law 517 = .ok (.iconst 2, 1) := by decide +kernel
theorem dL_law_518 : decode cL_law 518 = .ok (.iadd, 1) := by decide +kernel
theorem dL_law_519 : decode cL_law 519 = .ok (.iaload, 1) := by decide +kernel
theorem dL_law_520 : decode cL_law 520 = .ok (.invokevirtual 128, 3) := by decide +kernel
theorem dL_law_523 : decode cL_law 523 = .ok (.istore 6, 2) := by decide +kernel
theorem dL_law_525 : decode cL_law 525 = .ok (.aload_n 2, 1) := by decide +kernel
theorem dL_law_526 : decode cL_law 526 = .ok (.invokevirtual 110, 3) := by decide +kernel
theorem dL_law_529 : decode cL_law 529 = .ok (.iload 5, 2) := by decide +kernel
theorem dL_law_531 : decode cL_law 531 = .ok (.if_icmp .eq 5, 3) := by decide +kernel
theorem dL_law_534 : decode cL_law 534 = .ok (.iconst 0, 1) := by decide +kernel
theorem dL_law_535 : decode cL_law 535 = .ok (.ireturn, 1) := by decide +kernel
theorem dL_law_536 : decode cL_law 536 = .ok (.iload 5, 2) := by decide +kernel
theorem dL_law_538 : decode cL_law 538 = .ok (.ifCond .ne 15, 3) := by decide +kernel
theorem dL_law_541 : decode cL_law 541 = .ok (.aload_n 3, 1) := by decide +kernel
theorem dL_law_542 : decode cL_law 542 = .ok (.iconst 0, 1) := by decide +kernel
theorem dL_law_543 : decode cL_law 543 = .ok (.laload, 1) := by decide +kernel
theorem dL_law_544 : decode cL_law 544 = .ok (.iload 6, 2) := by decide +kernel
theorem dL_law_546 : decode cL_law 546 = .ok (.i2l, 1) := by decide +kernel
theorem dL_law_547 : decode cL_law 547 = .ok (.lcmp, 1) := by decide +kernel
theorem dL_law_548 : decode cL_law 548 = .ok (.ifCond .eq 5, 3) := by decide +kernel
theorem dL_law_551 : decode cL_law 551 = .ok (.iconst 0, 1) := by decide +kernel
theorem dL_law_552 : decode cL_law 552 = .ok (.ireturn, 1) := by decide +kernel
theorem dL_law_553 : decode cL_law 553 = .ok (.goto 1412, 3) := by decide +kernel
theorem dL_law_556 : decode cL_law 556 = .ok (.aload_n 1, 1) := by decide +kernel
theorem dL_law_557 : decode cL_law 557 = .ok (.aload_n 0, 1) := by decide +kernel
theorem dL_law_558 : decode cL_law 558 = .ok (.iload 4, 2) := by decide +kernel
theorem dL_law_560 : decode cL_law 560 = .ok (.iconst 1, 1) := by decide +kernel
theorem dL_law_561 : decode cL_law 561 = .ok (.iadd, 1) := by decide +kernel
theorem dL_law_562 : decode cL_law 562 = .ok (.iaload, 1) := by decide +kernel
theorem dL_law_563 : decode cL_law 563 = .ok (.aload_n 0, 1) := by decide +kernel
theorem dL_law_564 : decode cL_law 564 = .ok (.iload 4, 2) := by decide +kernel
theorem dL_law_566 : decode cL_law 566 = .ok (.iconst 2, 1) := by decide +kernel
theorem dL_law_567 : decode cL_law 567 = .ok (.iadd, 1) := by decide +kernel
theorem dL_law_568 : decode cL_law 568 = .ok (.iaload, 1) := by decide +kernel
theorem dL_law_569 : decode cL_law 569 = .ok (.aload_n 0, 1) := by decide +kernel
theorem dL_law_570 : decode cL_law 570 = .ok (.iload 4, 2) := by decide +kernel
theorem dL_law_572 : decode cL_law 572 = .ok (.iconst 3, 1) := by decide +kernel
theorem dL_law_573 : decode cL_law 573 = .ok (.iadd, 1) := by decide +kernel
theorem dL_law_574 : decode cL_law 574 = .ok (.iaload, 1) := by decide +kernel
theorem dL_law_575 : decode cL_law 575 = .ok (.aload_n 0, 1) := by decide +kernel
theorem dL_law_576 : decode cL_law 576 = .ok (.iload 4, 2) := by decide +kernel
theorem dL_law_578 : decode cL_law 578 = .ok (.iconst 4, 1) := by decide +kernel
theorem dL_law_579 : decode cL_law 579 = .ok (.iadd, 1) := by decide +kernel
theorem dL_law_580 : decode cL_law 580 = .ok (.iaload, 1) := by decide +kernel
theorem dL_law_581 : decode cL_law 581 = .ok (.aload_n 0, 1) := by decide +kernel
theorem dL_law_582 : decode cL_law 582 = .ok (.iload 4, 2) := by decide +kernel
theorem dL_law_584 : decode cL_law 584 = .ok (.iconst 5, 1) := by decide +kernel
theorem dL_law_585 : decode cL_law 585 = .ok (.iadd, 1) := by decide +kernel
theorem dL_law_586 : decode cL_law 586 = .ok (.iaload, 1) := by decide +kernel
theorem dL_law_587 : decode cL_law 587 = .ok (.aload_n 0, 1) := by decide +kernel
theorem dL_law_588 : decode cL_law 588 = .ok (.iload 4, 2) := by decide +kernel
theorem dL_law_590 : decode cL_law 590 = .ok (.bipush 6, 2) := by decide +kernel
theorem dL_law_592 : decode cL_law 592 = .ok (.iadd, 1) := by decide +kernel
theorem dL_law_593 : decode cL_law 593 = .ok (.iaload, 1) := by decide +kernel
theorem dL_law_594 : decode cL_law 594 = .ok (.aload_n 3, 1) := by decide +kernel
theorem dL_law_595 : decode cL_law 595 = .ok (.invokestatic 129, 3) := by decide +kernel
theorem dL_law_598 : decode cL_law 598 = .ok (.istore 5, 2) := by decide +kernel
theorem dL_law_600 : decode cL_law 600 = .ok (.aload_n 2, 1) := by decide +kernel
theorem dL_law_601 : decode cL_law 601 = .ok (.aload_n 0, 1) := by decide +kernel
theorem dL_law_602 : decode cL_law 602 = .ok (.iload 4, 2) := by decide +kernel
theorem dL_law_604 : decode cL_law 604 = .ok (.iconst 1, 1) := by decide +kernel
theorem dL_law_605 : decode cL_law 605 = .ok (.iadd, 1) := by decide +kernel
theorem dL_law_606 : decode cL_law 606 = .ok (.iaload, 1) := by decide +kernel
theorem dL_law_607 : decode cL_law 607 = .ok (.aload_n 0, 1) := by decide +kernel
theorem dL_law_608 : decode cL_law 608 = .ok (.iload 4, 2) := by decide +kernel
theorem dL_law_610 : decode cL_law 610 = .ok (.iconst 2, 1) := by decide +kernel
theorem dL_law_611 : decode cL_law 611 = .ok (.iadd, 1) := by decide +kernel
theorem dL_law_612 : decode cL_law 612 = .ok (.iaload, 1) := by decide +kernel
theorem dL_law_613 : decode cL_law 613 = .ok (.aload_n 0, 1) := by decide +kernel
theorem dL_law_614 : decode cL_law 614 = .ok (.iload 4, 2) := by decide +kernel
theorem dL_law_616 : decode cL_law 616 = .ok (.iconst 3, 1) := by decide +kernel
theorem dL_law_617 : decode cL_law 617 = .ok (.iadd, 1) := by decide +kernel
theorem dL_law_618 : decode cL_law 618 = .ok (.iaload, 1) := by decide +kernel
theorem dL_law_619 : decode cL_law 619 = .ok (.aload_n 0, 1) := by decide +kernel
theorem dL_law_620 : decode cL_law 620 = .ok (.iload 4, 2) := by decide +kernel
theorem dL_law_622 : decode cL_law 622 = .ok (.iconst 4, 1) := by decide +kernel
theorem dL_law_623 : decode cL_law 623 = .ok (.iadd, 1) := by decide +kernel
theorem dL_law_624 : decode cL_law 624 = .ok (.iaload, 1) := by decide +kernel
theorem dL_law_625 : decode cL_law 625 = .ok (.aload_n 0, 1) := by decide +kernel
theorem dL_law_626 : decode cL_law 626 = .ok (.iload 4, 2) := by decide +kernel
theorem dL_law_628 : decode cL_law 628 = .ok (.iconst 5, 1) := by decide +kernel
theorem dL_law_629 : decode cL_law 629 = .ok (.iadd, 1) := by decide +kernel
theorem dL_law_630 : decode cL_law 630 = .ok (.iaload, 1) := by decide +kernel
theorem dL_law_631 : decode cL_law 631 = .ok (.aload_n 0, 1) := by decide +kernel
theorem dL_law_632 : decode cL_law 632 = .ok (.iload 4, 2) := by decide +kernel
theorem dL_law_634 : decode cL_law 634 = .ok (.bipush 6, 2) := by decide +kernel
theorem dL_law_636 : decode cL_law 636 = .ok (.iadd, 1) := by decide +kernel
theorem dL_law_637 : decode cL_law 637 = .ok (.iaload, 1) := by decide +kernel
theorem dL_law_638 : decode cL_law 638 = .ok (.invokevirtual 132, 3) := by decide +kernel
theorem dL_law_641 : decode cL_law 641 = .ok (.istore 6, 2) := by decide +kernel
theorem dL_law_643 : decode cL_law 643 = .ok (.aload_n 2, 1) := by decide +kernel
theorem dL_law_644 : decode cL_law 644 = .ok (.invokevirtual 110, 3) := by decide +kernel
theorem dL_law_647 : decode cL_law 647 = .ok (.iload 5, 2) := by decide +kernel
theorem dL_law_649 : decode cL_law 649 = .ok (.if_icmp .eq 5, 3) := by decide +kernel
theorem dL_law_652 : decode cL_law 652 = .ok (.iconst 0, 1) := by decide +kernel
theorem dL_law_653 : decode cL_law 653 = .ok (.ireturn, 1) := by decide +kernel
theorem dL_law_654 : decode cL_law 654 = .ok (.iload 5, 2) := by decide +kernel
theorem dL_law_656 : decode cL_law 656 = .ok (.ifCond .ne 15, 3) := by decide +kernel
theorem dL_law_659 : decode cL_law 659 = .ok (.aload_n 3, 1) := by decide +kernel
theorem dL_law_660 : decode cL_law 660 = .ok (.iconst 0, 1) := by decide +kernel
theorem dL_law_661 : decode cL_law 661 = .ok (.laload, 1) := by decide +kernel
theorem dL_law_662 : decode cL_law 662 = .ok (.iload 6, 2) := by decide +kernel
theorem dL_law_664 : decode cL_law 664 = .ok (.i2l, 1) := by decide +kernel
theorem dL_law_665 : decode cL_law 665 = .ok (.lcmp, 1) := by decide +kernel
theorem dL_law_666 : decode cL_law 666 = .ok (.ifCond .eq 5, 3) := by decide +kernel
theorem dL_law_669 : decode cL_law 669 = .ok (.iconst 0, 1) := by decide +kernel
theorem dL_law_670 : decode cL_law 670 = .ok (.ireturn, 1) := by decide +kernel
theorem dL_law_671 : decode cL_law 671 = .ok (.goto 1294, 3) := by decide +kernel
theorem dL_law_674 : decode cL_law 674 = .ok (.aload_n 1, 1) := by decide +kernel
theorem dL_law_675 : decode cL_law 675 = .ok (.aload_n 0, 1) := by decide +kernel
theorem dL_law_676 : decode cL_law 676 = .ok (.iload 4, 2) := by decide +kernel
theorem dL_law_678 : decode cL_law 678 = .ok (.iconst 1, 1) := by decide +kernel
theorem dL_law_679 : decode cL_law 679 = .ok (.iadd, 1) := by decide +kernel
theorem dL_law_680 : decode cL_law 680 = .ok (.iaload, 1) := by decide +kernel
theorem dL_law_681 : decode cL_law 681 = .ok (.aload_n 0, 1) := by decide +kernel
theorem dL_law_682 : decode cL_law 682 = .ok (.iload 4, 2) := by decide +kernel
theorem dL_law_684 : decode cL_law 684 = .ok (.iconst 2, 1) := by decide +kernel
theorem dL_law_685 : decode cL_law 685 = .ok (.iadd, 1) := by decide +kernel
theorem dL_law_686 : decode cL_law 686 = .ok (.iaload, 1) := by decide +kernel
theorem dL_law_687 : decode cL_law 687 = .ok (.aload_n 3, 1) := by decide +kernel
theorem dL_law_688 : decode cL_law 688 = .ok (.invokestatic 133, 3) := by decide +kernel
theorem dL_law_691 : decode cL_law 691 = .ok (.istore 5, 2) := by decide +kernel
theorem dL_law_693 : decode cL_law 693 = .ok (.aload_n 2, 1) := by decide +kernel
theorem dL_law_694 : decode cL_law 694 = .ok (.aload_n 0, 1) := by decide +kernel
theorem dL_law_695 : decode cL_law 695 = .ok (.iload 4, 2) := by decide +kernel
theorem dL_law_697 : decode cL_law 697 = .ok (.iconst 1, 1) := by decide +kernel
theorem dL_law_698 : decode cL_law 698 = .ok (.iadd, 1) := by decide +kernel
theorem dL_law_699 : decode cL_law 699 = .ok (.iaload, 1) := by decide +kernel
theorem dL_law_700 : decode cL_law 700 = .ok (.aload_n 0, 1) := by decide +kernel
theorem dL_law_701 : decode cL_law 701 = .ok (.iload 4, 2) := by decide +kernel
theorem dL_law_703 : decode cL_law 703 = .ok (.iconst 2, 1) := by decide +kernel
theorem dL_law_704 : decode cL_law 704 = .ok (.iadd, 1) := by decide +kernel
theorem dL_law_705 : decode cL_law 705 = .ok (.iaload, 1) := by decide +kernel
theorem dL_law_706 : decode cL_law 706 = .ok (.invokevirtual 135, 3) := by decide +kernel
theorem dL_law_709 : decode cL_law 709 = .ok (.istore 6, 2) := by decide +kernel
theorem dL_law_711 : decode cL_law 711 = .ok (.aload_n 2, 1) := by decide +kernel
theorem dL_law_712 : decode cL_law 712 = .ok (.invokevirtual 110, 3) := by decide +kernel
theorem dL_law_715 : decode cL_law 715 = .ok (.iload 5, 2) := by decide +kernel
theorem dL_law_717 : decode cL_law 717 = .ok (.if_icmp .eq 5, 3) := by decide +kernel
theorem dL_law_720 : decode cL_law 720 = .ok (.iconst 0, 1) := by decide +kernel
theorem dL_law_721 : decode cL_law 721 = .ok (.ireturn, 1) := by decide +kernel
theorem dL_law_722 : decode cL_law 722 = .ok (.iload 5, 2) := by decide +kernel
theorem dL_law_724 : decode cL_law 724 = .ok (.ifCond .ne 15, 3) := by decide +kernel
theorem dL_law_727 : decode cL_law 727 = .ok (.aload_n 3, 1) := by decide +kernel
theorem dL_law_728 : decode cL_law 728 = .ok (.iconst 0, 1) := by decide +kernel
theorem dL_law_729 : decode cL_law 729 = .ok (.laload, 1) := by decide +kernel
theorem dL_law_730 : decode cL_law 730 = .ok (.iload 6, 2) := by decide +kernel
theorem dL_law_732 : decode cL_law 732 = .ok (.i2l, 1) := by decide +kernel
theorem dL_law_733 : decode cL_law 733 = .ok (.lcmp, 1) := by decide +kernel
theorem dL_law_734 : decode cL_law 734 = .ok (.ifCond .eq 5, 3) := by decide +kernel
theorem dL_law_737 : decode cL_law 737 = .ok (.iconst 0, 1) := by decide +kernel
theorem dL_law_738 : decode cL_law 738 = .ok (.ireturn, 1) := by decide +kernel
theorem dL_law_739 : decode cL_law 739 = .ok (.goto 1226, 3) := by decide +kernel
theorem dL_law_742 : decode cL_law 742 = .ok (.aload_n 1, 1) := by decide +kernel
theorem dL_law_743 : decode cL_law 743 = .ok (.aload_n 0, 1) := by decide +kernel
theorem dL_law_744 : decode cL_law 744 = .ok (.iload 4, 2) := by decide +kernel
theorem dL_law_746 : decode cL_law 746 = .ok (.iconst 1, 1) := by decide +kernel
theorem dL_law_747 : decode cL_law 747 = .ok (.iadd, 1) := by decide +kernel
theorem dL_law_748 : decode cL_law 748 = .ok (.iaload, 1) := by decide +kernel
theorem dL_law_749 : decode cL_law 749 = .ok (.aload_n 0, 1) := by decide +kernel
theorem dL_law_750 : decode cL_law 750 = .ok (.iload 4, 2) := by decide +kernel
theorem dL_law_752 : decode cL_law 752 = .ok (.iconst 2, 1) := by decide +kernel
theorem dL_law_753 : decode cL_law 753 = .ok (.iadd, 1) := by decide +kernel
theorem dL_law_754 : decode cL_law 754 = .ok (.iaload, 1) := by decide +kernel
theorem dL_law_755 : decode cL_law 755 = .ok (.aload_n 3, 1) := by decide +kernel
theorem dL_law_756 : decode cL_law 756 = .ok (.invokestatic 136, 3) := by decide +kernel
theorem dL_law_759 : decode cL_law 759 = .ok (.istore 5, 2) := by decide +kernel
theorem dL_law_761 : decode cL_law 761 = .ok (.aload_n 2, 1) := by decide +kernel
theorem dL_law_762 : decode cL_law 762 = .ok (.aload_n 0, 1) := by decide +kernel
theorem dL_law_763 : decode cL_law 763 = .ok (.iload 4, 2) := by decide +kernel
theorem dL_law_765 : decode cL_law 765 = .ok (.iconst 1, 1) := by decide +kernel
theorem dL_law_766 : decode cL_law 766 = .ok (.iadd, 1) := by decide +kernel
theorem dL_law_767 : decode cL_law 767 = .ok (.iaload, 1) := by decide +kernel
theorem dL_law_768 : decode cL_law 768 = .ok (.aload_n 0, 1) := by decide +kernel
theorem dL_law_769 : decode cL_law 769 = .ok (.iload 4, 2) := by decide +kernel
theorem dL_law_771 : decode cL_law 771 = .ok (.iconst 2, 1) := by decide +kernel
theorem dL_law_772 : decode cL_law 772 = .ok (.iadd, 1) := by decide +kernel
theorem dL_law_773 : decode cL_law 773 = .ok (.iaload, 1) := by decide +kernel
theorem dL_law_774 : decode cL_law 774 = .ok (.invokevirtual 138, 3) := by decide +kernel
theorem dL_law_777 : decode cL_law 777 = .ok (.istore 6, 2) := by decide +kernel
theorem dL_law_779 : decode cL_law 779 = .ok (.aload_n 2, 1) := by decide +kernel
theorem dL_law_780 : decode cL_law 780 = .ok (.invokevirtual 110, 3) := by decide +kernel
theorem dL_law_783 : decode cL_law 783 = .ok (.iload 5, 2) := by decide +kernel
theorem dL_law_785 : decode cL_law 785 = .ok (.if_icmp .eq 5, 3) := by decide +kernel
theorem dL_law_788 : decode cL_law 788 = .ok (.iconst 0, 1) := by decide +kernel
theorem dL_law_789 : decode cL_law 789 = .ok (.ireturn, 1) := by decide +kernel
theorem dL_law_790 : decode cL_law 790 = .ok (.iload 5, 2) := by decide +kernel
theorem dL_law_792 : decode cL_law 792 = .ok (.ifCond .ne 15, 3) := by decide +kernel
theorem dL_law_795 : decode cL_law 795 = .ok (.aload_n 3, 1) := by decide +kernel
theorem dL_law_796 : decode cL_law 796 = .ok (.iconst 0, 1) := by decide +kernel
theorem dL_law_797 : decode cL_law 797 = .ok (.laload, 1) := by decide +kernel
theorem dL_law_798 : decode cL_law 798 = .ok (.iload 6, 2) := by decide +kernel
theorem dL_law_800 : decode cL_law 800 = .ok (.i2l, 1) := by decide +kernel
theorem dL_law_801 : decode cL_law 801 = .ok (.lcmp, 1) := by decide +kernel
theorem dL_law_802 : decode cL_law 802 = .ok (.ifCond .eq 5, 3) := by decide +kernel
theorem dL_law_805 : decode cL_law 805 = .ok (.iconst 0, 1) := by decide +kernel
theorem dL_law_806 : decode cL_law 806 = .ok (.ireturn, 1) := by decide +kernel
theorem dL_law_807 : decode cL_law 807 = .ok (.goto 1158, 3) := by decide +kernel
theorem dL_law_810 : decode cL_law 810 = .ok (.aload_n 1, 1) := by decide +kernel
theorem dL_law_811 : decode cL_law 811 = .ok (.aload_n 0, 1) := by decide +kernel
theorem dL_law_812 : decode cL_law 812 = .ok (.iload 4, 2) := by decide +kernel
theorem dL_law_814 : decode cL_law 814 = .ok (.iconst 1, 1) := by decide +kernel
theorem dL_law_815 : decode cL_law 815 = .ok (.iadd, 1) := by decide +kernel
theorem dL_law_816 : decode cL_law 816 = .ok (.iaload, 1) := by decide +kernel
theorem dL_law_817 : decode cL_law 817 = .ok (.aload_n 3, 1) := by decide +kernel
theorem dL_law_818 : decode cL_law 818 = .ok (.invokestatic 139, 3) := by decide +kernel
theorem dL_law_821 : decode cL_law 821 = .ok (.istore 5, 2) := by decide +kernel
theorem dL_law_823 : decode cL_law 823 = .ok (.aload_n 2, 1) := by decide +kernel
theorem dL_law_824 : decode cL_law 824 = .ok (.aload_n 0, 1) := by decide +kernel
theorem dL_law_825 : decode cL_law 825 = .ok (.iload 4, 2) := by decide +kernel
theorem dL_law_827 : decode cL_law 827 = .ok (.iconst 1, 1) := by decide +kernel
theorem dL_law_828 : decode cL_law 828 = .ok (.iadd, 1) := by decide +kernel
theorem dL_law_829 : decode cL_law 829 = .ok (.iaload, 1) := by decide +kernel
theorem dL_law_830 : decode cL_law 830 = .ok (.invokevirtual 141, 3) := by decide +kernel
theorem dL_law_833 : decode cL_law 833 = .ok (.istore 6, 2) := by decide +kernel
theorem dL_law_835 : decode cL_law 835 = .ok (.aload_n 2, 1) := by decide +kernel
theorem dL_law_836 : decode cL_law 836 = .ok (.invokevirtual 110, 3) := by decide +kernel
theorem dL_law_839 : decode cL_law 839 = .ok (.iload 5, 2) := by decide +kernel
theorem dL_law_841 : decode cL_law 841 = .ok (.if_icmp .eq 5, 3) := by decide +kernel
theorem dL_law_844 : decode cL_law 844 = .ok (.iconst 0, 1) := by decide +kernel
theorem dL_law_845 : decode cL_law 845 = .ok (.ireturn, 1) := by decide +kernel
theorem dL_law_846 : decode cL_law 846 = .ok (.iload 5, 2) := by decide +kernel
theorem dL_law_848 : decode cL_law 848 = .ok (.ifCond .ne 15, 3) := by decide +kernel
theorem dL_law_851 : decode cL_law 851 = .ok (.aload_n 3, 1) := by decide +kernel
theorem dL_law_852 : decode cL_law 852 = .ok (.iconst 0, 1) := by decide +kernel
theorem dL_law_853 : decode cL_law 853 = .ok (.laload, 1) := by decide +kernel
theorem dL_law_854 : decode cL_law 854 = .ok (.iload 6, 2) := by decide +kernel
theorem dL_law_856 : decode cL_law 856 = .ok (.i2l, 1) := by decide +kernel
theorem dL_law_857 : decode cL_law 857 = .ok (.lcmp, 1) := by decide +kernel
theorem dL_law_858 : decode cL_law 858 = .ok (.ifCond .eq 5, 3) := by decide +kernel
theorem dL_law_861 : decode cL_law 861 = .ok (.iconst 0, 1) := by decide +kernel
theorem dL_law_862 : decode cL_law 862 = .ok (.ireturn, 1) := by decide +kernel
theorem dL_law_863 : decode cL_law 863 = .ok (.goto 1102, 3) := by decide +kernel
theorem dL_law_866 : decode cL_law 866 = .ok (.aload_n 1, 1) := by decide +kernel
theorem dL_law_867 : decode cL_law 867 = .ok (.aload_n 0, 1) := by decide +kernel
theorem dL_law_868 : decode cL_law 868 = .ok (.iload 4, 2) := by decide +kernel
theorem dL_law_870 : decode cL_law 870 = .ok (.iconst 1, 1) := by decide +kernel
theorem dL_law_871 : decode cL_law 871 = .ok (.iadd, 1) := by decide +kernel
theorem dL_law_872 : decode cL_law 872 = .ok (.iaload, 1) := by decide +kernel
theorem dL_law_873 : decode cL_law 873 = .ok (.aload_n 0, 1) := by decide +kernel
theorem dL_law_874 : decode cL_law 874 = .ok (.iload 4, 2) := by decide +kernel
theorem dL_law_876 : decode cL_law 876 = .ok (.iconst 2, 1) := by decide +kernel
theorem dL_law_877 : decode cL_law 877 = .ok (.iadd, 1) := by decide +kernel
theorem dL_law_878 : decode cL_law 878 = .ok (.iaload, 1) := by decide +kernel
theorem dL_law_879 : decode cL_law 879 = .ok (.aload_n 0, 1) := by decide +kernel
theorem dL_law_880 : decode cL_law 880 = .ok (.iload 4, 2) := by decide +kernel
theorem dL_law_882 : decode cL_law 882 = .ok (.iconst 3, 1) := by decide +kernel
theorem dL_law_883 : decode cL_law 883 = .ok (.iadd, 1) := by decide +kernel
theorem dL_law_884 : decode cL_law 884 = .ok (.iaload, 1) := by decide +kernel
theorem dL_law_885 : decode cL_law 885 = .ok (.aload_n 3, 1) := by decide +kernel
theorem dL_law_886 : decode cL_law 886 = .ok (.invokestatic 142, 3) := by decide +kernel
theorem dL_law_889 : decode cL_law 889 = .ok (.istore 5, 2) := by decide +kernel
theorem dL_law_891 : decode cL_law 891 = .ok (.aload_n 2, 1) := by decide +kernel
theorem dL_law_892 : decode cL_law 892 = .ok (.aload_n 0, 1) := by decide +kernel
theorem dL_law_893 : decode cL_law 893 = .ok (.iload 4, 2) := by decide +kernel
theorem dL_law_895 : decode cL_law 895 = .ok (.iconst 1, 1) := by decide +kernel
theorem dL_law_896 : decode cL_law 896 = .ok (.iadd, 1) := by decide +kernel
theorem dL_law_897 : decode cL_law 897 = .ok (.iaload, 1) := by decide +kernel
theorem dL_law_898 : decode cL_law 898 = .ok (.aload_n 0, 1) := by decide +kernel
theorem dL_law_899 : decode cL_law 899 = .ok (.iload 4, 2) := by decide +kernel
theorem dL_law_901 : decode cL_law 901 = .ok (.iconst 2, 1) := by decide +kernel
theorem dL_law_902 : decode cL_law 902 = .ok (.iadd, 1) := by decide +kernel
theorem dL_law_903 : decode cL_law 903 = .ok (.iaload, 1) := by decide +kernel
theorem dL_law_904 : decode cL_law 904 = .ok (.aload_n 0, 1) := by decide +kernel
theorem dL_law_905 : decode cL_law 905 = .ok (.iload 4, 2) := by decide +kernel
theorem dL_law_907 : decode cL_law 907 = .ok (.iconst 3, 1) := by decide +kernel
theorem dL_law_908 : decode cL_law 908 = .ok (.iadd, 1) := by decide +kernel
theorem dL_law_909 : decode cL_law 909 = .ok (.iaload, 1) := by decide +kernel
theorem dL_law_910 : decode cL_law 910 = .ok (.invokevirtual 145, 3) := by decide +kernel
theorem dL_law_913 : decode cL_law 913 = .ok (.istore 6, 2) := by decide +kernel
theorem dL_law_915 : decode cL_law 915 = .ok (.aload_n 2, 1) := by decide +kernel
theorem dL_law_916 : decode cL_law 916 = .ok (.invokevirtual 110, 3) := by decide +kernel
theorem dL_law_919 : decode cL_law 919 = .ok (.iload 5, 2) := by decide +kernel
theorem dL_law_921 : decode cL_law 921 = .ok (.if_icmp .eq 5, 3) := by decide +kernel
theorem dL_law_924 : decode cL_law 924 = .ok (.iconst 0, 1) := by decide +kernel
theorem dL_law_925 : decode cL_law 925 = .ok (.ireturn, 1) := by decide +kernel
theorem dL_law_926 : decode cL_law 926 = .ok (.iload 5, 2) := by decide +kernel
theorem dL_law_928 : decode cL_law 928 = .ok (.ifCond .ne 15, 3) := by decide +kernel
theorem dL_law_931 : decode cL_law 931 = .ok (.aload_n 3, 1) := by decide +kernel
theorem dL_law_932 : decode cL_law 932 = .ok (.iconst 0, 1) := by decide +kernel
theorem dL_law_933 : decode cL_law 933 = .ok (.laload, 1) := by decide +kernel
theorem dL_law_934 : decode cL_law 934 = .ok (.iload 6, 2) := by decide +kernel
theorem dL_law_936 : decode cL_law 936 = .ok (.i2l, 1) := by decide +kernel
theorem dL_law_937 : decode cL_law 937 = .ok (.lcmp, 1) := by decide +kernel
theorem dL_law_938 : decode cL_law 938 = .ok (.ifCond .eq 5, 3) := by decide +kernel
theorem dL_law_941 : decode cL_law 941 = .ok (.iconst 0, 1) := by decide +kernel
theorem dL_law_942 : decode cL_law 942 = .ok (.ireturn, 1) := by decide +kernel
theorem dL_law_943 : decode cL_law 943 = .ok (.goto 1022, 3) := by decide +kernel
theorem dL_law_946 : decode cL_law 946 = .ok (.aload_n 1, 1) := by decide +kernel
theorem dL_law_947 : decode cL_law 947 = .ok (.aload_n 0, 1) := by decide +kernel
theorem dL_law_948 : decode cL_law 948 = .ok (.iload 4, 2) := by decide +kernel
theorem dL_law_950 : decode cL_law 950 = .ok (.iconst 1, 1) := by decide +kernel
theorem dL_law_951 : decode cL_law 951 = .ok (.iadd, 1) := by decide +kernel
theorem dL_law_952 : decode cL_law 952 = .ok (.iaload, 1) := by decide +kernel
theorem dL_law_953 : decode cL_law 953 = .ok (.aload_n 3, 1) := by decide +kernel
theorem dL_law_954 : decode cL_law 954 = .ok (.invokestatic 146, 3) := by decide +kernel
theorem dL_law_957 : decode cL_law 957 = .ok (.istore 5, 2) := by decide +kernel
theorem dL_law_959 : decode cL_law 959 = .ok (.aload_n 2, 1) := by decide +kernel
theorem dL_law_960 : decode cL_law 960 = .ok (.aload_n 0, 1) := by decide +kernel
theorem dL_law_961 : decode cL_law 961 = .ok (.iload 4, 2) := by decide +kernel
theorem dL_law_963 : decode cL_law 963 = .ok (.iconst 1, 1) := by decide +kernel
theorem dL_law_964 : decode cL_law 964 = .ok (.iadd, 1) := by decide +kernel
theorem dL_law_965 : decode cL_law 965 = .ok (.iaload, 1) := by decide +kernel
theorem dL_law_966 : decode cL_law 966 = .ok (.invokevirtual 148, 3) := by decide +kernel
theorem dL_law_969 : decode cL_law 969 = .ok (.istore 6, 2) := by decide +kernel
theorem dL_law_971 : decode cL_law 971 = .ok (.aload_n 2, 1) := by decide +kernel
theorem dL_law_972 : decode cL_law 972 = .ok (.invokevirtual 110, 3) := by decide +kernel
theorem dL_law_975 : decode cL_law 975 = .ok (.iload 5, 2) := by decide +kernel
theorem dL_law_977 : decode cL_law 977 = .ok (.if_icmp .eq 5, 3) := by decide +kernel
theorem dL_law_980 : decode cL_law 980 = .ok (.iconst 0, 1) := by decide +kernel
theorem dL_law_981 : decode cL_law 981 = .ok (.ireturn, 1) := by decide +kernel
theorem dL_law_982 : decode cL_law 982 = .ok (.iload 5, 2) := by decide +kernel
theorem dL_law_984 : decode cL_law 984 = .ok (.ifCond .ne 15, 3) := by decide +kernel
theorem dL_law_987 : decode cL_law 987 = .ok (.aload_n 3, 1) := by decide +kernel
theorem dL_law_988 : decode cL_law 988 = .ok (.iconst 0, 1) := by decide +kernel
theorem dL_law_989 : decode cL_law 989 = .ok (.laload, 1) := by decide +kernel
theorem dL_law_990 : decode cL_law 990 = .ok (.iload 6, 2) := by decide +kernel
theorem dL_law_992 : decode cL_law 992 = .ok (.i2l, 1) := by decide +kernel
theorem dL_law_993 : decode cL_law 993 = .ok (.lcmp, 1) := by decide +kernel
theorem dL_law_994 : decode cL_law 994 = .ok (.ifCond .eq 5, 3) := by decide +kernel
theorem dL_law_997 : decode cL_law 997 = .ok (.iconst 0, 1) := by decide +kernel
theorem dL_law_998 : decode cL_law 998 = .ok (.ireturn, 1) := by decide +kernel
theorem dL_law_999 : decode cL_law 999 = .ok (.goto 966, 3) := by decide +kernel
theorem dL_law_1002 : decode cL_law 1002 = .ok (.aload_n 1, 1) := by decide +kernel
theorem dL_law_1003 : decode cL_law 1003 = .ok (.aload_n 0, 1) := by decide +kernel
theorem dL_law_1004 : decode cL_law 1004 = .ok (.iload 4, 2) := by decide +kernel
theorem dL_law_1006 : decode cL_law 1006 = .ok (.iconst 1, 1) := by decide +kernel
theorem dL_law_1007 : decode cL_law 1007 = .ok (.iadd, 1) := by decide +kernel
theorem dL_law_1008 : decode cL_law 1008 = .ok (.iaload, 1) := by decide +kernel
theorem dL_law_1009 : decode cL_law 1009 = .ok (.aload_n 0, 1) := by decide +kernel
theorem dL_law_1010 : decode cL_law 1010 = .ok (.iload 4, 2) := by decide +kernel
theorem dL_law_1012 : decode cL_law 1012 = .ok (.iconst 2, 1) := by decide +kernel
theorem dL_law_1013 : decode cL_law 1013 = .ok (.iadd, 1) := by decide +kernel
theorem dL_law_1014 : decode cL_law 1014 = .ok (.iaload, 1) := by decide +kernel
theorem dL_law_1015 : decode cL_law 1015 = .ok (.aload_n 0, 1) := by decide +kernel
theorem dL_law_1016 : decode cL_law 1016 = .ok (.iload 4, 2) := by decide +kernel
theorem dL_law_1018 : decode cL_law 1018 = .ok (.iconst 3, 1) := by decide +kernel
theorem dL_law_1019 : decode cL_law 1019 = .ok (.iadd, 1) := by decide +kernel
theorem dL_law_1020 : decode cL_law 1020 = .ok (.iaload, 1) := by decide +kernel
theorem dL_law_1021 : decode cL_law 1021 = .ok (.aload_n 3, 1) := by decide +kernel
theorem dL_law_1022 : decode cL_law 1022 = .ok (.invokestatic 149, 3) := by decide +kernel
theorem dL_law_1025 : decode cL_law 1025 = .ok (.istore 5, 2) := by decide +kernel
theorem dL_law_1027 : decode cL_law 1027 = .ok (.aload_n 2, 1) := by decide +kernel
theorem dL_law_1028 : decode cL_law 1028 = .ok (.aload_n 0, 1) := by decide +kernel
theorem dL_law_1029 : decode cL_law 1029 = .ok (.iload 4, 2) := by decide +kernel
theorem dL_law_1031 : decode cL_law 1031 = .ok (.iconst 1, 1) := by decide +kernel
theorem dL_law_1032 : decode cL_law 1032 = .ok (.iadd, 1) := by decide +kernel
theorem dL_law_1033 : decode cL_law 1033 = .ok (.iaload, 1) := by decide +kernel
theorem dL_law_1034 : decode cL_law 1034 = .ok (.aload_n 0, 1) := by decide +kernel
theorem dL_law_1035 : decode cL_law 1035 = .ok (.iload 4, 2) := by decide +kernel
theorem dL_law_1037 : decode cL_law 1037 = .ok (.iconst 2, 1) := by decide +kernel
theorem dL_law_1038 : decode cL_law 1038 = .ok (.iadd, 1) := by decide +kernel
theorem dL_law_1039 : decode cL_law 1039 = .ok (.iaload, 1) := by decide +kernel
theorem dL_law_1040 : decode cL_law 1040 = .ok (.aload_n 0, 1) := by decide +kernel
theorem dL_law_1041 : decode cL_law 1041 = .ok (.iload 4, 2) := by decide +kernel
theorem dL_law_1043 : decode cL_law 1043 = .ok (.iconst 3, 1) := by decide +kernel
theorem dL_law_1044 : decode cL_law 1044 = .ok (.iadd, 1) := by decide +kernel
theorem dL_law_1045 : decode cL_law 1045 = .ok (.iaload, 1) := by decide +kernel
theorem dL_law_1046 : decode cL_law 1046 = .ok (.invokevirtual 151, 3) := by decide +kernel
theorem dL_law_1049 : decode cL_law 1049 = .ok (.istore 6, 2) := by decide +kernel
theorem dL_law_1051 : decode cL_law 1051 = .ok (.aload_n 2, 1) := by decide +kernel
theorem dL_law_1052 : decode cL_law 1052 = .ok (.invokevirtual 110, 3) := by decide +kernel
theorem dL_law_1055 : decode cL_law 1055 = .ok (.iload 5, 2) := by decide +kernel
theorem dL_law_1057 : decode cL_law 1057 = .ok (.if_icmp .eq 5, 3) := by decide +kernel
theorem dL_law_1060 : decode cL_law 1060 = .ok (.iconst 0, 1) := by decide +kernel
theorem dL_law_1061 : decode cL_law 1061 = .ok (.ireturn, 1) := by decide +kernel
theorem dL_law_1062 : decode cL_law 1062 = .ok (.iload 5, 2) := by decide +kernel
theorem dL_law_1064 : decode cL_law 1064 = .ok (.ifCond .ne 15, 3) := by decide +kernel
theorem dL_law_1067 : decode cL_law 1067 = .ok (.aload_n 3, 1) := by decide +kernel
theorem dL_law_1068 : decode cL_law 1068 = .ok (.iconst 0, 1) := by decide +kernel
theorem dL_law_1069 : decode cL_law 1069 = .ok (.laload, 1) := by decide +kernel
theorem dL_law_1070 : decode cL_law 1070 = .ok (.iload 6, 2) := by decide +kernel
theorem dL_law_1072 : decode cL_law 1072 = .ok (.i2l, 1) := by decide +kernel
theorem dL_law_1073 : decode cL_law 1073 = .ok (.lcmp, 1) := by decide +kernel
theorem dL_law_1074 : decode cL_law 1074 = .ok (.ifCond .eq 5, 3) := by decide +kernel
theorem dL_law_1077 : decode cL_law 1077 = .ok (.iconst 0, 1) := by decide +kernel
theorem dL_law_1078 : decode cL_law 1078 = .ok (.ireturn, 1) := by decide +kernel
theorem dL_law_1079 : decode cL_law 1079 = .ok (.goto 886, 3) := by decide +kernel
theorem dL_law_1082 : decode cL_law 1082 = .ok (.aload_n 1, 1) := by decide +kernel
theorem dL_law_1083 : decode cL_law 1083 = .ok (.aload_n 0, 1) := by decide +kernel
theorem dL_law_1084 : decode cL_law 1084 = .ok (.iload 4, 2) := by decide +kernel
theorem dL_law_1086 : decode cL_law 1086 = .ok (.iconst 1, 1) := by decide +kernel
theorem dL_law_1087 : decode cL_law 1087 = .ok (.iadd, 1) := by decide +kernel
theorem dL_law_1088 : decode cL_law 1088 = .ok (.iaload, 1) := by decide +kernel
theorem dL_law_1089 : decode cL_law 1089 = .ok (.aload_n 3, 1) := by decide +kernel
theorem dL_law_1090 : decode cL_law 1090 = .ok (.invokestatic 152, 3) := by decide +kernel
theorem dL_law_1093 : decode cL_law 1093 = .ok (.istore 5, 2) := by decide +kernel
theorem dL_law_1095 : decode cL_law 1095 = .ok (.aload_n 2, 1) := by decide +kernel
theorem dL_law_1096 : decode cL_law 1096 = .ok (.aload_n 0, 1) := by decide +kernel
theorem dL_law_1097 : decode cL_law 1097 = .ok (.iload 4, 2) := by decide +kernel
theorem dL_law_1099 : decode cL_law 1099 = .ok (.iconst 1, 1) := by decide +kernel
theorem dL_law_1100 : decode cL_law 1100 = .ok (.iadd, 1) := by decide +kernel
theorem dL_law_1101 : decode cL_law 1101 = .ok (.iaload, 1) := by decide +kernel
theorem dL_law_1102 : decode cL_law 1102 = .ok (.invokevirtual 154, 3) := by decide +kernel
theorem dL_law_1105 : decode cL_law 1105 = .ok (.istore 6, 2) := by decide +kernel
theorem dL_law_1107 : decode cL_law 1107 = .ok (.aload_n 2, 1) := by decide +kernel
theorem dL_law_1108 : decode cL_law 1108 = .ok (.invokevirtual 110, 3) := by decide +kernel
theorem dL_law_1111 : decode cL_law 1111 = .ok (.iload 5, 2) := by decide +kernel
theorem dL_law_1113 : decode cL_law 1113 = .ok (.if_icmp .eq 5, 3) := by decide +kernel
theorem dL_law_1116 : decode cL_law 1116 = .ok (.iconst 0, 1) := by decide +kernel
theorem dL_law_1117 : decode cL_law 1117 = .ok (.ireturn, 1) := by decide +kernel
theorem dL_law_1118 : decode cL_law 1118 = .ok (.iload 5, 2) := by decide +kernel
theorem dL_law_1120 : decode cL_law 1120 = .ok (.ifCond .ne 15, 3) := by decide +kernel
theorem dL_law_1123 : decode cL_law 1123 = .ok (.aload_n 3, 1) := by decide +kernel
theorem dL_law_1124 : decode cL_law 1124 = .ok (.iconst 0, 1) := by decide +kernel
theorem dL_law_1125 : decode cL_law 1125 = .ok (.laload, 1) := by decide +kernel
theorem dL_law_1126 : decode cL_law 1126 = .ok (.iload 6, 2) := by decide +kernel
theorem dL_law_1128 : decode cL_law 1128 = .ok (.i2l, 1) := by decide +kernel
theorem dL_law_1129 : decode cL_law 1129 = .ok (.lcmp, 1) := by decide +kernel
theorem dL_law_1130 : decode cL_law 1130 = .ok (.ifCond .eq 5, 3) := by decide +kernel
theorem dL_law_1133 : decode cL_law 1133 = .ok (.iconst 0, 1) := by decide +kernel
theorem dL_law_1134 : decode cL_law 1134 = .ok (.ireturn, 1) := by decide +kernel
theorem dL_law_1135 : decode cL_law 1135 = .ok (.goto 830, 3) := by decide +kernel
theorem dL_law_1138 : decode cL_law 1138 = .ok (.aload_n 1, 1) := by decide +kernel
theorem dL_law_1139 : decode cL_law 1139 = .ok (.aload_n 0, 1) := by decide +kernel
theorem dL_law_1140 : decode cL_law 1140 = .ok (.iload 4, 2) := by decide +kernel
theorem dL_law_1142 : decode cL_law 1142 = .ok (.iconst 1, 1) := by decide +kernel
theorem dL_law_1143 : decode cL_law 1143 = .ok (.iadd, 1) := by decide +kernel
theorem dL_law_1144 : decode cL_law 1144 = .ok (.iaload, 1) := by decide +kernel
theorem dL_law_1145 : decode cL_law 1145 = .ok (.aload_n 0, 1) := by decide +kernel
theorem dL_law_1146 : decode cL_law 1146 = .ok (.iload 4, 2) := by decide +kernel
theorem dL_law_1148 : decode cL_law 1148 = .ok (.iconst 2, 1) := by decide +kernel
theorem dL_law_1149 : decode cL_law 1149 = .ok (.iadd, 1) := by decide +kernel
theorem dL_law_1150 : decode cL_law 1150 = .ok (.iaload, 1) := by decide +kernel
theorem dL_law_1151 : decode cL_law 1151 = .ok (.aload_n 3, 1) := by decide +kernel
theorem dL_law_1152 : decode cL_law 1152 = .ok (.invokestatic 155, 3) := by decide +kernel
theorem dL_law_1155 : decode cL_law 1155 = .ok (.istore 5, 2) := by decide +kernel
theorem dL_law_1157 : decode cL_law 1157 = .ok (.aload_n 2, 1) := by decide +kernel
theorem dL_law_1158 : decode cL_law 1158 = .ok (.aload_n 0, 1) := by decide +kernel
theorem dL_law_1159 : decode cL_law 1159 = .ok (.iload 4, 2) := by decide +kernel
theorem dL_law_1161 : decode cL_law 1161 = .ok (.iconst 1, 1) := by decide +kernel
theorem dL_law_1162 : decode cL_law 1162 = .ok (.iadd, 1) := by decide +kernel
theorem dL_law_1163 : decode cL_law 1163 = .ok (.iaload, 1) := by decide +kernel
theorem dL_law_1164 : decode cL_law 1164 = .ok (.aload_n 0, 1) := by decide +kernel
theorem dL_law_1165 : decode cL_law 1165 = .ok (.iload 4, 2) := by decide +kernel
theorem dL_law_1167 : decode cL_law 1167 = .ok (.iconst 2, 1) := by decide +kernel
theorem dL_law_1168 : decode cL_law 1168 = .ok (.iadd, 1) := by decide +kernel
theorem dL_law_1169 : decode cL_law 1169 = .ok (.iaload, 1) := by decide +kernel
theorem dL_law_1170 : decode cL_law 1170 = .ok (.invokevirtual 157, 3) := by decide +kernel
theorem dL_law_1173 : decode cL_law 1173 = .ok (.istore 6, 2) := by decide +kernel
theorem dL_law_1175 : decode cL_law 1175 = .ok (.aload_n 2, 1) := by decide +kernel
theorem dL_law_1176 : decode cL_law 1176 = .ok (.invokevirtual 110, 3) := by decide +kernel
theorem dL_law_1179 : decode cL_law 1179 = .ok (.iload 5, 2) := by decide +kernel
theorem dL_law_1181 : decode cL_law 1181 = .ok (.if_icmp .eq 5, 3) := by decide +kernel
theorem dL_law_1184 : decode cL_law 1184 = .ok (.iconst 0, 1) := by decide +kernel
theorem dL_law_1185 : decode cL_law 1185 = .ok (.ireturn, 1) := by decide +kernel
theorem dL_law_1186 : decode cL_law 1186 = .ok (.iload 5, 2) := by decide +kernel
theorem dL_law_1188 : decode cL_law 1188 = .ok (.ifCond .ne 15, 3) := by decide +kernel
theorem dL_law_1191 : decode cL_law 1191 = .ok (.aload_n 3, 1) := by decide +kernel
theorem dL_law_1192 : decode cL_law 1192 = .ok (.iconst 0, 1) := by decide +kernel
theorem dL_law_1193 : decode cL_law 1193 = .ok (.laload, 1) := by decide +kernel
theorem dL_law_1194 : decode cL_law 1194 = .ok (.iload 6, 2) := by decide +kernel
theorem dL_law_1196 : decode cL_law 1196 = .ok (.i2l, 1) := by decide +kernel
theorem dL_law_1197 : decode cL_law 1197 = .ok (.lcmp, 1) := by decide +kernel
theorem dL_law_1198 : decode cL_law 1198 = .ok (.ifCond .eq 5, 3) := by decide +kernel
theorem dL_law_1201 : decode cL_law 1201 = .ok (.iconst 0, 1) := by decide +kernel
theorem dL_law_1202 : decode cL_law 1202 = .ok (.ireturn, 1) := by decide +kernel
theorem dL_law_1203 : decode cL_law 1203 = .ok (.goto 762, 3) := by decide +kernel
theorem dL_law_1206 : decode cL_law 1206 = .ok (.aload_n 1, 1) := by decide +kernel
theorem dL_law_1207 : decode cL_law 1207 = .ok (.aload_n 0, 1) := by decide +kernel
theorem dL_law_1208 : decode cL_law 1208 = .ok (.iload 4, 2) := by decide +kernel
theorem dL_law_1210 : decode cL_law 1210 = .ok (.iconst 1, 1) := by decide +kernel
theorem dL_law_1211 : decode cL_law 1211 = .ok (.iadd, 1) := by decide +kernel
theorem dL_law_1212 : decode cL_law 1212 = .ok (.iaload, 1) := by decide +kernel
theorem dL_law_1213 : decode cL_law 1213 = .ok (.aload_n 0, 1) := by decide +kernel
theorem dL_law_1214 : decode cL_law 1214 = .ok (.iload 4, 2) := by decide +kernel
theorem dL_law_1216 : decode cL_law 1216 = .ok (.iconst 2, 1) := by decide +kernel
theorem dL_law_1217 : decode cL_law 1217 = .ok (.iadd, 1) := by decide +kernel
theorem dL_law_1218 : decode cL_law 1218 = .ok (.iaload, 1) := by decide +kernel
theorem dL_law_1219 : decode cL_law 1219 = .ok (.aload_n 0, 1) := by decide +kernel
theorem dL_law_1220 : decode cL_law 1220 = .ok (.iload 4, 2) := by decide +kernel
theorem dL_law_1222 : decode cL_law 1222 = .ok (.iconst 3, 1) := by decide +kernel
theorem dL_law_1223 : decode cL_law 1223 = .ok (.iadd, 1) := by decide +kernel
theorem dL_law_1224 : decode cL_law 1224 = .ok (.iaload, 1) := by decide +kernel
theorem dL_law_1225 : decode cL_law 1225 = .ok (.aload_n 3, 1) := by decide +kernel
theorem dL_law_1226 : decode cL_law 1226 = .ok (.invokestatic 158, 3) := by decide +kernel
theorem dL_law_1229 : decode cL_law 1229 = .ok (.istore 5, 2) := by decide +kernel
theorem dL_law_1231 : decode cL_law 1231 = .ok (.aload_n 2, 1) := by decide +kernel
theorem dL_law_1232 : decode cL_law 1232 = .ok (.aload_n 0, 1) := by decide +kernel
theorem dL_law_1233 : decode cL_law 1233 = .ok (.iload 4, 2) := by decide +kernel
theorem dL_law_1235 : decode cL_law 1235 = .ok (.iconst 1, 1) := by decide +kernel
theorem dL_law_1236 : decode cL_law 1236 = .ok (.iadd, 1) := by decide +kernel
theorem dL_law_1237 : decode cL_law 1237 = .ok (.iaload, 1) := by decide +kernel
theorem dL_law_1238 : decode cL_law 1238 = .ok (.aload_n 0, 1) := by decide +kernel
theorem dL_law_1239 : decode cL_law 1239 = .ok (.iload 4, 2) := by decide +kernel
theorem dL_law_1241 : decode cL_law 1241 = .ok (.iconst 2, 1) := by decide +kernel
theorem dL_law_1242 : decode cL_law 1242 = .ok (.iadd, 1) := by decide +kernel
theorem dL_law_1243 : decode cL_law 1243 = .ok (.iaload, 1) := by decide +kernel
theorem dL_law_1244 : decode cL_law 1244 = .ok (.aload_n 0, 1) := by decide +kernel
theorem dL_law_1245 : decode cL_law 1245 = .ok (.iload 4, 2) := by decide +kernel
theorem dL_law_1247 : decode cL_law 1247 = .ok (.iconst 3, 1) := by decide +kernel
theorem dL_law_1248 : decode cL_law 1248 = .ok (.iadd, 1) := by decide +kernel
theorem dL_law_1249 : decode cL_law 1249 = .ok (.iaload, 1) := by decide +kernel
theorem dL_law_1250 : decode cL_law 1250 = .ok (.invokevirtual 160, 3) := by decide +kernel
theorem dL_law_1253 : decode cL_law 1253 = .ok (.istore 6, 2) := by decide +kernel
theorem dL_law_1255 : decode cL_law 1255 = .ok (.aload_n 2, 1) := by decide +kernel
theorem dL_law_1256 : decode cL_law 1256 = .ok (.invokevirtual 110, 3) := by decide +kernel
theorem dL_law_1259 : decode cL_law 1259 = .ok (.iload 5, 2) := by decide +kernel
theorem dL_law_1261 : decode cL_law 1261 = .ok (.if_icmp .eq 5, 3) := by decide +kernel
theorem dL_law_1264 : decode cL_law 1264 = .ok (.iconst 0, 1) := by decide +kernel
theorem dL_law_1265 : decode cL_law 1265 = .ok (.ireturn, 1) := by decide +kernel
theorem dL_law_1266 : decode cL_law 1266 = .ok (.iload 5, 2) := by decide +kernel
theorem dL_law_1268 : decode cL_law 1268 = .ok (.ifCond .ne 15, 3) := by decide +kernel
theorem dL_law_1271 : decode cL_law 1271 = .ok (.aload_n 3, 1) := by decide +kernel
theorem dL_law_1272 : decode cL_law 1272 = .ok (.iconst 0, 1) := by decide +kernel
theorem dL_law_1273 : decode cL_law 1273 = .ok (.laload, 1) := by decide +kernel
theorem dL_law_1274 : decode cL_law 1274 = .ok (.iload 6, 2) := by decide +kernel
theorem dL_law_1276 : decode cL_law 1276 = .ok (.i2l, 1) := by decide +kernel
theorem dL_law_1277 : decode cL_law 1277 = .ok (.lcmp, 1) := by decide +kernel
theorem dL_law_1278 : decode cL_law 1278 = .ok (.ifCond .eq 5, 3) := by decide +kernel
theorem dL_law_1281 : decode cL_law 1281 = .ok (.iconst 0, 1) := by decide +kernel
theorem dL_law_1282 : decode cL_law 1282 = .ok (.ireturn, 1) := by decide +kernel
theorem dL_law_1283 : decode cL_law 1283 = .ok (.goto 682, 3) := by decide +kernel
theorem dL_law_1286 : decode cL_law 1286 = .ok (.aload_n 1, 1) := by decide +kernel
theorem dL_law_1287 : decode cL_law 1287 = .ok (.aload_n 0, 1) := by decide +kernel
theorem dL_law_1288 : decode cL_law 1288 = .ok (.iload 4, 2) := by decide +kernel
theorem dL_law_1290 : decode cL_law 1290 = .ok (.iconst 1, 1) := by decide +kernel
theorem dL_law_1291 : decode cL_law 1291 = .ok (.iadd, 1) := by decide +kernel
theorem dL_law_1292 : decode cL_law 1292 = .ok (.iaload, 1) := by decide +kernel
theorem dL_law_1293 : decode cL_law 1293 = .ok (.aload_n 0, 1) := by decide +kernel
theorem dL_law_1294 : decode cL_law 1294 = .ok (.iload 4, 2) := by decide +kernel
theorem dL_law_1296 : decode cL_law 1296 = .ok (.iconst 2, 1) := by decide +kernel
theorem dL_law_1297 : decode cL_law 1297 = .ok (.iadd, 1) := by decide +kernel
theorem dL_law_1298 : decode cL_law 1298 = .ok (.iaload, 1) := by decide +kernel
theorem dL_law_1299 : decode cL_law 1299 = .ok (.aload_n 3, 1) := by decide +kernel
theorem dL_law_1300 : decode cL_law 1300 = .ok (.invokestatic 161, 3) := by decide +kernel
theorem dL_law_1303 : decode cL_law 1303 = .ok (.istore 5, 2) := by decide +kernel
theorem dL_law_1305 : decode cL_law 1305 = .ok (.aload_n 2, 1) := by decide +kernel
theorem dL_law_1306 : decode cL_law 1306 = .ok (.aload_n 0, 1) := by decide +kernel
theorem dL_law_1307 : decode cL_law 1307 = .ok (.iload 4, 2) := by decide +kernel
theorem dL_law_1309 : decode cL_law 1309 = .ok (.iconst 1, 1) := by decide +kernel
theorem dL_law_1310 : decode cL_law 1310 = .ok (.iadd, 1) := by decide +kernel
theorem dL_law_1311 : decode cL_law 1311 = .ok (.iaload, 1) := by decide +kernel
theorem dL_law_1312 : decode cL_law 1312 = .ok (.aload_n 0, 1) := by decide +kernel
theorem dL_law_1313 : decode cL_law 1313 = .ok (.iload 4, 2) := by decide +kernel
theorem dL_law_1315 : decode cL_law 1315 = .ok (.iconst 2, 1) := by decide +kernel
theorem dL_law_1316 : decode cL_law 1316 = .ok (.iadd, 1) := by decide +kernel
theorem dL_law_1317 : decode cL_law 1317 = .ok (.iaload, 1) := by decide +kernel
theorem dL_law_1318 : decode cL_law 1318 = .ok (.invokevirtual 163, 3) := by decide +kernel
theorem dL_law_1321 : decode cL_law 1321 = .ok (.istore 6, 2) := by decide +kernel
theorem dL_law_1323 : decode cL_law 1323 = .ok (.aload_n 2, 1) := by decide +kernel
theorem dL_law_1324 : decode cL_law 1324 = .ok (.invokevirtual 110, 3) := by decide +kernel
theorem dL_law_1327 : decode cL_law 1327 = .ok (.iload 5, 2) := by decide +kernel
theorem dL_law_1329 : decode cL_law 1329 = .ok (.if_icmp .eq 5, 3) := by decide +kernel
theorem dL_law_1332 : decode cL_law 1332 = .ok (.iconst 0, 1) := by decide +kernel
theorem dL_law_1333 : decode cL_law 1333 = .ok (.ireturn, 1) := by decide +kernel
theorem dL_law_1334 : decode cL_law 1334 = .ok (.iload 5, 2) := by decide +kernel
theorem dL_law_1336 : decode cL_law 1336 = .ok (.ifCond .ne 15, 3) := by decide +kernel
theorem dL_law_1339 : decode cL_law 1339 = .ok (.aload_n 3, 1) := by decide +kernel
theorem dL_law_1340 : decode cL_law 1340 = .ok (.iconst 0, 1) := by decide +kernel
theorem dL_law_1341 : decode cL_law 1341 = .ok (.laload, 1) := by decide +kernel
theorem dL_law_1342 : decode cL_law 1342 = .ok (.iload 6, 2) := by decide +kernel
theorem dL_law_1344 : decode cL_law 1344 = .ok (.i2l, 1) := by decide +kernel
theorem dL_law_1345 : decode cL_law 1345 = .ok (.lcmp, 1) := by decide +kernel
theorem dL_law_1346 : decode cL_law 1346 = .ok (.ifCond .eq 5, 3) := by decide +kernel
theorem dL_law_1349 : decode cL_law 1349 = .ok (.iconst 0, 1) := by decide +kernel
theorem dL_law_1350 : decode cL_law 1350 = .ok (.ireturn, 1) := by decide +kernel
theorem dL_law_1351 : decode cL_law 1351 = .ok (.goto 614, 3) := by decide +kernel
theorem dL_law_1354 : decode cL_law 1354 = .ok (.aload_n 1, 1) := by decide +kernel
theorem dL_law_1355 : decode cL_law 1355 = .ok (.aload_n 0, 1) := by decide +kernel
theorem dL_law_1356 : decode cL_law 1356 = .ok (.iload 4, 2) := by decide +kernel
theorem dL_law_1358 : decode cL_law 1358 = .ok (.iconst 1, 1) := by decide +kernel
theorem dL_law_1359 : decode cL_law 1359 = .ok (.iadd, 1) := by decide +kernel
theorem dL_law_1360 : decode cL_law 1360 = .ok (.iaload, 1) := by decide +kernel
theorem dL_law_1361 : decode cL_law 1361 = .ok (.aload_n 0, 1) := by decide +kernel
theorem dL_law_1362 : decode cL_law 1362 = .ok (.iload 4, 2) := by decide +kernel
theorem dL_law_1364 : decode cL_law 1364 = .ok (.iconst 2, 1) := by decide +kernel
theorem dL_law_1365 : decode cL_law 1365 = .ok (.iadd, 1) := by decide +kernel
theorem dL_law_1366 : decode cL_law 1366 = .ok (.iaload, 1) := by decide +kernel
theorem dL_law_1367 : decode cL_law 1367 = .ok (.aload_n 3, 1) := by decide +kernel
theorem dL_law_1368 : decode cL_law 1368 = .ok (.invokestatic 164, 3) := by decide +kernel
theorem dL_law_1371 : decode cL_law 1371 = .ok (.istore 5, 2) := by decide +kernel
theorem dL_law_1373 : decode cL_law 1373 = .ok (.aload_n 2, 1) := by decide +kernel
theorem dL_law_1374 : decode cL_law 1374 = .ok (.aload_n 0, 1) := by decide +kernel
theorem dL_law_1375 : decode cL_law 1375 = .ok (.iload 4, 2) := by decide +kernel
theorem dL_law_1377 : decode cL_law 1377 = .ok (.iconst 1, 1) := by decide +kernel
theorem dL_law_1378 : decode cL_law 1378 = .ok (.iadd, 1) := by decide +kernel
theorem dL_law_1379 : decode cL_law 1379 = .ok (.iaload, 1) := by decide +kernel
theorem dL_law_1380 : decode cL_law 1380 = .ok (.aload_n 0, 1) := by decide +kernel
theorem dL_law_1381 : decode cL_law 1381 = .ok (.iload 4, 2) := by decide +kernel
theorem dL_law_1383 : decode cL_law 1383 = .ok (.iconst 2, 1) := by decide +kernel
theorem dL_law_1384 : decode cL_law 1384 = .ok (.iadd, 1) := by decide +kernel
theorem dL_law_1385 : decode cL_law 1385 = .ok (.iaload, 1) := by decide +kernel
theorem dL_law_1386 : decode cL_law 1386 = .ok (.invokevirtual 166, 3) := by decide +kernel
theorem dL_law_1389 : decode cL_law 1389 = .ok (.istore 6, 2) := by decide +kernel
theorem dL_law_1391 : decode cL_law 1391 = .ok (.aload_n 2, 1) := by decide +kernel
theorem dL_law_1392 : decode cL_law 1392 = .ok (.invokevirtual 110, 3) := by decide +kernel
theorem dL_law_1395 : decode cL_law 1395 = .ok (.iload 5, 2) := by decide +kernel
theorem dL_law_1397 : decode cL_law 1397 = .ok (.if_icmp .eq 5, 3) := by decide +kernel
theorem dL_law_1400 : decode cL_law 1400 = .ok (.iconst 0, 1) := by decide +kernel
theorem dL_law_1401 : decode cL_law 1401 = .ok (.ireturn, 1) := by decide +kernel
theorem dL_law_1402 : decode cL_law 1402 = .ok (.iload 5, 2) := by decide +kernel
theorem dL_law_1404 : decode cL_law 1404 = .ok (.ifCond .ne 15, 3) := by decide +kernel
theorem dL_law_1407 : decode cL_law 1407 = .ok (.aload_n 3, 1) := by decide +kernel
theorem dL_law_1408 : decode cL_law 1408 = .ok (.iconst 0, 1) := by decide +kernel
theorem dL_law_1409 : decode cL_law 1409 = .ok (.laload, 1) := by decide +kernel
theorem dL_law_1410 : decode cL_law 1410 = .ok (.iload 6, 2) := by decide +kernel
theorem dL_law_1412 : decode cL_law 1412 = .ok (.i2l, 1) := by decide +kernel
theorem dL_law_1413 : decode cL_law 1413 = .ok (.lcmp, 1) := by decide +kernel
theorem dL_law_1414 : decode cL_law 1414 = .ok (.ifCond .eq 5, 3) := by decide +kernel
theorem dL_law_1417 : decode cL_law 1417 = .ok (.iconst 0, 1) := by decide +kernel
theorem dL_law_1418 : decode cL_law 1418 = .ok (.ireturn, 1) := by decide +kernel
theorem dL_law_1419 : decode cL_law 1419 = .ok (.goto 546, 3) := by decide +kernel
theorem dL_law_1422 : decode cL_law 1422 = .ok (.aload_n 1, 1) := by decide +kernel
theorem dL_law_1423 : decode cL_law 1423 = .ok (.aload_n 0, 1) := by decide +kernel
theorem dL_law_1424 : decode cL_law 1424 = .ok (.iload 4, 2) := by decide +kernel
theorem dL_law_1426 : decode cL_law 1426 = .ok (.iconst 1, 1) := by decide +kernel
theorem dL_law_1427 : decode cL_law 1427 = .ok (.iadd, 1) := by decide +kernel
theorem dL_law_1428 : decode cL_law 1428 = .ok (.iaload, 1) := by decide +kernel
theorem dL_law_1429 : decode cL_law 1429 = .ok (.aload_n 0, 1) := by decide +kernel
theorem dL_law_1430 : decode cL_law 1430 = .ok (.iload 4, 2) := by decide +kernel
theorem dL_law_1432 : decode cL_law 1432 = .ok (.iconst 2, 1) := by decide +kernel
theorem dL_law_1433 : decode cL_law 1433 = .ok (.iadd, 1) := by decide +kernel
theorem dL_law_1434 : decode cL_law 1434 = .ok (.iaload, 1) := by decide +kernel
theorem dL_law_1435 : decode cL_law 1435 = .ok (.aload_n 3, 1) := by decide +kernel
theorem dL_law_1436 : decode cL_law 1436 = .ok (.invokestatic 167, 3) := by decide +kernel
theorem dL_law_1439 : decode cL_law 1439 = .ok (.istore 5, 2) := by decide +kernel
theorem dL_law_1441 : decode cL_law 1441 = .ok (.aload_n 2, 1) := by decide +kernel
theorem dL_law_1442 : decode cL_law 1442 = .ok (.aload_n 0, 1) := by decide +kernel
theorem dL_law_1443 : decode cL_law 1443 = .ok (.iload 4, 2) := by decide +kernel
theorem dL_law_1445 : decode cL_law 1445 = .ok (.iconst 1, 1) := by decide +kernel
theorem dL_law_1446 : decode cL_law 1446 = .ok (.iadd, 1) := by decide +kernel
theorem dL_law_1447 : decode cL_law 1447 = .ok (.iaload, 1) := by decide +kernel
theorem dL_law_1448 : decode cL_law 1448 = .ok (.aload_n 0, 1) := by decide +kernel
theorem dL_law_1449 : decode cL_law 1449 = .ok (.iload 4, 2) := by decide +kernel
theorem dL_law_1451 : decode cL_law 1451 = .ok (.iconst 2, 1) := by decide +kernel
theorem dL_law_1452 : decode cL_law 1452 = .ok (.iadd, 1) := by decide +kernel
theorem dL_law_1453 : decode cL_law 1453 = .ok (.iaload, 1) := by decide +kernel
theorem dL_law_1454 : decode cL_law 1454 = .ok (.invokevirtual 169, 3) := by decide +kernel
theorem dL_law_1457 : decode cL_law 1457 = .ok (.istore 6, 2) := by decide +kernel
theorem dL_law_1459 : decode cL_law 1459 = .ok (.aload_n 2, 1) := by decide +kernel
theorem dL_law_1460 : decode cL_law 1460 = .ok (.invokevirtual 110, 3) := by decide +kernel
theorem dL_law_1463 : decode cL_law 1463 = .ok (.iload 5, 2) := by decide +kernel
theorem dL_law_1465 : decode cL_law 1465 = .ok (.if_icmp .eq 5, 3) := by decide +kernel
theorem dL_law_1468 : decode cL_law 1468 = .ok (.iconst 0, 1) := by decide +kernel
theorem dL_law_1469 : decode cL_law 1469 = .ok (.ireturn, 1) := by decide +kernel
theorem dL_law_1470 : decode cL_law 1470 = .ok (.iload 5, 2) := by decide +kernel
theorem dL_law_1472 : decode cL_law 1472 = .ok (.ifCond .ne 22, 3) := by decide +kernel
theorem dL_law_1475 : decode cL_law 1475 = .ok (.aload_n 3, 1) := by decide +kernel
theorem dL_law_1476 : decode cL_law 1476 = .ok (.iconst 0, 1) := by decide +kernel
theorem dL_law_1477 : decode cL_law 1477 = .ok (.laload, 1) := by decide +kernel
theorem dL_law_1478 : decode cL_law 1478 = .ok (.iload 6, 2) := by decide +kernel
theorem dL_law_1480 : decode cL_law 1480 = .ok (.ifCond .eq 7, 3) := by decide +kernel
theorem dL_law_1483 : decode cL_law 1483 = .ok (.lconst 1, 1) := by decide +kernel
theorem dL_law_1484 : decode cL_law 1484 = .ok (.goto 4, 3) := by decide +kernel
theorem dL_law_1487 : decode cL_law 1487 = .ok (.lconst 0, 1) := by decide +kernel
theorem dL_law_1488 : decode cL_law 1488 = .ok (.lcmp, 1) := by decide +kernel
theorem dL_law_1489 : decode cL_law 1489 = .ok (.ifCond .eq 5, 3) := by decide +kernel
theorem dL_law_1492 : decode cL_law 1492 = .ok (.iconst 0, 1) := by decide +kernel
theorem dL_law_1493 : decode cL_law 1493 = .ok (.ireturn, 1) := by decide +kernel
theorem dL_law_1494 : decode cL_law 1494 = .ok (.goto 471, 3) := by decide +kernel
theorem dL_law_1497 : decode cL_law 1497 = .ok (.aload_n 1, 1) := by decide +kernel
theorem dL_law_1498 : decode cL_law 1498 = .ok (.aload_n 0, 1) := by decide +kernel
theorem dL_law_1499 : decode cL_law 1499 = .ok (.iload 4, 2) := by decide +kernel
theorem dL_law_1501 : decode cL_law 1501 = .ok (.iconst 1, 1) := by decide +kernel
theorem dL_law_1502 : decode cL_law 1502 = .ok (.iadd, 1) := by decide +kernel
theorem dL_law_1503 : decode cL_law 1503 = .ok (.iaload, 1) := by decide +kernel
theorem dL_law_1504 : decode cL_law 1504 = .ok (.aload_n 3, 1) := by decide +kernel
theorem dL_law_1505 : decode cL_law 1505 = .ok (.invokestatic 170, 3) := by decide +kernel
theorem dL_law_1508 : decode cL_law 1508 = .ok (.istore 5, 2) := by decide +kernel
theorem dL_law_1510 : decode cL_law 1510 = .ok (.aload_n 2, 1) := by decide +kernel
theorem dL_law_1511 : decode cL_law 1511 = .ok (.aload_n 0, 1) := by decide +kernel
theorem dL_law_1512 : decode cL_law 1512 = .ok (.iload 4, 2) := by decide +kernel
theorem dL_law_1514 : decode cL_law 1514 = .ok (.iconst 1, 1) := by decide +kernel
theorem dL_law_1515 : decode cL_law 1515 = .ok (.iadd, 1) := by decide +kernel
theorem dL_law_1516 : decode cL_law 1516 = .ok (.iaload, 1) := by decide +kernel
theorem dL_law_1517 : decode cL_law 1517 = .ok (.invokevirtual 172, 3) := by decide +kernel
theorem dL_law_1520 : decode cL_law 1520 = .ok (.istore 6, 2) := by decide +kernel
theorem dL_law_1522 : decode cL_law 1522 = .ok (.aload_n 2, 1) := by decide +kernel
theorem dL_law_1523 : decode cL_law 1523 = .ok (.invokevirtual 110, 3) := by decide +kernel
theorem dL_law_1526 : decode cL_law 1526 = .ok (.iload 5, 2) := by decide +kernel
theorem dL_law_1528 : decode cL_law 1528 = .ok (.if_icmp .eq 5, 3) := by decide +kernel
theorem dL_law_1531 : decode cL_law 1531 = .ok (.iconst 0, 1) := by decide +kernel
theorem dL_law_1532 : decode cL_law 1532 = .ok (.ireturn, 1) := by decide +kernel
theorem dL_law_1533 : decode cL_law 1533 = .ok (.iload 5, 2) := by decide +kernel
theorem dL_law_1535 : decode cL_law 1535 = .ok (.ifCond .ne 15, 3) := by decide +kernel
theorem dL_law_1538 : decode cL_law 1538 = .ok (.aload_n 3, 1) := by decide +kernel
theorem dL_law_1539 : decode cL_law 1539 = .ok (.iconst 0, 1) := by decide +kernel
theorem dL_law_1540 : decode cL_law 1540 = .ok (.laload, 1) := by decide +kernel
theorem dL_law_1541 : decode cL_law 1541 = .ok (.iload 6, 2) := by decide +kernel
theorem dL_law_1543 : decode cL_law 1543 = .ok (.i2l, 1) := by decide +kernel
theorem dL_law_1544 : decode cL_law 1544 = .ok (.lcmp, 1) := by decide +kernel
theorem dL_law_1545 : decode cL_law 1545 = .ok (.ifCond .eq 5, 3) := by decide +kernel
theorem dL_law_1548 : decode cL_law 1548 = .ok (.iconst 0, 1) := by decide +kernel
theorem dL_law_1549 : decode cL_law 1549 = .ok (.ireturn, 1) := by decide +kernel
theorem dL_law_1550 : decode cL_law 1550 = .ok (.goto 415, 3) := by decide +kernel
theorem dL_law_1553 : decode cL_law 1553 = .ok (.aload_n 1, 1) := by decide +kernel
theorem dL_law_1554 : decode cL_law 1554 = .ok (.aload_n 0, 1) := by decide +kernel
theorem dL_law_1555 : decode cL_law 1555 = .ok (.iload 4, 2) := by decide +kernel
theorem dL_law_1557 : decode cL_law 1557 = .ok (.iconst 1, 1) := by decide +kernel
theorem dL_law_1558 : decode cL_law 1558 = .ok (.iadd, 1) := by decide +kernel
theorem dL_law_1559 : decode cL_law 1559 = .ok (.iaload, 1) := by decide +kernel
theorem dL_law_1560 : decode cL_law 1560 = .ok (.aload_n 3, 1) := by decide +kernel
theorem dL_law_1561 : decode cL_law 1561 = .ok (.invokestatic 173, 3) := by decide +kernel
theorem dL_law_1564 : decode cL_law 1564 = .ok (.istore 5, 2) := by decide +kernel
theorem dL_law_1566 : decode cL_law 1566 = .ok (.aload_n 2, 1) := by decide +kernel
theorem dL_law_1567 : decode cL_law 1567 = .ok (.aload_n 0, 1) := by decide +kernel
theorem dL_law_1568 : decode cL_law 1568 = .ok (.iload 4, 2) := by decide +kernel
theorem dL_law_1570 : decode cL_law 1570 = .ok (.iconst 1, 1) := by decide +kernel
theorem dL_law_1571 : decode cL_law 1571 = .ok (.iadd, 1) := by decide +kernel
theorem dL_law_1572 : decode cL_law 1572 = .ok (.iaload, 1) := by decide +kernel
theorem dL_law_1573 : decode cL_law 1573 = .ok (.invokevirtual 175, 3) := by decide +kernel
theorem dL_law_1576 : decode cL_law 1576 = .ok (.istore 6, 2) := by decide +kernel
theorem dL_law_1578 : decode cL_law 1578 = .ok (.aload_n 2, 1) := by decide +kernel
theorem dL_law_1579 : decode cL_law 1579 = .ok (.invokevirtual 110, 3) := by decide +kernel
theorem dL_law_1582 : decode cL_law 1582 = .ok (.iload 5, 2) := by decide +kernel
theorem dL_law_1584 : decode cL_law 1584 = .ok (.if_icmp .eq 5, 3) := by decide +kernel
theorem dL_law_1587 : decode cL_law 1587 = .ok (.iconst 0, 1) := by decide +kernel
theorem dL_law_1588 : decode cL_law 1588 = .ok (.ireturn, 1) := by decide +kernel
theorem dL_law_1589 : decode cL_law 1589 = .ok (.iload 5, 2) := by decide +kernel
theorem dL_law_1591 : decode cL_law 1591 = .ok (.ifCond .ne 15, 3) := by decide +kernel
theorem dL_law_1594 : decode cL_law 1594 = .ok (.aload_n 3, 1) := by decide +kernel
theorem dL_law_1595 : decode cL_law 1595 = .ok (.iconst 0, 1) := by decide +kernel
theorem dL_law_1596 : decode cL_law 1596 = .ok (.laload, 1) := by decide +kernel
theorem dL_law_1597 : decode cL_law 1597 = .ok (.iload 6, 2) := by decide +kernel
theorem dL_law_1599 : decode cL_law 1599 = .ok (.i2l, 1) := by decide +kernel
theorem dL_law_1600 : decode cL_law 1600 = .ok (.lcmp, 1) := by decide +kernel
theorem dL_law_1601 : decode cL_law 1601 = .ok (.ifCond .eq 5, 3) := by decide +kernel
theorem dL_law_1604 : decode cL_law 1604 = .ok (.iconst 0, 1) := by decide +kernel
theorem dL_law_1605 : decode cL_law 1605 = .ok (.ireturn, 1) := by decide +kernel
theorem dL_law_1606 : decode cL_law 1606 = .ok (.goto 359, 3) := by decide +kernel
theorem dL_law_1609 : decode cL_law 1609 = .ok (.aload_n 1, 1) := by decide +kernel
theorem dL_law_1610 : decode cL_law 1610 = .ok (.aload_n 0, 1) := by decide +kernel
theorem dL_law_1611 : decode cL_law 1611 = .ok (.iload 4, 2) := by decide +kernel
theorem dL_law_1613 : decode cL_law 1613 = .ok (.iconst 1, 1) := by decide +kernel
theorem dL_law_1614 : decode cL_law 1614 = .ok (.iadd, 1) := by decide +kernel
theorem dL_law_1615 : decode cL_law 1615 = .ok (.iaload, 1) := by decide +kernel
theorem dL_law_1616 : decode cL_law 1616 = .ok (.aload_n 0, 1) := by decide +kernel
theorem dL_law_1617 : decode cL_law 1617 = .ok (.iload 4, 2) := by decide +kernel
theorem dL_law_1619 : decode cL_law 1619 = .ok (.iconst 2, 1) := by decide +kernel
theorem dL_law_1620 : decode cL_law 1620 = .ok (.iadd, 1) := by decide +kernel
theorem dL_law_1621 : decode cL_law 1621 = .ok (.iaload, 1) := by decide +kernel
theorem dL_law_1622 : decode cL_law 1622 = .ok (.aload_n 0, 1) := by decide +kernel
theorem dL_law_1623 : decode cL_law 1623 = .ok (.iload 4, 2) := by decide +kernel
theorem dL_law_1625 : decode cL_law 1625 = .ok (.iconst 3, 1) := by decide +kernel
theorem dL_law_1626 : decode cL_law 1626 = .ok (.iadd, 1) := by decide +kernel
theorem dL_law_1627 : decode cL_law 1627 = .ok (.iaload, 1) := by decide +kernel
theorem dL_law_1628 : decode cL_law 1628 = .ok (.aload_n 3, 1) := by decide +kernel
theorem dL_law_1629 : decode cL_law 1629 = .ok (.invokestatic 176, 3) := by decide +kernel
theorem dL_law_1632 : decode cL_law 1632 = .ok (.istore 5, 2) := by decide +kernel
theorem dL_law_1634 : decode cL_law 1634 = .ok (.aload_n 2, 1) := by decide +kernel
theorem dL_law_1635 : decode cL_law 1635 = .ok (.aload_n 0, 1) := by decide +kernel
theorem dL_law_1636 : decode cL_law 1636 = .ok (.iload 4, 2) := by decide +kernel
theorem dL_law_1638 : decode cL_law 1638 = .ok (.iconst 1, 1) := by decide +kernel
theorem dL_law_1639 : decode cL_law 1639 = .ok (.iadd, 1) := by decide +kernel
theorem dL_law_1640 : decode cL_law 1640 = .ok (.iaload, 1) := by decide +kernel
theorem dL_law_1641 : decode cL_law 1641 = .ok (.aload_n 0, 1) := by decide +kernel
theorem dL_law_1642 : decode cL_law 1642 = .ok (.iload 4, 2) := by decide +kernel
theorem dL_law_1644 : decode cL_law 1644 = .ok (.iconst 2, 1) := by decide +kernel
theorem dL_law_1645 : decode cL_law 1645 = .ok (.iadd, 1) := by decide +kernel
theorem dL_law_1646 : decode cL_law 1646 = .ok (.iaload, 1) := by decide +kernel
theorem dL_law_1647 : decode cL_law 1647 = .ok (.aload_n 0, 1) := by decide +kernel
theorem dL_law_1648 : decode cL_law 1648 = .ok (.iload 4, 2) := by decide +kernel
theorem dL_law_1650 : decode cL_law 1650 = .ok (.iconst 3, 1) := by decide +kernel
theorem dL_law_1651 : decode cL_law 1651 = .ok (.iadd, 1) := by decide +kernel
theorem dL_law_1652 : decode cL_law 1652 = .ok (.iaload, 1) := by decide +kernel
theorem dL_law_1653 : decode cL_law 1653 = .ok (.invokevirtual 178, 3) := by decide +kernel
theorem dL_law_1656 : decode cL_law 1656 = .ok (.istore 6, 2) := by decide +kernel
theorem dL_law_1658 : decode cL_law 1658 = .ok (.aload_n 2, 1) := by decide +kernel
theorem dL_law_1659 : decode cL_law 1659 = .ok (.invokevirtual 110, 3) := by decide +kernel
theorem dL_law_1662 : decode cL_law 1662 = .ok (.iload 5, 2) := by decide +kernel
theorem dL_law_1664 : decode cL_law 1664 = .ok (.if_icmp .eq 5, 3) := by decide +kernel
theorem dL_law_1667 : decode cL_law 1667 = .ok (.iconst 0, 1) := by decide +kernel
theorem dL_law_1668 : decode cL_law 1668 = .ok (.ireturn, 1) := by decide +kernel
theorem dL_law_1669 : decode cL_law 1669 = .ok (.iload 5, 2) := by decide +kernel
theorem dL_law_1671 : decode cL_law 1671 = .ok (.ifCond .ne 15, 3) := by decide +kernel
theorem dL_law_1674 : decode cL_law 1674 = .ok (.aload_n 3, 1) := by decide +kernel
theorem dL_law_1675 : decode cL_law 1675 = .ok (.iconst 0, 1) := by decide +kernel
theorem dL_law_1676 : decode cL_law 1676 = .ok (.laload, 1) := by decide +kernel
theorem dL_law_1677 : decode cL_law 1677 = .ok (.iload 6, 2) := by decide +kernel
theorem dL_law_1679 : decode cL_law 1679 = .ok (.i2l, 1) := by decide +kernel
theorem dL_law_1680 : decode cL_law 1680 = .ok (.lcmp, 1) := by decide +kernel
theorem dL_law_1681 : decode cL_law 1681 = .ok (.ifCond .eq 5, 3) := by decide +kernel
theorem dL_law_1684 : decode cL_law 1684 = .ok (.iconst 0, 1) := by decide +kernel
theorem dL_law_1685 : decode cL_law 1685 = .ok (.ireturn, 1) := by decide +kernel
theorem dL_law_1686 : decode cL_law 1686 = .ok (.goto 279, 3) := by decide +kernel
theorem dL_law_1689 : decode cL_law 1689 = .ok (.aload_n 1, 1) := by decide +kernel
theorem dL_law_1690 : decode cL_law 1690 = .ok (.aload_n 0, 1) := by decide +kernel
theorem dL_law_1691 : decode cL_law 1691 = .ok (.iload 4, 2) := by decide +kernel
theorem dL_law_1693 : decode cL_law 1693 = .ok (.iconst 1, 1) := by decide +kernel
theorem dL_law_1694 : decode cL_law 1694 = .ok (.iadd, 1) := by decide +kernel
theorem dL_law_1695 : decode cL_law 1695 = .ok (.iaload, 1) := by decide +kernel
theorem dL_law_1696 : decode cL_law 1696 = .ok (.aload_n 0, 1) := by decide +kernel
theorem dL_law_1697 : decode cL_law 1697 = .ok (.iload 4, 2) := by decide +kernel
theorem dL_law_1699 : decode cL_law 1699 = .ok (.iconst 2, 1) := by decide +kernel
theorem dL_law_1700 : decode cL_law 1700 = .ok (.iadd, 1) := by decide +kernel
theorem dL_law_1701 : decode cL_law 1701 = .ok (.iaload, 1) := by decide +kernel
theorem dL_law_1702 : decode cL_law 1702 = .ok (.aload_n 0, 1) := by decide +kernel
theorem dL_law_1703 : decode cL_law 1703 = .ok (.iload 4, 2) := by decide +kernel
theorem dL_law_1705 : decode cL_law 1705 = .ok (.iconst 3, 1) := by decide +kernel
theorem dL_law_1706 : decode cL_law 1706 = .ok (.iadd, 1) := by decide +kernel
theorem dL_law_1707 : decode cL_law 1707 = .ok (.iaload, 1) := by decide +kernel
theorem dL_law_1708 : decode cL_law 1708 = .ok (.aload_n 0, 1) := by decide +kernel
theorem dL_law_1709 : decode cL_law 1709 = .ok (.iload 4, 2) := by decide +kernel
theorem dL_law_1711 : decode cL_law 1711 = .ok (.iconst 4, 1) := by decide +kernel
theorem dL_law_1712 : decode cL_law 1712 = .ok (.iadd, 1) := by decide +kernel
theorem dL_law_1713 : decode cL_law 1713 = .ok (.iaload, 1) := by decide +kernel
theorem dL_law_1714 : decode cL_law 1714 = .ok (.aload_n 3, 1) := by decide +kernel
theorem dL_law_1715 : decode cL_law 1715 = .ok (.invokestatic 179, 3) := by decide +kernel
theorem dL_law_1718 : decode cL_law 1718 = .ok (.istore 5, 2) := by decide +kernel
theorem dL_law_1720 : decode cL_law 1720 = .ok (.aload_n 2, 1) := by decide +kernel
theorem dL_law_1721 : decode cL_law 1721 = .ok (.aload_n 0, 1) := by decide +kernel
theorem dL_law_1722 : decode cL_law 1722 = .ok (.iload 4, 2) := by decide +kernel
theorem dL_law_1724 : decode cL_law 1724 = .ok (.iconst 1, 1) := by decide +kernel
theorem dL_law_1725 : decode cL_law 1725 = .ok (.iadd, 1) := by decide +kernel
theorem dL_law_1726 : decode cL_law 1726 = .ok (.iaload, 1) := by decide +kernel
theorem dL_law_1727 : decode cL_law 1727 = .ok (.aload_n 0, 1) := by decide +kernel
theorem dL_law_1728 : decode cL_law 1728 = .ok (.iload 4, 2) := by decide +kernel
theorem dL_law_1730 : decode cL_law 1730 = .ok (.iconst 2, 1) := by decide +kernel
theorem dL_law_1731 : decode cL_law 1731 = .ok (.iadd, 1) := by decide +kernel
theorem dL_law_1732 : decode cL_law 1732 = .ok (.iaload, 1) := by decide +kernel
theorem dL_law_1733 : decode cL_law 1733 = .ok (.aload_n 0, 1) := by decide +kernel
theorem dL_law_1734 : decode cL_law 1734 = .ok (.iload 4, 2) := by decide +kernel
theorem dL_law_1736 : decode cL_law 1736 = .ok (.iconst 3, 1) := by decide +kernel
theorem dL_law_1737 : decode cL_law 1737 = .ok (.iadd, 1) := by decide +kernel
theorem dL_law_1738 : decode cL_law 1738 = .ok (.iaload, 1) := by decide +kernel
theorem dL_law_1739 : decode cL_law 1739 = .ok (.aload_n 0, 1) := by decide +kernel
theorem dL_law_1740 : decode cL_law 1740 = .ok (.iload 4, 2) := by decide +kernel
theorem dL_law_1742 : decode cL_law 1742 = .ok (.iconst 4, 1) := by decide +kernel
theorem dL_law_1743 : decode cL_law 1743 = .ok (.iadd, 1) := by decide +kernel
theorem dL_law_1744 : decode cL_law 1744 = .ok (.iaload, 1) := by decide +kernel
theorem dL_law_1745 : decode cL_law 1745 = .ok (.invokevirtual 182, 3) := by decide +kernel
theorem dL_law_1748 : decode cL_law 1748 = .ok (.istore 6, 2) := by decide +kernel
theorem dL_law_1750 : decode cL_law 1750 = .ok (.aload_n 2, 1) := by decide +kernel
theorem dL_law_1751 : decode cL_law 1751 = .ok (.invokevirtual 110, 3) := by decide +kernel
theorem dL_law_1754 : decode cL_law 1754 = .ok (.iload 5, 2) := by decide +kernel
theorem dL_law_1756 : decode cL_law 1756 = .ok (.if_icmp .eq 5, 3) := by decide +kernel
theorem dL_law_1759 : decode cL_law 1759 = .ok (.iconst 0, 1) := by decide +kernel
theorem dL_law_1760 : decode cL_law 1760 = .ok (.ireturn, 1) := by decide +kernel
theorem dL_law_1761 : decode cL_law 1761 = .ok (.iload 5, 2) := by decide +kernel
theorem dL_law_1763 : decode cL_law 1763 = .ok (.ifCond .ne 15, 3) := by decide +kernel
theorem dL_law_1766 : decode cL_law 1766 = .ok (.aload_n 3, 1) := by decide +kernel
theorem dL_law_1767 : decode cL_law 1767 = .ok (.iconst 0, 1) := by decide +kernel
theorem dL_law_1768 : decode cL_law 1768 = .ok (.laload, 1) := by decide +kernel
theorem dL_law_1769 : decode cL_law 1769 = .ok (.iload 6, 2) := by decide +kernel
theorem dL_law_1771 : decode cL_law 1771 = .ok (.i2l, 1) := by decide +kernel
theorem dL_law_1772 : decode cL_law 1772 = .ok (.lcmp, 1) := by decide +kernel
theorem dL_law_1773 : decode cL_law 1773 = .ok (.ifCond .eq 5, 3) := by decide +kernel
theorem dL_law_1776 : decode cL_law 1776 = .ok (.iconst 0, 1) := by decide +kernel
theorem dL_law_1777 : decode cL_law 1777 = .ok (.ireturn, 1) := by decide +kernel
theorem dL_law_1778 : decode cL_law 1778 = .ok (.goto 187, 3) := by decide +kernel
theorem dL_law_1781 : decode cL_law 1781 = .ok (.aload_n 1, 1) := by decide +kernel
theorem dL_law_1782 : decode cL_law 1782 = .ok (.aload_n 0, 1) := by decide +kernel
theorem dL_law_1783 : decode cL_law 1783 = .ok (.iload 4, 2) := by decide +kernel
theorem dL_law_1785 : decode cL_law 1785 = .ok (.iconst 1, 1) := by decide +kernel
theorem dL_law_1786 : decode cL_law 1786 = .ok (.iadd, 1) := by decide +kernel
theorem dL_law_1787 : decode cL_law 1787 = .ok (.iaload, 1) := by decide +kernel
theorem dL_law_1788 : decode cL_law 1788 = .ok (.aload_n 3, 1) := by decide +kernel
theorem dL_law_1789 : decode cL_law 1789 = .ok (.invokestatic 183, 3) := by decide +kernel
theorem dL_law_1792 : decode cL_law 1792 = .ok (.istore 5, 2) := by decide +kernel
theorem dL_law_1794 : decode cL_law 1794 = .ok (.aload_n 2, 1) := by decide +kernel
theorem dL_law_1795 : decode cL_law 1795 = .ok (.aload_n 0, 1) := by decide +kernel
theorem dL_law_1796 : decode cL_law 1796 = .ok (.iload 4, 2) := by decide +kernel
theorem dL_law_1798 : decode cL_law 1798 = .ok (.iconst 1, 1) := by decide +kernel
theorem dL_law_1799 : decode cL_law 1799 = .ok (.iadd, 1) := by decide +kernel
theorem dL_law_1800 : decode cL_law 1800 = .ok (.iaload, 1) := by decide +kernel
theorem dL_law_1801 : decode cL_law 1801 = .ok (.invokevirtual 185, 3) := by decide +kernel
theorem dL_law_1804 : decode cL_law 1804 = .ok (.istore 6, 2) := by decide +kernel
theorem dL_law_1806 : decode cL_law 1806 = .ok (.aload_n 2, 1) := by decide +kernel
theorem dL_law_1807 : decode cL_law 1807 = .ok (.invokevirtual 110, 3) := by decide +kernel
theorem dL_law_1810 : decode cL_law 1810 = .ok (.iload 5, 2) := by decide +kernel
theorem dL_law_1812 : decode cL_law 1812 = .ok (.if_icmp .eq 5, 3) := by decide +kernel
theorem dL_law_1815 : decode cL_law 1815 = .ok (.iconst 0, 1) := by decide +kernel
theorem dL_law_1816 : decode cL_law 1816 = .ok (.ireturn, 1) := by decide +kernel
theorem dL_law_1817 : decode cL_law 1817 = .ok (.iload 5, 2) := by decide +kernel
theorem dL_law_1819 : decode cL_law 1819 = .ok (.ifCond .ne 15, 3) := by decide +kernel
theorem dL_law_1822 : decode cL_law 1822 = .ok (.aload_n 3, 1) := by decide +kernel
theorem dL_law_1823 : decode cL_law 1823 = .ok (.iconst 0, 1) := by decide +kernel
theorem dL_law_1824 : decode cL_law 1824 = .ok (.laload, 1) := by decide +kernel
theorem dL_law_1825 : decode cL_law 1825 = .ok (.iload 6, 2) := by decide +kernel
theorem dL_law_1827 : decode cL_law 1827 = .ok (.i2l, 1) := by decide +kernel
theorem dL_law_1828 : decode cL_law 1828 = .ok (.lcmp, 1) := by decide +kernel
theorem dL_law_1829 : decode cL_law 1829 = .ok (.ifCond .eq 5, 3) := by decide +kernel
theorem dL_law_1832 : decode cL_law 1832 = .ok (.iconst 0, 1) := by decide +kernel
theorem dL_law_1833 : decode cL_law 1833 = .ok (.ireturn, 1) := by decide +kernel
theorem dL_law_1834 : decode cL_law 1834 = .ok (.goto 131, 3) := by decide +kernel
theorem dL_law_1837 : decode cL_law 1837 = .ok (.aload_n 1, 1) := by decide +kernel
theorem dL_law_1838 : decode cL_law 1838 = .ok (.invokevirtual 186, 3) := by decide +kernel
theorem dL_law_1841 : decode cL_law 1841 = .ok (.aload_n 2, 1) := by decide +kernel
theorem dL_law_1842 : decode cL_law 1842 = .ok (.invokevirtual 189, 3) := by decide +kernel
theorem dL_law_1845 : decode cL_law 1845 = .ok (.if_icmp .eq 120, 3) := by decide +kernel
theorem dL_law_1848 : decode cL_law 1848 = .ok (.iconst 0, 1) := by decide +kernel
theorem dL_law_1849 : decode cL_law 1849 = .ok (.ireturn, 1) := by decide +kernel
theorem dL_law_1850 : decode cL_law 1850 = .ok (.aload_n 1, 1) := by decide +kernel
theorem dL_law_1851 : decode cL_law 1851 = .ok (.invokevirtual 190, 3) := by decide +kernel
theorem dL_law_1854 : decode cL_law 1854 = .ok (.aload_n 2, 1) := by decide +kernel
theorem dL_law_1855 : decode cL_law 1855 = .ok (.invokevirtual 193, 3) := by decide +kernel
theorem dL_law_1858 : decode cL_law 1858 = .ok (.if_icmp .eq 107, 3) := by decide +kernel
theorem dL_law_1861 : decode cL_law 1861 = .ok (.iconst 0, 1) := by decide +kernel
theorem dL_law_1862 : decode cL_law 1862 = .ok (.ireturn, 1) := by decide +kernel
theorem dL_law_1863 : decode cL_law 1863 = .ok (.aload_n 1, 1) := by decide +kernel
theorem dL_law_1864 : decode cL_law 1864 = .ok (.aload_n 3, 1) := by decide +kernel
theorem dL_law_1865 : decode cL_law 1865 = .ok (.invokestatic 194, 3) := by decide +kernel
theorem dL_law_1868 : decode cL_law 1868 = .ok (.istore 5, 2) := by decide +kernel
theorem dL_law_1870 : decode cL_law 1870 = .ok (.aload_n 2, 1) := by decide +kernel
theorem dL_law_1871 : decode cL_law 1871 = .ok (.invokevirtual 197, 3) := by decide +kernel
theorem dL_law_1874 : decode cL_law 1874 = .ok (.istore 6, 2) := by decide +kernel
theorem dL_law_1876 : decode cL_law 1876 = .ok (.aload_n 2, 1) := by decide +kernel
theorem dL_law_1877 : decode cL_law 1877 = .ok (.invokevirtual 110, 3) := by decide +kernel
theorem dL_law_1880 : decode cL_law 1880 = .ok (.iload 5, 2) := by decide +kernel
theorem dL_law_1882 : decode cL_law 1882 = .ok (.if_icmp .eq 5, 3) := by decide +kernel
theorem dL_law_1885 : decode cL_law 1885 = .ok (.iconst 0, 1) := by decide +kernel
theorem dL_law_1886 : decode cL_law 1886 = .ok (.ireturn, 1) := by decide +kernel
theorem dL_law_1887 : decode cL_law 1887 = .ok (.iload 5, 2) := by decide +kernel
theorem dL_law_1889 : decode cL_law 1889 = .ok (.ifCond .ne 15, 3) := by decide +kernel
theorem dL_law_1892 : decode cL_law 1892 = .ok (.aload_n 3, 1) := by decide +kernel
theorem dL_law_1893 : decode cL_law 1893 = .ok (.iconst 0, 1) := by decide +kernel
theorem dL_law_1894 : decode cL_law 1894 = .ok (.laload, 1) := by decide +kernel
theorem dL_law_1895 : decode cL_law 1895 = .ok (.iload 6, 2) := by decide +kernel
theorem dL_law_1897 : decode cL_law 1897 = .ok (.i2l, 1) := by decide +kernel
theorem dL_law_1898 : decode cL_law 1898 = .ok (.lcmp, 1) := by decide +kernel
theorem dL_law_1899 : decode cL_law 1899 = .ok (.ifCond .eq 5, 3) := by decide +kernel
theorem dL_law_1902 : decode cL_law 1902 = .ok (.iconst 0, 1) := by decide +kernel
theorem dL_law_1903 : decode cL_law 1903 = .ok (.ireturn, 1) := by decide +kernel
theorem dL_law_1904 : decode cL_law 1904 = .ok (.goto 61, 3) := by decide +kernel
theorem dL_law_1907 : decode cL_law 1907 = .ok (.aload_n 1, 1) := by decide +kernel
theorem dL_law_1908 : decode cL_law 1908 = .ok (.aload_n 3, 1) := by decide +kernel
theorem dL_law_1909 : decode cL_law 1909 = .ok (.invokestatic 198, 3) := by decide +kernel
theorem dL_law_1912 : decode cL_law 1912 = .ok (.istore 5, 2) := by decide +kernel
theorem dL_law_1914 : decode cL_law 1914 = .ok (.aload_n 2, 1) := by decide +kernel
theorem dL_law_1915 : decode cL_law 1915 = .ok (.invokevirtual 200, 3) := by decide +kernel
theorem dL_law_1918 : decode cL_law 1918 = .ok (.istore 6, 2) := by decide +kernel
theorem dL_law_1920 : decode cL_law 1920 = .ok (.aload_n 2, 1) := by decide +kernel
theorem dL_law_1921 : decode cL_law 1921 = .ok (.invokevirtual 110, 3) := by decide +kernel
theorem dL_law_1924 : decode cL_law 1924 = .ok (.iload 5, 2) := by decide +kernel
theorem dL_law_1926 : decode cL_law 1926 = .ok (.if_icmp .eq 5, 3) := by decide +kernel
theorem dL_law_1929 : decode cL_law 1929 = .ok (.iconst 0, 1) := by decide +kernel
theorem dL_law_1930 : decode cL_law 1930 = .ok (.ireturn, 1) := by decide +kernel
theorem dL_law_1931 : decode cL_law 1931 = .ok (.iload 5, 2) := by decide +kernel
theorem dL_law_1933 : decode cL_law 1933 = .ok (.ifCond .ne 15, 3) := by decide +kernel
theorem dL_law_1936 : decode cL_law 1936 = .ok (.aload_n 3, 1) := by decide +kernel
theorem dL_law_1937 : decode cL_law 1937 = .ok (.iconst 0, 1) := by decide +kernel
theorem dL_law_1938 : decode cL_law 1938 = .ok (.laload, 1) := by decide +kernel
theorem dL_law_1939 : decode cL_law 1939 = .ok (.iload 6, 2) := by decide +kernel
theorem dL_law_1941 : decode cL_law 1941 = .ok (.i2l, 1) := by decide +kernel
theorem dL_law_1942 : decode cL_law 1942 = .ok (.lcmp, 1) := by decide +kernel
theorem dL_law_1943 : decode cL_law 1943 = .ok (.ifCond .eq 5, 3) := by decide +kernel
theorem dL_law_1946 : decode cL_law 1946 = .ok (.iconst 0, 1) := by decide +kernel
theorem dL_law_1947 : decode cL_law 1947 = .ok (.ireturn, 1) := by decide +kernel
theorem dL_law_1948 : decode cL_law 1948 = .ok (.goto 17, 3) := by decide +kernel
theorem dL_law_1951 : decode cL_law 1951 = .ok (.aload_n 1, 1) := by decide +kernel
theorem dL_law_1952 : decode cL_law 1952 = .ok (.invokevirtual 201, 3) := by decide +kernel
theorem dL_law_1955 : decode cL_law 1955 = .ok (.aload_n 2, 1) := by decide +kernel
theorem dL_law_1956 : decode cL_law 1956 = .ok (.invokevirtual 205, 3) := by decide +kernel
theorem dL_law_1959 : decode cL_law 1959 = .ok (.lcmp, 1) := by decide +kernel
theorem dL_law_1960 : decode cL_law 1960 = .ok (.ifCond .eq 5, 3) := by decide +kernel
theorem dL_law_1963 : decode cL_law 1963 = .ok (.iconst 0, 1) := by decide +kernel
theorem dL_law_1964 : decode cL_law 1964 = .ok (.ireturn, 1) := by decide +kernel
theorem dL_law_1965 : decode cL_law 1965 = .ok (.iinc 4 7, 3) := by decide +kernel
theorem dL_law_1968 : decode cL_law 1968 = .ok (.goto (-1945), 3) := by decide +kernel
theorem dL_law_1971 : decode cL_law 1971 = .ok (.iconst 1, 1) := by decide +kernel
theorem dL_law_1972 : decode cL_law 1972 = .ok (.ireturn, 1) := by decide +kernel
end
section
/-! GW: walks over whole numbers. A value is a whole number (int or long), a place of the world or null, or an address; the world is n cells at G.1, G.1 + 1 ..; what they hold: R (places), I (ints), J (longs). -/
abbrev GV : Type := Int ⊕ (Int ⊕ (Option Nat ⊕ Nat))
abbrev vI (n : Int) : GV := .inl n
abbrev vL (n : Int) : GV := .inr (.inl n)
abbrev vO (r : Option Nat) : GV := .inr (.inr (.inl r))
abbrev vR (k : Nat) : GV := .inr (.inr (.inl (some k)))
abbrev vN : GV := .inr (.inr (.inl none))
abbrev vA (a : Nat) : GV := .inr (.inr (.inr a))
def cv (base : Nat) : GV → Value
  | .inl n => .int (Int32.ofInt n)
  | .inr (.inl n) => .long (Int64.ofInt n)
  | .inr (.inr (.inl r)) => va_rf (r.map (fun k => base + k))
  | .inr (.inr (.inr a)) => .ref a
abbrev GSh : Type := Nat → Nat ⊕ (Nat × Nat)
abbrev GR : Type := Nat → Nat → Option Nat
abbrev GI : Type := Nat → Nat → Int
/-- base, classes, array classes, addresses of the two static rows -/
abbrev GG : Type := Nat × va_G × (Nat → ClassId) × Nat × Nat
def gF (base : Nat) (k : Nat) (r : Option Nat) (i j : Int) : Value := match k with
  | 0 => .int (Int32.ofInt i)
  | 1 => .long (Int64.ofInt j)
  | _ => va_rf (r.map (fun q => base + q))
def gA (base t : Nat) (R : Nat → Option Nat) (I J : Nat → Int) : (Nat → Int32) ⊕ (Nat → Int64) ⊕ (Nat → UInt32) ⊕ (Nat → UInt64) ⊕ (Nat → Option Nat) := match t with
  | 0 => .inl (fun j => Int32.ofInt (I j))
  | 1 => .inr (.inl (fun j => Int64.ofInt (J j)))
  | 2 => .inl (fun j => Int32.ofInt (I j))
  | _ => .inr (.inr (.inr (.inr (fun j => (R j).map (fun q => base + q)))))
def gE (base : Nat) (tyc : Nat → ClassId) (sh : Nat ⊕ (Nat × Nat)) (R : Nat → Option Nat) (I J : Nat → Int) : va_E := match sh with
  | .inl ci => .inr (ci, (List.range (gN ci)).map (fun j => gF base (gK ci j) (R j) (I j) (J j)))
  | .inr (t, len) => .inl (tyc t, len, gA base t R I J)
def gW (G : GG) (n : Nat) (sh : GSh) (R : GR) (I J : GI) : va_W := (List.range n).map (fun k => (G.1 + k, gE G.1 G.2.2.1 (sh k) (R k) (I k) (J k)))
def gT (tyc : Nat → ClassId) : List (ClassId × FieldType) := [(tyc 0, .int), (tyc 1, .long), (tyc 2, .char), (tyc 3, .object "ShaftPlumb$Wire"), (tyc 4, .object "ShaftPlumb$Join"), (tyc 5, .object "ShaftPlumb$Traverse"), (tyc 6, .object "ShaftPlumb$Mine")]
def up (I : GI) (k j : Nat) (x : Int) : GI := fun a b => if a = k then (if b = j then x else I a b) else I a b
def upR (R : GR) (k j : Nat) (x : Option Nat) : GR := fun a b => if a = k then (if b = j then x else R a b) else R a b
def upS (sh : GSh) (k : Nat) (x : Nat ⊕ (Nat × Nat)) : GSh := fun a => if a = k then x else sh a
abbrev ge (G : GG) : Nat → Prop := fun q => G.1 ≤ q
theorem gW_get {G : GG} {n : Nat} {sh : GSh} {R : GR} {I J : GI} {k : Nat} (h : k < n) : (gW G n sh R I J)[k]? = some (G.1 + k, gE G.1 G.2.2.1 (sh k) (R k) (I k) (J k)) := by
  unfold gW
  rw [List.getElem?_map, List.getElem?_range h]; rfl
theorem gW_some {G : GG} {n : Nat} {sh : GSh} {R : GR} {I J : GI} {k : Nat} {q : Nat × va_E} (h : (gW G n sh R I J)[k]? = some q) : k < n ∧ q = (G.1 + k, gE G.1 G.2.2.1 (sh k) (R k) (I k) (J k)) := by
  have hk : k < n := by
    have h1 := (List.getElem?_eq_some_iff.mp h).1
    unfold gW at h1
    rw [List.length_map, List.length_range] at h1
    exact h1
  rw [gW_get hk] at h
  exact ⟨hk, (Option.some.inj h).symm⟩
theorem gW_len {G : GG} {n : Nat} {sh : GSh} {R : GR} {I J : GI} : (gW G n sh R I J).length = n := by
  unfold gW
  rw [List.length_map, List.length_range]
theorem gW_D {G : GG} {n : Nat} {sh : GSh} {R : GR} {I J : GI} : va_D (ge G) (gW G n sh R I J) := by
  refine ⟨fun i j p q hi hj h => ?_, fun k q h => ?_⟩
  · obtain ⟨-, rfl⟩ := gW_some hi
    obtain ⟨-, rfl⟩ := gW_some hj
    exact Nat.add_left_cancel h
  · obtain ⟨-, rfl⟩ := gW_some h
    exact Nat.le_add_right _ _
/-- the world with one cell exchanged -/
theorem gW_set {G : GG} {n : Nat} {sh : GSh} {R R' : GR} {I I' J J' : GI} {k : Nat} {e : va_E} (he : e = gE G.1 G.2.2.1 (sh k) (R' k) (I' k) (J' k)) (hR : ∀ a, a ≠ k → R' a = R a) (hI : ∀ a, a ≠ k → I' a = I a) (hJ : ∀ a, a ≠ k → J' a = J a) :
    (gW G n sh R I J).set k (G.1 + k, e) = gW G n sh R' I' J' := by
  apply List.ext_getElem?
  intro j
  by_cases hn : j < n
  · rw [gW_get hn, List.getElem?_set]
    by_cases hj : k = j
    · subst hj
      rw [if_pos rfl, gW_len, if_pos hn, he]
    · rw [if_neg hj, gW_get hn, hR j (fun q => hj q.symm), hI j (fun q => hj q.symm), hJ j (fun q => hj q.symm)]
  · rw [List.getElem?_eq_none (by rw [List.length_set, gW_len]; omega), List.getElem?_eq_none (by rw [gW_len]; omega)]
theorem up_ne {I : GI} {k j : Nat} {x : Int} {a : Nat} (h : a ≠ k) : up I k j x a = I a := by
  funext b
  unfold up
  rw [if_neg h]
theorem up_ne2 {I : GI} {k j : Nat} {x : Int} {a b : Nat} (h : b ≠ j) : up I k j x a b = I a b := by
  unfold up
  rw [if_neg h, ite_self]
theorem up_eq {I : GI} {k j : Nat} {x : Int} : up I k j x k j = x := by
  unfold up
  rw [if_pos rfl, if_pos rfl]
theorem upR_ne {I : GR} {k j : Nat} {x : Option Nat} {a : Nat} (h : a ≠ k) : upR I k j x a = I a := by
  funext b
  unfold upR
  rw [if_neg h]
theorem upR_ne2 {I : GR} {k j : Nat} {x : Option Nat} {a b : Nat} (h : b ≠ j) : upR I k j x a b = I a b := by
  unfold upR
  rw [if_neg h, ite_self]
theorem upR_eq {I : GR} {k j : Nat} {x : Option Nat} : upR I k j x k j = x := by
  unfold upR
  rw [if_pos rfl, if_pos rfl]
theorem rg_set {α : Type} (f g : Nat → α) (N k : Nat) (v : α) (hk : g k = v) (ho : ∀ j, j ≠ k → g j = f j) : ((List.range N).map f).set k v = (List.range N).map g := by
  apply List.ext_getElem?
  intro j
  by_cases hn : j < N
  · rw [List.getElem?_set]
    by_cases hj : k = j
    · subst hj
      rw [if_pos rfl, List.length_map, List.length_range, if_pos hn, List.getElem?_map, List.getElem?_range hn, ← hk]; rfl
    · rw [if_neg hj, List.getElem?_map, List.getElem?_map, List.getElem?_range hn]
      show some (f j) = some (g j)
      rw [ho j (fun q => hj q.symm)]
  · rw [List.getElem?_eq_none (by rw [List.length_set, List.length_map, List.length_range]; omega), List.getElem?_eq_none (by rw [List.length_map, List.length_range]; omega)]
theorem rg_get {α : Type} (f : Nat → α) {N k : Nat} (hk : k < N) : ((List.range N).map f)[k]? = some (f k) := by
  rw [List.getElem?_map, List.getElem?_range hk]; rfl
-- the locals
def gL (G : GG) (ls : Array Slot) (nL : Nat) (lo : List (Option GV)) : Prop := ls.size = nL ∧ lv_wf ls ∧ ∀ (i : Nat) (v : GV), lo[i]? = some (some v) → ls[i]? = some (.val (cv G.1 v))
def gLong : Option (Option GV) → Bool
  | some (some (.inr (.inl _))) => true
  | _ => false
def gSet (lo : List (Option GV)) (i : Nat) (v : GV) : List (Option GV) := match i with
  | 0 => lo.set 0 (some v)
  | j + 1 => if gLong lo[j]? then (lo.set j none).set (j + 1) (some v) else lo.set (j + 1) (some v)
def gSet2 (lo : List (Option GV)) (i : Nat) (v : GV) : List (Option GV) := (gSet lo i v).set (i + 1) none
theorem cv_cat (b : Nat) (v : GV) : (cv b v).category = if gLong (some (some v)) then 2 else 1 := by
  rcases v with n | n | r | a
  · rfl
  · rfl
  · cases r <;> rfl
  · rfl
def gPairs (b : Nat) (lo : List (Option GV)) : List (Nat × Value) := (List.range lo.length).filterMap (fun i => match lo[i]? with
  | some (some v) => some (i, cv b v)
  | _ => none)
theorem gPairs_in {b : Nat} {lo : List (Option GV)} {i : Nat} {v : GV} (h : lo[i]? = some (some v)) : (i, cv b v) ∈ gPairs b lo := by
  unfold gPairs
  refine List.mem_filterMap.mpr ⟨i, List.mem_range.mpr (List.getElem?_eq_some_iff.mp h).1, ?_⟩
  rw [h]
theorem gL_has {G : GG} {ls : Array Slot} {nL : Nat} {lo : List (Option GV)} (h : gL G ls nL lo) : lv_has ls nL (gPairs G.1 lo) := by
  refine ⟨h.1, h.2.1, fun q hq => ?_⟩
  unfold gPairs at hq
  obtain ⟨i, -, hi⟩ := List.mem_filterMap.mp hq
  split at hi
  · rename_i v hv
    cases hi
    exact h.2.2 i v hv
  · cases hi
theorem gL_store1 {G : GG} {ls : Array Slot} {nL : Nat} {lo : List (Option GV)} {i : Nat} {v : GV} (h : gL G ls nL lo) (hi : i < nL) (hc : gLong (some (some v)) = false) :
    ∃ ls', storeLocals ls i (cv G.1 v) = some ls' ∧ gL G ls' nL (gSet lo i v) := by
  have hc1 : (cv G.1 v).category = 1 := by rw [cv_cat, hc]; rfl
  obtain ⟨ls', e, h1, h2, h3⟩ := lv_store1 (gL_has h) hi hc1
  refine ⟨ls', e, h1, h2, fun j w hj => ?_⟩
  have key : j = i ∧ w = v ∨ (j ≠ i ∧ lo[j]? = some (some w) ∧ ¬ (j + 1 = i ∧ gLong (some (some w)) = true)) := by
    cases i with
    | zero =>
      unfold gSet at hj
      rw [List.getElem?_set] at hj
      by_cases hz : 0 = j
      · rw [if_pos hz] at hj
        split at hj
        · exact Or.inl ⟨hz.symm, (Option.some.inj (Option.some.inj hj)).symm⟩
        · cases hj
      · rw [if_neg hz] at hj
        exact Or.inr ⟨fun q => hz q.symm, hj, fun q => absurd q.1 (Nat.succ_ne_zero j)⟩
    | succ i =>
      unfold gSet at hj
      by_cases hl : gLong lo[i]? = true
      · rw [if_pos hl, List.getElem?_set] at hj
        by_cases hz : i + 1 = j
        · rw [if_pos hz] at hj
          split at hj
          · exact Or.inl ⟨hz.symm, (Option.some.inj (Option.some.inj hj)).symm⟩
          · cases hj
        · rw [if_neg hz, List.getElem?_set] at hj
          by_cases hy : i = j
          · rw [if_pos hy] at hj
            split at hj <;> cases hj
          · rw [if_neg hy] at hj
            exact Or.inr ⟨fun q => hz q.symm, hj, fun q => hy (Nat.succ.inj q.1).symm⟩
      · rw [if_neg hl, List.getElem?_set] at hj
        by_cases hz : i + 1 = j
        · rw [if_pos hz] at hj
          split at hj
          · exact Or.inl ⟨hz.symm, (Option.some.inj (Option.some.inj hj)).symm⟩
          · cases hj
        · rw [if_neg hz] at hj
          refine Or.inr ⟨fun q => hz q.symm, hj, fun q => ?_⟩
          have e : j = i := Nat.succ.inj q.1
          subst e
          rw [hj] at hl
          exact hl q.2
  rcases key with ⟨rfl, rfl⟩ | ⟨n1, n2, n3⟩
  · exact h3 (j, cv G.1 w) List.mem_cons_self
  · refine h3 (j, cv G.1 w) (List.mem_cons_of_mem _ (List.mem_filter.mpr ⟨gPairs_in n2, ?_⟩))
    simp only [Bool.and_eq_true, Bool.not_eq_true', beq_eq_false_iff_ne, ne_eq, Bool.and_eq_false_iff]
    refine ⟨n1, ?_⟩
    by_cases hq : j + 1 = i
    · right
      intro hcat
      rw [cv_cat] at hcat
      by_cases hlg : gLong (some (some w)) = true
      · exact n3 ⟨hq, hlg⟩
      · rw [if_neg hlg] at hcat
        cases hcat
    · exact Or.inl hq
theorem gL_store2 {G : GG} {ls : Array Slot} {nL : Nat} {lo : List (Option GV)} {i : Nat} {v : GV} (h : gL G ls nL lo) (hi : i + 1 < nL) (hc : gLong (some (some v)) = true) :
    ∃ ls', storeLocals ls i (cv G.1 v) = some ls' ∧ gL G ls' nL (gSet2 lo i v) := by
  have hc1 : (cv G.1 v).category = 2 := by rw [cv_cat, hc]; rfl
  obtain ⟨ls', e, h1, h2, h3⟩ := lv_store2 (gL_has h) hi hc1
  refine ⟨ls', e, h1, h2, fun j w hj => ?_⟩
  unfold gSet2 at hj
  rw [List.getElem?_set] at hj
  by_cases hy : i + 1 = j
  · rw [if_pos hy] at hj
    split at hj <;> cases hj
  rw [if_neg hy] at hj
  have key : j = i ∧ w = v ∨ (j ≠ i ∧ lo[j]? = some (some w) ∧ ¬ (j + 1 = i ∧ gLong (some (some w)) = true)) := by
    cases i with
    | zero =>
      unfold gSet at hj
      rw [List.getElem?_set] at hj
      by_cases hz : 0 = j
      · rw [if_pos hz] at hj
        split at hj
        · exact Or.inl ⟨hz.symm, (Option.some.inj (Option.some.inj hj)).symm⟩
        · cases hj
      · rw [if_neg hz] at hj
        exact Or.inr ⟨fun q => hz q.symm, hj, fun q => absurd q.1 (Nat.succ_ne_zero j)⟩
    | succ i =>
      unfold gSet at hj
      by_cases hl : gLong lo[i]? = true
      · rw [if_pos hl, List.getElem?_set] at hj
        by_cases hz : i + 1 = j
        · rw [if_pos hz] at hj
          split at hj
          · exact Or.inl ⟨hz.symm, (Option.some.inj (Option.some.inj hj)).symm⟩
          · cases hj
        · rw [if_neg hz, List.getElem?_set] at hj
          by_cases hy : i = j
          · rw [if_pos hy] at hj
            split at hj <;> cases hj
          · rw [if_neg hy] at hj
            exact Or.inr ⟨fun q => hz q.symm, hj, fun q => hy (Nat.succ.inj q.1).symm⟩
      · rw [if_neg hl, List.getElem?_set] at hj
        by_cases hz : i + 1 = j
        · rw [if_pos hz] at hj
          split at hj
          · exact Or.inl ⟨hz.symm, (Option.some.inj (Option.some.inj hj)).symm⟩
          · cases hj
        · rw [if_neg hz] at hj
          refine Or.inr ⟨fun q => hz q.symm, hj, fun q => ?_⟩
          have e : j = i := Nat.succ.inj q.1
          subst e
          rw [hj] at hl
          exact hl q.2
  rcases key with ⟨rfl, rfl⟩ | ⟨n1, n2, n3⟩
  · exact h3 (j, cv G.1 w) List.mem_cons_self
  · refine h3 (j, cv G.1 w) (List.mem_cons_of_mem _ (List.mem_filter.mpr ⟨gPairs_in n2, ?_⟩))
    simp only [Bool.and_eq_true, Bool.not_eq_true', beq_eq_false_iff_ne, ne_eq, Bool.and_eq_false_iff]
    refine ⟨n1, fun q => hy q.symm, ?_⟩
    by_cases hq : j + 1 = i
    · right
      intro hcat
      rw [cv_cat] at hcat
      by_cases hlg : gLong (some (some w)) = true
      · exact n3 ⟨hq, hlg⟩
      · rw [if_neg hlg] at hcat
        cases hcat
    · exact Or.inl hq
theorem gL_sub {G : GG} {ls : Array Slot} {nL : Nat} {lo lo' : List (Option GV)} (h : gL G ls nL lo) (hs : ∀ (i : Nat) (v : GV), lo'[i]? = some (some v) → lo[i]? = some (some v)) : gL G ls nL lo' := ⟨h.1, h.2.1, fun i v hi => h.2.2 i v (hs i v hi)⟩
end
