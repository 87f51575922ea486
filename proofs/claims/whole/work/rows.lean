section
-- ===== PART A: goes FIRST, ahead of the names: the tables' words, and 'selects' of the private methods out of them =====
/-- a private method of a class that the tables say can be made, by its rows of tables_1 -/
def lw_okq (q : MethodName × Nat) : Prop := (q.1.cls ≠ "java/lang/invoke/MethodHandle" ∧ q.1.cls ≠ "java/lang/invoke/VarHandle") ∧ Cond.instantiable q.1.cls q.2 ∈ tables_1 ∧ Cond.privateMethod q.1 ∈ tables_1 ∧ Cond.instanceMethod q.1 ∈ tables_1
theorem lw_p0 : lw_okq (⟨"TurnedLock", "makeAnew", "(LTurnedLock$Row;II)I"⟩, 10) := ⟨⟨by decide +kernel, by decide +kernel⟩, List.mem_of_getElem? (i := 17) (by decide +kernel), List.mem_of_getElem? (i := 219) (by decide +kernel), List.mem_of_getElem? (i := 220) (by decide +kernel)⟩
theorem lw_p1 : lw_okq (⟨"TurnedLock", "found", "(I)I"⟩, 10) := ⟨⟨by decide +kernel, by decide +kernel⟩, List.mem_of_getElem? (i := 17) (by decide +kernel), List.mem_of_getElem? (i := 223) (by decide +kernel), List.mem_of_getElem? (i := 224) (by decide +kernel)⟩
theorem lw_p2 : lw_okq (⟨"TurnedLock", "refusedPlace", "(LTurnedLock$Row;I)I"⟩, 10) := ⟨⟨by decide +kernel, by decide +kernel⟩, List.mem_of_getElem? (i := 17) (by decide +kernel), List.mem_of_getElem? (i := 238) (by decide +kernel), List.mem_of_getElem? (i := 239) (by decide +kernel)⟩
theorem lw_p3 : lw_okq (⟨"TurnedLock", "refusedRow", "(LTurnedLock$Row;)I"⟩, 10) := ⟨⟨by decide +kernel, by decide +kernel⟩, List.mem_of_getElem? (i := 17) (by decide +kernel), List.mem_of_getElem? (i := 242) (by decide +kernel), List.mem_of_getElem? (i := 243) (by decide +kernel)⟩
theorem lw_p4 : lw_okq (⟨"TurnedLock", "tellNumber", "(I)V"⟩, 10) := ⟨⟨by decide +kernel, by decide +kernel⟩, List.mem_of_getElem? (i := 17) (by decide +kernel), List.mem_of_getElem? (i := 254) (by decide +kernel), List.mem_of_getElem? (i := 255) (by decide +kernel)⟩
theorem lw_p5 : lw_okq (⟨"TurnedLock$Reader", "personsFault", "(LTurnedLock$Row;I)I"⟩, 5) := ⟨⟨by decide +kernel, by decide +kernel⟩, List.mem_of_getElem? (i := 29) (by decide +kernel), List.mem_of_getElem? (i := 311) (by decide +kernel), List.mem_of_getElem? (i := 312) (by decide +kernel)⟩
theorem lw_p6 : lw_okq (⟨"TurnedLock$Shed", "newPerson", "(I[I[I)LTurnedLock$Person;"⟩, 10) := ⟨⟨by decide +kernel, by decide +kernel⟩, List.mem_of_getElem? (i := 57) (by decide +kernel), List.mem_of_getElem? (i := 331) (by decide +kernel), List.mem_of_getElem? (i := 332) (by decide +kernel)⟩
theorem lw_p7 : lw_okq (⟨"TurnedLock$Shed", "setAll", "([JJ)V"⟩, 10) := ⟨⟨by decide +kernel, by decide +kernel⟩, List.mem_of_getElem? (i := 57) (by decide +kernel), List.mem_of_getElem? (i := 523) (by decide +kernel), List.mem_of_getElem? (i := 524) (by decide +kernel)⟩
theorem lw_p8 : lw_okq (⟨"TurnedLock$Shed", "weigh", "(II)V"⟩, 10) := ⟨⟨by decide +kernel, by decide +kernel⟩, List.mem_of_getElem? (i := 57) (by decide +kernel), List.mem_of_getElem? (i := 527) (by decide +kernel), List.mem_of_getElem? (i := 528) (by decide +kernel)⟩
theorem lw_p9 : lw_okq (⟨"TurnedLock$Shed", "weighLook", "([JLTurnedLock$Person;I)V"⟩, 10) := ⟨⟨by decide +kernel, by decide +kernel⟩, List.mem_of_getElem? (i := 57) (by decide +kernel), List.mem_of_getElem? (i := 531) (by decide +kernel), List.mem_of_getElem? (i := 532) (by decide +kernel)⟩
theorem lw_p10 : lw_okq (⟨"TurnedLock", "factOf", "(LTurnedLock$Person;II)I"⟩, 10) := ⟨⟨by decide +kernel, by decide +kernel⟩, List.mem_of_getElem? (i := 17) (by decide +kernel), List.mem_of_getElem? (i := 560) (by decide +kernel), List.mem_of_getElem? (i := 561) (by decide +kernel)⟩
theorem lw_p11 : lw_okq (⟨"TurnedLock", "tellChance", "(JJ)I"⟩, 10) := ⟨⟨by decide +kernel, by decide +kernel⟩, List.mem_of_getElem? (i := 17) (by decide +kernel), List.mem_of_getElem? (i := 703) (by decide +kernel), List.mem_of_getElem? (i := 704) (by decide +kernel)⟩
theorem lw_p12 : lw_okq (⟨"TurnedLock", "refusedTold", "(I)I"⟩, 10) := ⟨⟨by decide +kernel, by decide +kernel⟩, List.mem_of_getElem? (i := 17) (by decide +kernel), List.mem_of_getElem? (i := 823) (by decide +kernel), List.mem_of_getElem? (i := 824) (by decide +kernel)⟩
theorem lw_p13 : lw_okq (⟨"TurnedLock$Shed", "sightOf", "(LTurnedLock$Person;II)I"⟩, 10) := ⟨⟨by decide +kernel, by decide +kernel⟩, List.mem_of_getElem? (i := 57) (by decide +kernel), List.mem_of_getElem? (i := 894) (by decide +kernel), List.mem_of_getElem? (i := 895) (by decide +kernel)⟩
theorem lw_p14 : lw_okq (⟨"TurnedLock", "howManyKept", "()I"⟩, 10) := ⟨⟨by decide +kernel, by decide +kernel⟩, List.mem_of_getElem? (i := 17) (by decide +kernel), List.mem_of_getElem? (i := 922) (by decide +kernel), List.mem_of_getElem? (i := 923) (by decide +kernel)⟩
theorem lw_p15 : lw_okq (⟨"TurnedLock", "digestPersons", "(J)J"⟩, 10) := ⟨⟨by decide +kernel, by decide +kernel⟩, List.mem_of_getElem? (i := 17) (by decide +kernel), List.mem_of_getElem? (i := 941) (by decide +kernel), List.mem_of_getElem? (i := 942) (by decide +kernel)⟩
def lw_privs_1 : List (MethodName × Nat) := [(⟨"TurnedLock", "makeAnew", "(LTurnedLock$Row;II)I"⟩, 10), (⟨"TurnedLock", "found", "(I)I"⟩, 10), (⟨"TurnedLock", "refusedPlace", "(LTurnedLock$Row;I)I"⟩, 10), (⟨"TurnedLock", "refusedRow", "(LTurnedLock$Row;)I"⟩, 10), (⟨"TurnedLock", "tellNumber", "(I)V"⟩, 10), (⟨"TurnedLock$Reader", "personsFault", "(LTurnedLock$Row;I)I"⟩, 5), (⟨"TurnedLock$Shed", "newPerson", "(I[I[I)LTurnedLock$Person;"⟩, 10), (⟨"TurnedLock$Shed", "setAll", "([JJ)V"⟩, 10), (⟨"TurnedLock$Shed", "weigh", "(II)V"⟩, 10), (⟨"TurnedLock$Shed", "weighLook", "([JLTurnedLock$Person;I)V"⟩, 10), (⟨"TurnedLock", "factOf", "(LTurnedLock$Person;II)I"⟩, 10), (⟨"TurnedLock", "tellChance", "(JJ)I"⟩, 10), (⟨"TurnedLock", "refusedTold", "(I)I"⟩, 10), (⟨"TurnedLock$Shed", "sightOf", "(LTurnedLock$Person;II)I"⟩, 10), (⟨"TurnedLock", "howManyKept", "()I"⟩, 10), (⟨"TurnedLock", "digestPersons", "(J)J"⟩, 10)]
theorem lw_r1 : ∀ q ∈ lw_privs_1, lw_okq q := List.forall_mem_cons.mpr ⟨lw_p0, List.forall_mem_cons.mpr ⟨lw_p1, List.forall_mem_cons.mpr ⟨lw_p2, List.forall_mem_cons.mpr ⟨lw_p3, List.forall_mem_cons.mpr ⟨lw_p4, List.forall_mem_cons.mpr ⟨lw_p5, List.forall_mem_cons.mpr ⟨lw_p6, List.forall_mem_cons.mpr ⟨lw_p7, List.forall_mem_cons.mpr ⟨lw_p8, List.forall_mem_cons.mpr ⟨lw_p9, List.forall_mem_cons.mpr ⟨lw_p10, List.forall_mem_cons.mpr ⟨lw_p11, List.forall_mem_cons.mpr ⟨lw_p12, List.forall_mem_cons.mpr ⟨lw_p13, List.forall_mem_cons.mpr ⟨lw_p14, List.forall_mem_cons.mpr ⟨lw_p15, fun _ h => absurd h List.not_mem_nil⟩⟩⟩⟩⟩⟩⟩⟩⟩⟩⟩⟩⟩⟩⟩⟩
theorem lw_p16 : lw_okq (⟨"TurnedLockModel", "find", "(I)I"⟩, 25) := ⟨⟨by decide +kernel, by decide +kernel⟩, List.mem_of_getElem? (i := 948) (by decide +kernel), List.mem_of_getElem? (i := 1041) (by decide +kernel), List.mem_of_getElem? (i := 1042) (by decide +kernel)⟩
theorem lw_p17 : lw_okq (⟨"TurnedLockModel", "makeRow", "(II)V"⟩, 25) := ⟨⟨by decide +kernel, by decide +kernel⟩, List.mem_of_getElem? (i := 948) (by decide +kernel), List.mem_of_getElem? (i := 1045) (by decide +kernel), List.mem_of_getElem? (i := 1046) (by decide +kernel)⟩
theorem lw_p18 : lw_okq (⟨"TurnedLockModel", "refused", "(II)I"⟩, 25) := ⟨⟨by decide +kernel, by decide +kernel⟩, List.mem_of_getElem? (i := 948) (by decide +kernel), List.mem_of_getElem? (i := 1053) (by decide +kernel), List.mem_of_getElem? (i := 1054) (by decide +kernel)⟩
theorem lw_p19 : lw_okq (⟨"TurnedLockModel", "tell", "(I)I"⟩, 25) := ⟨⟨by decide +kernel, by decide +kernel⟩, List.mem_of_getElem? (i := 948) (by decide +kernel), List.mem_of_getElem? (i := 1057) (by decide +kernel), List.mem_of_getElem? (i := 1058) (by decide +kernel)⟩
theorem lw_p20 : lw_okq (⟨"TurnedLockModel", "isSpan", "(III)Z"⟩, 25) := ⟨⟨by decide +kernel, by decide +kernel⟩, List.mem_of_getElem? (i := 948) (by decide +kernel), List.mem_of_getElem? (i := 1073) (by decide +kernel), List.mem_of_getElem? (i := 1074) (by decide +kernel)⟩
theorem lw_p21 : lw_okq (⟨"TurnedLockModel", "faultOf", "(I)I"⟩, 25) := ⟨⟨by decide +kernel, by decide +kernel⟩, List.mem_of_getElem? (i := 948) (by decide +kernel), List.mem_of_getElem? (i := 1097) (by decide +kernel), List.mem_of_getElem? (i := 1098) (by decide +kernel)⟩
theorem lw_p22 : lw_okq (⟨"TurnedLockModel", "readsLock", "()Z"⟩, 25) := ⟨⟨by decide +kernel, by decide +kernel⟩, List.mem_of_getElem? (i := 948) (by decide +kernel), List.mem_of_getElem? (i := 1101) (by decide +kernel), List.mem_of_getElem? (i := 1102) (by decide +kernel)⟩
theorem lw_p23 : lw_okq (⟨"TurnedLockModel", "skip", "()V"⟩, 25) := ⟨⟨by decide +kernel, by decide +kernel⟩, List.mem_of_getElem? (i := 948) (by decide +kernel), List.mem_of_getElem? (i := 1105) (by decide +kernel), List.mem_of_getElem? (i := 1106) (by decide +kernel)⟩
theorem lw_p24 : lw_okq (⟨"TurnedLockModel", "here", "()I"⟩, 25) := ⟨⟨by decide +kernel, by decide +kernel⟩, List.mem_of_getElem? (i := 948) (by decide +kernel), List.mem_of_getElem? (i := 1109) (by decide +kernel), List.mem_of_getElem? (i := 1110) (by decide +kernel)⟩
theorem lw_p25 : lw_okq (⟨"TurnedLockModel", "figure", "(II)I"⟩, 25) := ⟨⟨by decide +kernel, by decide +kernel⟩, List.mem_of_getElem? (i := 948) (by decide +kernel), List.mem_of_getElem? (i := 1113) (by decide +kernel), List.mem_of_getElem? (i := 1114) (by decide +kernel)⟩
theorem lw_p26 : lw_okq (⟨"TurnedLockModel", "readsPerson", "()Z"⟩, 25) := ⟨⟨by decide +kernel, by decide +kernel⟩, List.mem_of_getElem? (i := 948) (by decide +kernel), List.mem_of_getElem? (i := 1117) (by decide +kernel), List.mem_of_getElem? (i := 1118) (by decide +kernel)⟩
theorem lw_p27 : lw_okq (⟨"TurnedLockModel", "layWeights", "()V"⟩, 25) := ⟨⟨by decide +kernel, by decide +kernel⟩, List.mem_of_getElem? (i := 948) (by decide +kernel), List.mem_of_getElem? (i := 1131) (by decide +kernel), List.mem_of_getElem? (i := 1132) (by decide +kernel)⟩
theorem lw_p28 : lw_okq (⟨"TurnedLockModel", "weightBy", "(JIII)J"⟩, 25) := ⟨⟨by decide +kernel, by decide +kernel⟩, List.mem_of_getElem? (i := 948) (by decide +kernel), List.mem_of_getElem? (i := 1135) (by decide +kernel), List.mem_of_getElem? (i := 1136) (by decide +kernel)⟩
theorem lw_p29 : lw_okq (⟨"TurnedLockModel", "waysOf", "(III)I"⟩, 25) := ⟨⟨by decide +kernel, by decide +kernel⟩, List.mem_of_getElem? (i := 948) (by decide +kernel), List.mem_of_getElem? (i := 1139) (by decide +kernel), List.mem_of_getElem? (i := 1140) (by decide +kernel)⟩
theorem lw_p30 : lw_okq (⟨"TurnedLockModel", "anyWays", "(III)I"⟩, 25) := ⟨⟨by decide +kernel, by decide +kernel⟩, List.mem_of_getElem? (i := 948) (by decide +kernel), List.mem_of_getElem? (i := 1143) (by decide +kernel), List.mem_of_getElem? (i := 1144) (by decide +kernel)⟩
theorem lw_p31 : lw_okq (⟨"TurnedLockModel", "up", "(III)I"⟩, 25) := ⟨⟨by decide +kernel, by decide +kernel⟩, List.mem_of_getElem? (i := 948) (by decide +kernel), List.mem_of_getElem? (i := 1147) (by decide +kernel), List.mem_of_getElem? (i := 1148) (by decide +kernel)⟩
def lw_privs_2 : List (MethodName × Nat) := [(⟨"TurnedLockModel", "find", "(I)I"⟩, 25), (⟨"TurnedLockModel", "makeRow", "(II)V"⟩, 25), (⟨"TurnedLockModel", "refused", "(II)I"⟩, 25), (⟨"TurnedLockModel", "tell", "(I)I"⟩, 25), (⟨"TurnedLockModel", "isSpan", "(III)Z"⟩, 25), (⟨"TurnedLockModel", "faultOf", "(I)I"⟩, 25), (⟨"TurnedLockModel", "readsLock", "()Z"⟩, 25), (⟨"TurnedLockModel", "skip", "()V"⟩, 25), (⟨"TurnedLockModel", "here", "()I"⟩, 25), (⟨"TurnedLockModel", "figure", "(II)I"⟩, 25), (⟨"TurnedLockModel", "readsPerson", "()Z"⟩, 25), (⟨"TurnedLockModel", "layWeights", "()V"⟩, 25), (⟨"TurnedLockModel", "weightBy", "(JIII)J"⟩, 25), (⟨"TurnedLockModel", "waysOf", "(III)I"⟩, 25), (⟨"TurnedLockModel", "anyWays", "(III)I"⟩, 25), (⟨"TurnedLockModel", "up", "(III)I"⟩, 25)]
theorem lw_r2 : ∀ q ∈ lw_privs_2, lw_okq q := List.forall_mem_cons.mpr ⟨lw_p16, List.forall_mem_cons.mpr ⟨lw_p17, List.forall_mem_cons.mpr ⟨lw_p18, List.forall_mem_cons.mpr ⟨lw_p19, List.forall_mem_cons.mpr ⟨lw_p20, List.forall_mem_cons.mpr ⟨lw_p21, List.forall_mem_cons.mpr ⟨lw_p22, List.forall_mem_cons.mpr ⟨lw_p23, List.forall_mem_cons.mpr ⟨lw_p24, List.forall_mem_cons.mpr ⟨lw_p25, List.forall_mem_cons.mpr ⟨lw_p26, List.forall_mem_cons.mpr ⟨lw_p27, List.forall_mem_cons.mpr ⟨lw_p28, List.forall_mem_cons.mpr ⟨lw_p29, List.forall_mem_cons.mpr ⟨lw_p30, List.forall_mem_cons.mpr ⟨lw_p31, fun _ h => absurd h List.not_mem_nil⟩⟩⟩⟩⟩⟩⟩⟩⟩⟩⟩⟩⟩⟩⟩⟩
theorem lw_p32 : lw_okq (⟨"TurnedLockModel", "notch", "(II)I"⟩, 25) := ⟨⟨by decide +kernel, by decide +kernel⟩, List.mem_of_getElem? (i := 948) (by decide +kernel), List.mem_of_getElem? (i := 1151) (by decide +kernel), List.mem_of_getElem? (i := 1152) (by decide +kernel)⟩
theorem lw_p33 : lw_okq (⟨"TurnedLockModel", "flicksOf", "(I)I"⟩, 25) := ⟨⟨by decide +kernel, by decide +kernel⟩, List.mem_of_getElem? (i := 948) (by decide +kernel), List.mem_of_getElem? (i := 1155) (by decide +kernel), List.mem_of_getElem? (i := 1156) (by decide +kernel)⟩
theorem lw_p34 : lw_okq (⟨"TurnedLockModel", "wheelWays", "(III)I"⟩, 25) := ⟨⟨by decide +kernel, by decide +kernel⟩, List.mem_of_getElem? (i := 948) (by decide +kernel), List.mem_of_getElem? (i := 1159) (by decide +kernel), List.mem_of_getElem? (i := 1160) (by decide +kernel)⟩
theorem lw_p35 : lw_okq (⟨"TurnedLockModel", "eithers", "(II)I"⟩, 25) := ⟨⟨by decide +kernel, by decide +kernel⟩, List.mem_of_getElem? (i := 948) (by decide +kernel), List.mem_of_getElem? (i := 1163) (by decide +kernel), List.mem_of_getElem? (i := 1164) (by decide +kernel)⟩
theorem lw_p36 : lw_okq (⟨"TurnedLockModel", "isPerson", "(I)Z"⟩, 25) := ⟨⟨by decide +kernel, by decide +kernel⟩, List.mem_of_getElem? (i := 948) (by decide +kernel), List.mem_of_getElem? (i := 1171) (by decide +kernel), List.mem_of_getElem? (i := 1172) (by decide +kernel)⟩
theorem lw_p37 : lw_okq (⟨"TurnedLockModel", "toldOf", "(II)I"⟩, 25) := ⟨⟨by decide +kernel, by decide +kernel⟩, List.mem_of_getElem? (i := 948) (by decide +kernel), List.mem_of_getElem? (i := 1175) (by decide +kernel), List.mem_of_getElem? (i := 1176) (by decide +kernel)⟩
theorem lw_p38 : lw_okq (⟨"TurnedLockModel", "waysInAll", "(I)I"⟩, 25) := ⟨⟨by decide +kernel, by decide +kernel⟩, List.mem_of_getElem? (i := 948) (by decide +kernel), List.mem_of_getElem? (i := 1179) (by decide +kernel), List.mem_of_getElem? (i := 1180) (by decide +kernel)⟩
theorem lw_p39 : lw_okq (⟨"TurnedLockModel", "twoAtMost", "()I"⟩, 25) := ⟨⟨by decide +kernel, by decide +kernel⟩, List.mem_of_getElem? (i := 948) (by decide +kernel), List.mem_of_getElem? (i := 1183) (by decide +kernel), List.mem_of_getElem? (i := 1184) (by decide +kernel)⟩
theorem lw_p40 : lw_okq (⟨"TurnedLockModel", "lookedAt", "(I)I"⟩, 25) := ⟨⟨by decide +kernel, by decide +kernel⟩, List.mem_of_getElem? (i := 948) (by decide +kernel), List.mem_of_getElem? (i := 1187) (by decide +kernel), List.mem_of_getElem? (i := 1188) (by decide +kernel)⟩
theorem lw_p41 : lw_okq (⟨"TurnedLockModel", "isOf", "(II)Z"⟩, 25) := ⟨⟨by decide +kernel, by decide +kernel⟩, List.mem_of_getElem? (i := 948) (by decide +kernel), List.mem_of_getElem? (i := 1195) (by decide +kernel), List.mem_of_getElem? (i := 1196) (by decide +kernel)⟩
theorem lw_p42 : lw_okq (⟨"TurnedLockModel", "sightsFrom", "(I)I"⟩, 25) := ⟨⟨by decide +kernel, by decide +kernel⟩, List.mem_of_getElem? (i := 948) (by decide +kernel), List.mem_of_getElem? (i := 1199) (by decide +kernel), List.mem_of_getElem? (i := 1200) (by decide +kernel)⟩
theorem lw_p43 : lw_okq (⟨"TurnedLockModel", "waysThatLeave", "(I)I"⟩, 25) := ⟨⟨by decide +kernel, by decide +kernel⟩, List.mem_of_getElem? (i := 948) (by decide +kernel), List.mem_of_getElem? (i := 1203) (by decide +kernel), List.mem_of_getElem? (i := 1204) (by decide +kernel)⟩
theorem lw_p44 : lw_okq (⟨"TurnedLockModel", "possible", "()I"⟩, 25) := ⟨⟨by decide +kernel, by decide +kernel⟩, List.mem_of_getElem? (i := 948) (by decide +kernel), List.mem_of_getElem? (i := 1207) (by decide +kernel), List.mem_of_getElem? (i := 1208) (by decide +kernel)⟩
theorem lw_p45 : lw_okq (⟨"TurnedLockModel", "notchesInAll", "(I)I"⟩, 25) := ⟨⟨by decide +kernel, by decide +kernel⟩, List.mem_of_getElem? (i := 948) (by decide +kernel), List.mem_of_getElem? (i := 1211) (by decide +kernel), List.mem_of_getElem? (i := 1212) (by decide +kernel)⟩
theorem lw_p46 : lw_okq (⟨"TurnedLockModel", "isSetting", "(I)Z"⟩, 25) := ⟨⟨by decide +kernel, by decide +kernel⟩, List.mem_of_getElem? (i := 948) (by decide +kernel), List.mem_of_getElem? (i := 1223) (by decide +kernel), List.mem_of_getElem? (i := 1224) (by decide +kernel)⟩
theorem lw_p47 : lw_okq (⟨"TurnedLockModel", "doDeed", "(II)I"⟩, 25) := ⟨⟨by decide +kernel, by decide +kernel⟩, List.mem_of_getElem? (i := 948) (by decide +kernel), List.mem_of_getElem? (i := 1227) (by decide +kernel), List.mem_of_getElem? (i := 1228) (by decide +kernel)⟩
def lw_privs_3 : List (MethodName × Nat) := [(⟨"TurnedLockModel", "notch", "(II)I"⟩, 25), (⟨"TurnedLockModel", "flicksOf", "(I)I"⟩, 25), (⟨"TurnedLockModel", "wheelWays", "(III)I"⟩, 25), (⟨"TurnedLockModel", "eithers", "(II)I"⟩, 25), (⟨"TurnedLockModel", "isPerson", "(I)Z"⟩, 25), (⟨"TurnedLockModel", "toldOf", "(II)I"⟩, 25), (⟨"TurnedLockModel", "waysInAll", "(I)I"⟩, 25), (⟨"TurnedLockModel", "twoAtMost", "()I"⟩, 25), (⟨"TurnedLockModel", "lookedAt", "(I)I"⟩, 25), (⟨"TurnedLockModel", "isOf", "(II)Z"⟩, 25), (⟨"TurnedLockModel", "sightsFrom", "(I)I"⟩, 25), (⟨"TurnedLockModel", "waysThatLeave", "(I)I"⟩, 25), (⟨"TurnedLockModel", "possible", "()I"⟩, 25), (⟨"TurnedLockModel", "notchesInAll", "(I)I"⟩, 25), (⟨"TurnedLockModel", "isSetting", "(I)Z"⟩, 25), (⟨"TurnedLockModel", "doDeed", "(II)I"⟩, 25)]
theorem lw_r3 : ∀ q ∈ lw_privs_3, lw_okq q := List.forall_mem_cons.mpr ⟨lw_p32, List.forall_mem_cons.mpr ⟨lw_p33, List.forall_mem_cons.mpr ⟨lw_p34, List.forall_mem_cons.mpr ⟨lw_p35, List.forall_mem_cons.mpr ⟨lw_p36, List.forall_mem_cons.mpr ⟨lw_p37, List.forall_mem_cons.mpr ⟨lw_p38, List.forall_mem_cons.mpr ⟨lw_p39, List.forall_mem_cons.mpr ⟨lw_p40, List.forall_mem_cons.mpr ⟨lw_p41, List.forall_mem_cons.mpr ⟨lw_p42, List.forall_mem_cons.mpr ⟨lw_p43, List.forall_mem_cons.mpr ⟨lw_p44, List.forall_mem_cons.mpr ⟨lw_p45, List.forall_mem_cons.mpr ⟨lw_p46, List.forall_mem_cons.mpr ⟨lw_p47, fun _ h => absurd h List.not_mem_nil⟩⟩⟩⟩⟩⟩⟩⟩⟩⟩⟩⟩⟩⟩⟩⟩
theorem lw_p48 : lw_okq (⟨"TurnedLockModel", "copyShed", "(II)V"⟩, 25) := ⟨⟨by decide +kernel, by decide +kernel⟩, List.mem_of_getElem? (i := 948) (by decide +kernel), List.mem_of_getElem? (i := 1244) (by decide +kernel), List.mem_of_getElem? (i := 1245) (by decide +kernel)⟩
theorem lw_p49 : lw_okq (⟨"TurnedLockModel", "allWeights", "()J"⟩, 25) := ⟨⟨by decide +kernel, by decide +kernel⟩, List.mem_of_getElem? (i := 948) (by decide +kernel), List.mem_of_getElem? (i := 1256) (by decide +kernel), List.mem_of_getElem? (i := 1257) (by decide +kernel)⟩
theorem lw_p50 : lw_okq (⟨"TurnedLockModel", "tellParts", "(JJ)I"⟩, 25) := ⟨⟨by decide +kernel, by decide +kernel⟩, List.mem_of_getElem? (i := 948) (by decide +kernel), List.mem_of_getElem? (i := 1260) (by decide +kernel), List.mem_of_getElem? (i := 1261) (by decide +kernel)⟩
theorem lw_p51 : lw_okq (⟨"TurnedLockModel", "weightsAt", "(II)J"⟩, 25) := ⟨⟨by decide +kernel, by decide +kernel⟩, List.mem_of_getElem? (i := 948) (by decide +kernel), List.mem_of_getElem? (i := 1272) (by decide +kernel), List.mem_of_getElem? (i := 1273) (by decide +kernel)⟩
theorem lw_p52 : lw_okq (⟨"TurnedLockModel", "laySorted", "()I"⟩, 25) := ⟨⟨by decide +kernel, by decide +kernel⟩, List.mem_of_getElem? (i := 948) (by decide +kernel), List.mem_of_getElem? (i := 1285) (by decide +kernel), List.mem_of_getElem? (i := 1286) (by decide +kernel)⟩
theorem lw_p53 : lw_okq (⟨"TurnedLockModel", "worthOf", "(I)J"⟩, 25) := ⟨⟨by decide +kernel, by decide +kernel⟩, List.mem_of_getElem? (i := 948) (by decide +kernel), List.mem_of_getElem? (i := 1302) (by decide +kernel), List.mem_of_getElem? (i := 1303) (by decide +kernel)⟩
theorem lw_p54 : lw_okq (⟨"TurnedLockModel", "seenBy", "(II)J"⟩, 25) := ⟨⟨by decide +kernel, by decide +kernel⟩, List.mem_of_getElem? (i := 948) (by decide +kernel), List.mem_of_getElem? (i := 1314) (by decide +kernel), List.mem_of_getElem? (i := 1315) (by decide +kernel)⟩
theorem lw_p55 : lw_okq (⟨"TurnedLockModel", "noLooks", "(I)I"⟩, 25) := ⟨⟨by decide +kernel, by decide +kernel⟩, List.mem_of_getElem? (i := 948) (by decide +kernel), List.mem_of_getElem? (i := 1326) (by decide +kernel), List.mem_of_getElem? (i := 1327) (by decide +kernel)⟩
theorem lw_p56 : lw_okq (⟨"TurnedLockModel", "far", "(II)I"⟩, 25) := ⟨⟨by decide +kernel, by decide +kernel⟩, List.mem_of_getElem? (i := 948) (by decide +kernel), List.mem_of_getElem? (i := 1350) (by decide +kernel), List.mem_of_getElem? (i := 1351) (by decide +kernel)⟩
theorem lw_p57 : lw_okq (⟨"TurnedLockModel", "broughtTo", "(III)I"⟩, 25) := ⟨⟨by decide +kernel, by decide +kernel⟩, List.mem_of_getElem? (i := 948) (by decide +kernel), List.mem_of_getElem? (i := 1369) (by decide +kernel), List.mem_of_getElem? (i := 1370) (by decide +kernel)⟩
theorem lw_p58 : lw_okq (⟨"TurnedLockModel", "countOf", "(I)I"⟩, 25) := ⟨⟨by decide +kernel, by decide +kernel⟩, List.mem_of_getElem? (i := 948) (by decide +kernel), List.mem_of_getElem? (i := 1389) (by decide +kernel), List.mem_of_getElem? (i := 1390) (by decide +kernel)⟩
theorem lw_p59 : lw_okq (⟨"TurnedLockModel", "anys", "()I"⟩, 25) := ⟨⟨by decide +kernel, by decide +kernel⟩, List.mem_of_getElem? (i := 948) (by decide +kernel), List.mem_of_getElem? (i := 1393) (by decide +kernel), List.mem_of_getElem? (i := 1394) (by decide +kernel)⟩
theorem lw_p60 : lw_okq (⟨"TurnedLockModel", "thereOf", "(I)I"⟩, 25) := ⟨⟨by decide +kernel, by decide +kernel⟩, List.mem_of_getElem? (i := 948) (by decide +kernel), List.mem_of_getElem? (i := 1397) (by decide +kernel), List.mem_of_getElem? (i := 1398) (by decide +kernel)⟩
def lw_privs_4 : List (MethodName × Nat) := [(⟨"TurnedLockModel", "copyShed", "(II)V"⟩, 25), (⟨"TurnedLockModel", "allWeights", "()J"⟩, 25), (⟨"TurnedLockModel", "tellParts", "(JJ)I"⟩, 25), (⟨"TurnedLockModel", "weightsAt", "(II)J"⟩, 25), (⟨"TurnedLockModel", "laySorted", "()I"⟩, 25), (⟨"TurnedLockModel", "worthOf", "(I)J"⟩, 25), (⟨"TurnedLockModel", "seenBy", "(II)J"⟩, 25), (⟨"TurnedLockModel", "noLooks", "(I)I"⟩, 25), (⟨"TurnedLockModel", "far", "(II)I"⟩, 25), (⟨"TurnedLockModel", "broughtTo", "(III)I"⟩, 25), (⟨"TurnedLockModel", "countOf", "(I)I"⟩, 25), (⟨"TurnedLockModel", "anys", "()I"⟩, 25), (⟨"TurnedLockModel", "thereOf", "(I)I"⟩, 25)]
theorem lw_r4 : ∀ q ∈ lw_privs_4, lw_okq q := List.forall_mem_cons.mpr ⟨lw_p48, List.forall_mem_cons.mpr ⟨lw_p49, List.forall_mem_cons.mpr ⟨lw_p50, List.forall_mem_cons.mpr ⟨lw_p51, List.forall_mem_cons.mpr ⟨lw_p52, List.forall_mem_cons.mpr ⟨lw_p53, List.forall_mem_cons.mpr ⟨lw_p54, List.forall_mem_cons.mpr ⟨lw_p55, List.forall_mem_cons.mpr ⟨lw_p56, List.forall_mem_cons.mpr ⟨lw_p57, List.forall_mem_cons.mpr ⟨lw_p58, List.forall_mem_cons.mpr ⟨lw_p59, List.forall_mem_cons.mpr ⟨lw_p60, fun _ h => absurd h List.not_mem_nil⟩⟩⟩⟩⟩⟩⟩⟩⟩⟩⟩⟩⟩
def lw_privs : List (MethodName × Nat) := lw_privs_1 ++ (lw_privs_2 ++ (lw_privs_3 ++ (lw_privs_4)))
def lw_tbl : List Cond := k2_sels lw_privs ++ tables_1
theorem lw_privs_ok : ∀ q ∈ lw_privs, lw_okq q := by
  show ∀ q ∈ lw_privs_1 ++ (lw_privs_2 ++ (lw_privs_3 ++ (lw_privs_4))), lw_okq q
  exact List.forall_mem_append.mpr ⟨lw_r1, List.forall_mem_append.mpr ⟨lw_r2, List.forall_mem_append.mpr ⟨lw_r3, lw_r4⟩⟩⟩
end
section
def RX0 : String := "TurnedLock$All"
def TX0 : u_T := fun k => match k with
  | 0 => ("TurnedLock$Person", "wheels", "LTurnedLock$Wheels;", true)
  | 1 => ("TurnedLock$Person", "turns", "[I", true)
  | 2 => ("TurnedLock$Person", "times", "[I", true)
  | 3 => ("TurnedLock$Person", "listed", "I", false)
  | 4 => ("TurnedLock$Person", "inAll", "I", false)
  | _ => ("TurnedLock$Person", "most", "I", false)
def tyX0 : Nat → FieldType := fun k => match k with
  | 0 => .object "TurnedLock$Wheels"
  | 1 => .array .int
  | 2 => .array .int
  | 3 => .int
  | 4 => .int
  | _ => .int
theorem nmX0 : ∀ a, a < 6 → ∀ b, b < 6 → a ≠ b → (TX0 a).2.1 ≠ (TX0 b).2.1 := by decide +kernel
theorem tyX0_ok : ∀ k, k < 6 → parseFieldDescriptor (TX0 k).2.2.1 = some (tyX0 k) := by decide +kernel
abbrev cX0_init : ByteArray := prog_2_method_1_code
def yX0_init : MethodName := ⟨RX0, "<init>", "(LTurnedLock$Wheels;[I[I)V"⟩
abbrev cX0_kind : ByteArray := prog_2_method_2_code
def yX0_kind : MethodName := ⟨RX0, "kind", "()I"⟩
abbrev cX0_countWays : ByteArray := prog_2_method_3_code
def yX0_countWays : MethodName := ⟨RX0, "countWays", "(I)I"⟩
abbrev cX0_turnedNotches : ByteArray := prog_2_method_4_code
def yX0_turnedNotches : MethodName := ⟨RX0, "turnedNotches", "()I"⟩
def RX1 : String := "TurnedLock$Any"
def TX1 : u_T := fun k => match k with
  | 0 => ("TurnedLock$Person", "wheels", "LTurnedLock$Wheels;", true)
  | 1 => ("TurnedLock$Person", "turns", "[I", true)
  | 2 => ("TurnedLock$Person", "times", "[I", true)
  | 3 => ("TurnedLock$Person", "listed", "I", false)
  | 4 => ("TurnedLock$Person", "inAll", "I", false)
  | _ => ("TurnedLock$Person", "most", "I", false)
def tyX1 : Nat → FieldType := fun k => match k with
  | 0 => .object "TurnedLock$Wheels"
  | 1 => .array .int
  | 2 => .array .int
  | 3 => .int
  | 4 => .int
  | _ => .int
theorem nmX1 : ∀ a, a < 6 → ∀ b, b < 6 → a ≠ b → (TX1 a).2.1 ≠ (TX1 b).2.1 := by decide +kernel
theorem tyX1_ok : ∀ k, k < 6 → parseFieldDescriptor (TX1 k).2.2.1 = some (tyX1 k) := by decide +kernel
abbrev cX1_init : ByteArray := prog_3_method_1_code
def yX1_init : MethodName := ⟨RX1, "<init>", "(LTurnedLock$Wheels;[I[I)V"⟩
abbrev cX1_kind : ByteArray := prog_3_method_2_code
def yX1_kind : MethodName := ⟨RX1, "kind", "()I"⟩
abbrev cX1_countWays : ByteArray := prog_3_method_3_code
def yX1_countWays : MethodName := ⟨RX1, "countWays", "(I)I"⟩
abbrev cX1_noneAboveFlicks : ByteArray := prog_3_method_4_code
def yX1_noneAboveFlicks : MethodName := ⟨RX1, "noneAboveFlicks", "(I)Z"⟩
abbrev cX1_waysLeavingFirst : ByteArray := prog_3_method_5_code
def yX1_waysLeavingFirst : MethodName := ⟨RX1, "waysLeavingFirst", "()I"⟩
def RX2 : String := "TurnedLock$Blind"
def TX2 : u_T := fun k => match k with
  | 0 => ("TurnedLock$Person", "wheels", "LTurnedLock$Wheels;", true)
  | 1 => ("TurnedLock$Person", "turns", "[I", true)
  | 2 => ("TurnedLock$Person", "times", "[I", true)
  | 3 => ("TurnedLock$Person", "listed", "I", false)
  | 4 => ("TurnedLock$Person", "inAll", "I", false)
  | _ => ("TurnedLock$Person", "most", "I", false)
def tyX2 : Nat → FieldType := fun k => match k with
  | 0 => .object "TurnedLock$Wheels"
  | 1 => .array .int
  | 2 => .array .int
  | 3 => .int
  | 4 => .int
  | _ => .int
theorem nmX2 : ∀ a, a < 6 → ∀ b, b < 6 → a ≠ b → (TX2 a).2.1 ≠ (TX2 b).2.1 := by decide +kernel
theorem tyX2_ok : ∀ k, k < 6 → parseFieldDescriptor (TX2 k).2.2.1 = some (tyX2 k) := by decide +kernel
abbrev cX2_init : ByteArray := prog_4_method_1_code
def yX2_init : MethodName := ⟨RX2, "<init>", "(LTurnedLock$Wheels;[I[I)V"⟩
abbrev cX2_kind : ByteArray := prog_4_method_2_code
def yX2_kind : MethodName := ⟨RX2, "kind", "()I"⟩
abbrev cX2_countWays : ByteArray := prog_4_method_3_code
def yX2_countWays : MethodName := ⟨RX2, "countWays", "(I)I"⟩
def RX3 : String := "TurnedLock$Both"
def TX3 : u_T := fun k => match k with
  | 0 => ("TurnedLock$Person", "wheels", "LTurnedLock$Wheels;", true)
  | 1 => ("TurnedLock$Person", "turns", "[I", true)
  | 2 => ("TurnedLock$Person", "times", "[I", true)
  | 3 => ("TurnedLock$Person", "listed", "I", false)
  | 4 => ("TurnedLock$Person", "inAll", "I", false)
  | _ => ("TurnedLock$Person", "most", "I", false)
def tyX3 : Nat → FieldType := fun k => match k with
  | 0 => .object "TurnedLock$Wheels"
  | 1 => .array .int
  | 2 => .array .int
  | 3 => .int
  | 4 => .int
  | _ => .int
theorem nmX3 : ∀ a, a < 6 → ∀ b, b < 6 → a ≠ b → (TX3 a).2.1 ≠ (TX3 b).2.1 := by decide +kernel
theorem tyX3_ok : ∀ k, k < 6 → parseFieldDescriptor (TX3 k).2.2.1 = some (tyX3 k) := by decide +kernel
abbrev cX3_init : ByteArray := prog_5_method_1_code
def yX3_init : MethodName := ⟨RX3, "<init>", "(LTurnedLock$Wheels;[I[I)V"⟩
abbrev cX3_kind : ByteArray := prog_5_method_2_code
def yX3_kind : MethodName := ⟨RX3, "kind", "()I"⟩
abbrev cX3_firstTurned : ByteArray := prog_5_method_3_code
def yX3_firstTurned : MethodName := ⟨RX3, "firstTurned", "()I"⟩
abbrev cX3_turnedWheels : ByteArray := prog_5_method_4_code
def yX3_turnedWheels : MethodName := ⟨RX3, "turnedWheels", "()I"⟩
def RX4 : String := "TurnedLock$Either"
def TX4 : u_T := fun k => match k with
  | 0 => ("TurnedLock$Person", "wheels", "LTurnedLock$Wheels;", true)
  | 1 => ("TurnedLock$Person", "turns", "[I", true)
  | 2 => ("TurnedLock$Person", "times", "[I", true)
  | 3 => ("TurnedLock$Person", "listed", "I", false)
  | 4 => ("TurnedLock$Person", "inAll", "I", false)
  | _ => ("TurnedLock$Person", "most", "I", false)
def tyX4 : Nat → FieldType := fun k => match k with
  | 0 => .object "TurnedLock$Wheels"
  | 1 => .array .int
  | 2 => .array .int
  | 3 => .int
  | 4 => .int
  | _ => .int
theorem nmX4 : ∀ a, a < 6 → ∀ b, b < 6 → a ≠ b → (TX4 a).2.1 ≠ (TX4 b).2.1 := by decide +kernel
theorem tyX4_ok : ∀ k, k < 6 → parseFieldDescriptor (TX4 k).2.2.1 = some (tyX4 k) := by decide +kernel
abbrev cX4_init : ByteArray := prog_6_method_1_code
def yX4_init : MethodName := ⟨RX4, "<init>", "(LTurnedLock$Wheels;[I[I)V"⟩
abbrev cX4_kind : ByteArray := prog_6_method_2_code
def yX4_kind : MethodName := ⟨RX4, "kind", "()I"⟩
abbrev cX4_firstTurned : ByteArray := prog_6_method_3_code
def yX4_firstTurned : MethodName := ⟨RX4, "firstTurned", "()I"⟩
abbrev cX4_countWays : ByteArray := prog_6_method_4_code
def yX4_countWays : MethodName := ⟨RX4, "countWays", "(I)I"⟩
abbrev cX4_unlikeSights : ByteArray := prog_6_method_5_code
def yX4_unlikeSights : MethodName := ⟨RX4, "unlikeSights", "()I"⟩
def RX5 : String := "TurnedLock$Person"
def TX5 : u_T := fun k => match k with
  | 0 => ("TurnedLock$Person", "wheels", "LTurnedLock$Wheels;", true)
  | 1 => ("TurnedLock$Person", "turns", "[I", true)
  | 2 => ("TurnedLock$Person", "times", "[I", true)
  | 3 => ("TurnedLock$Person", "listed", "I", false)
  | 4 => ("TurnedLock$Person", "inAll", "I", false)
  | _ => ("TurnedLock$Person", "most", "I", false)
def tyX5 : Nat → FieldType := fun k => match k with
  | 0 => .object "TurnedLock$Wheels"
  | 1 => .array .int
  | 2 => .array .int
  | 3 => .int
  | 4 => .int
  | _ => .int
theorem nmX5 : ∀ a, a < 6 → ∀ b, b < 6 → a ≠ b → (TX5 a).2.1 ≠ (TX5 b).2.1 := by decide +kernel
theorem tyX5_ok : ∀ k, k < 6 → parseFieldDescriptor (TX5 k).2.2.1 = some (tyX5 k) := by decide +kernel
abbrev cX5_init : ByteArray := prog_7_method_1_code
def yX5_init : MethodName := ⟨RX5, "<init>", "(LTurnedLock$Wheels;[I[I)V"⟩
abbrev cX5_kind : ByteArray := prog_7_method_2_code
def yX5_kind : MethodName := ⟨RX5, "kind", "()I"⟩
abbrev cX5_countWays : ByteArray := prog_7_method_3_code
def yX5_countWays : MethodName := ⟨RX5, "countWays", "(I)I"⟩
abbrev cX5_learn : ByteArray := prog_7_method_4_code
def yX5_learn : MethodName := ⟨RX5, "learn", "(I)V"⟩
abbrev cX5_timesOf : ByteArray := prog_7_method_5_code
def yX5_timesOf : MethodName := ⟨RX5, "timesOf", "(I)I"⟩
def RX6 : String := "TurnedLock$Reader"
def TX6 : u_T := fun k => match k with
  | 0 => ("TurnedLock$Reader", "wheels", "I", false)
  | 1 => ("TurnedLock$Reader", "notches", "I", false)
  | 2 => ("TurnedLock$Reader", "persons", "I", false)
  | 3 => ("TurnedLock$Reader", "kinds", "[I", true)
  | _ => ("TurnedLock$Reader", "flickRow", "[I", true)
def tyX6 : Nat → FieldType := fun k => match k with
  | 0 => .int
  | 1 => .int
  | 2 => .int
  | 3 => .array .int
  | _ => .array .int
theorem nmX6 : ∀ a, a < 5 → ∀ b, b < 5 → a ≠ b → (TX6 a).2.1 ≠ (TX6 b).2.1 := by decide +kernel
theorem tyX6_ok : ∀ k, k < 5 → parseFieldDescriptor (TX6 k).2.2.1 = some (tyX6 k) := by decide +kernel
abbrev cX6_init : ByteArray := prog_8_method_1_code
def yX6_init : MethodName := ⟨RX6, "<init>", "()V"⟩
abbrev cX6_faultOf : ByteArray := prog_8_method_2_code
def yX6_faultOf : MethodName := ⟨RX6, "faultOf", "(LTurnedLock$Row;)I"⟩
abbrev cX6_personsFault : ByteArray := prog_8_method_3_code
def yX6_personsFault : MethodName := ⟨RX6, "personsFault", "(LTurnedLock$Row;I)I"⟩
abbrev cX6_behindBlanks : ByteArray := prog_8_method_4_code
def yX6_behindBlanks : MethodName := ⟨RX6, "behindBlanks", "(LTurnedLock$Row;I)I"⟩
abbrev cX6_signAt : ByteArray := prog_8_method_5_code
def yX6_signAt : MethodName := ⟨RX6, "signAt", "(LTurnedLock$Row;I)I"⟩
abbrev cX6_figureAt : ByteArray := prog_8_method_6_code
def yX6_figureAt : MethodName := ⟨RX6, "figureAt", "(LTurnedLock$Row;III)I"⟩
abbrev cX6_kindOf : ByteArray := prog_8_method_7_code
def yX6_kindOf : MethodName := ⟨RX6, "kindOf", "(I)I"⟩
def RX7 : String := "TurnedLock$Row"
def TX7 : u_T := fun k => match k with
  | 0 => ("TurnedLock$Row", "places", "[I", true)
  | _ => ("TurnedLock$Row", "size", "I", false)
def tyX7 : Nat → FieldType := fun k => match k with
  | 0 => .array .int
  | _ => .int
theorem nmX7 : ∀ a, a < 2 → ∀ b, b < 2 → a ≠ b → (TX7 a).2.1 ≠ (TX7 b).2.1 := by decide +kernel
theorem tyX7_ok : ∀ k, k < 2 → parseFieldDescriptor (TX7 k).2.2.1 = some (tyX7 k) := by decide +kernel
abbrev cX7_init : ByteArray := prog_9_method_1_code
def yX7_init : MethodName := ⟨RX7, "<init>", "(I)V"⟩
abbrev cX7_isMissing : ByteArray := prog_9_method_2_code
def yX7_isMissing : MethodName := ⟨RX7, "isMissing", "()Z"⟩
abbrev cX7_has : ByteArray := prog_9_method_3_code
def yX7_has : MethodName := ⟨RX7, "has", "(I)Z"⟩
abbrev cX7_hasRun : ByteArray := prog_9_method_4_code
def yX7_hasRun : MethodName := ⟨RX7, "hasRun", "(II)Z"⟩
abbrev cX7_make : ByteArray := prog_9_method_5_code
def yX7_make : MethodName := ⟨RX7, "make", "(II)V"⟩
abbrev cX7_sum : ByteArray := prog_9_method_6_code
def yX7_sum : MethodName := ⟨RX7, "sum", "()J"⟩
def RX8 : String := "TurnedLock$Shed"
def TX8 : u_T := fun k => match k with
  | 0 => ("TurnedLock$Shed", "amount", "I", false)
  | 1 => ("TurnedLock$Shed", "wheels", "LTurnedLock$Wheels;", true)
  | 2 => ("TurnedLock$Shed", "story", "LTurnedLock$Story;", true)
  | 3 => ("TurnedLock$Shed", "weights", "[J", true)
  | 4 => ("TurnedLock$Shed", "aside", "[J", true)
  | 5 => ("TurnedLock$Shed", "sorted", "[I", true)
  | 6 => ("TurnedLock$Shed", "worths", "[J", true)
  | 7 => ("TurnedLock$Shed", "persons", "[LTurnedLock$Person;", true)
  | 8 => ("TurnedLock$Shed", "turnRows", "[[I", true)
  | _ => ("TurnedLock$Shed", "timesRows", "[[I", true)
def tyX8 : Nat → FieldType := fun k => match k with
  | 0 => .int
  | 1 => .object "TurnedLock$Wheels"
  | 2 => .object "TurnedLock$Story"
  | 3 => .array .long
  | 4 => .array .long
  | 5 => .array .int
  | 6 => .array .long
  | 7 => .array (.object "TurnedLock$Person")
  | 8 => .array (.array .int)
  | _ => .array (.array .int)
theorem nmX8 : ∀ a, a < 10 → ∀ b, b < 10 → a ≠ b → (TX8 a).2.1 ≠ (TX8 b).2.1 := by decide +kernel
theorem tyX8_ok : ∀ k, k < 10 → parseFieldDescriptor (TX8 k).2.2.1 = some (tyX8 k) := by decide +kernel
abbrev cX8_init : ByteArray := prog_10_method_1_code
def yX8_init : MethodName := ⟨RX8, "<init>", "()V"⟩
abbrev cX8_begin : ByteArray := prog_10_method_2_code
def yX8_begin : MethodName := ⟨RX8, "begin", "(LTurnedLock$Reader;)V"⟩
abbrev cX8_newPerson : ByteArray := prog_10_method_3_code
def yX8_newPerson : MethodName := ⟨RX8, "newPerson", "(I[I[I)LTurnedLock$Person;"⟩
abbrev cX8_personAt : ByteArray := prog_10_method_4_code
def yX8_personAt : MethodName := ⟨RX8, "personAt", "(I)LTurnedLock$Person;"⟩
abbrev cX8_setFlicks : ByteArray := prog_10_method_5_code
def yX8_setFlicks : MethodName := ⟨RX8, "setFlicks", "(II)V"⟩
abbrev cX8_howManyAny : ByteArray := prog_10_method_6_code
def yX8_howManyAny : MethodName := ⟨RX8, "howManyAny", "()I"⟩
abbrev cX8_goOnFrom : ByteArray := prog_10_method_7_code
def yX8_goOnFrom : MethodName := ⟨RX8, "goOnFrom", "(LTurnedLock$Story;)V"⟩
abbrev cX8_addDeed : ByteArray := prog_10_method_8_code
def yX8_addDeed : MethodName := ⟨RX8, "addDeed", "(II)V"⟩
abbrev cX8_weighAgain : ByteArray := prog_10_method_9_code
def yX8_weighAgain : MethodName := ⟨RX8, "weighAgain", "()V"⟩
abbrev cX8_weigh : ByteArray := prog_10_method_10_code
def yX8_weigh : MethodName := ⟨RX8, "weigh", "(II)V"⟩
abbrev cX8_weighLook : ByteArray := prog_10_method_11_code
def yX8_weighLook : MethodName := ⟨RX8, "weighLook", "([JLTurnedLock$Person;I)V"⟩
abbrev cX8_leftBehindLook : ByteArray := prog_10_method_12_code
def yX8_leftBehindLook : MethodName := ⟨RX8, "leftBehindLook", "(II)I"⟩
abbrev cX8_leftBehindTry : ByteArray := prog_10_method_13_code
def yX8_leftBehindTry : MethodName := ⟨RX8, "leftBehindTry", "(I)I"⟩
abbrev cX8_setAll : ByteArray := prog_10_method_14_code
def yX8_setAll : MethodName := ⟨RX8, "setAll", "([JJ)V"⟩
abbrev cX8_sumOf : ByteArray := prog_10_method_15_code
def yX8_sumOf : MethodName := ⟨RX8, "sumOf", "([J)J"⟩
abbrev cX8_howManyAbove : ByteArray := prog_10_method_16_code
def yX8_howManyAbove : MethodName := ⟨RX8, "howManyAbove", "([J)I"⟩
abbrev cX8_howManyAre : ByteArray := prog_10_method_17_code
def yX8_howManyAre : MethodName := ⟨RX8, "howManyAre", "([JJ)I"⟩
abbrev cX8_firstAbove : ByteArray := prog_10_method_18_code
def yX8_firstAbove : MethodName := ⟨RX8, "firstAbove", "([J)I"⟩
abbrev cX8_likeliest : ByteArray := prog_10_method_19_code
def yX8_likeliest : MethodName := ⟨RX8, "likeliest", "([J)I"⟩
abbrev cX8_howManyCanBe : ByteArray := prog_10_method_20_code
def yX8_howManyCanBe : MethodName := ⟨RX8, "howManyCanBe", "()I"⟩
abbrev cX8_weightAt : ByteArray := prog_10_method_21_code
def yX8_weightAt : MethodName := ⟨RX8, "weightAt", "(II)J"⟩
abbrev cX8_certainNotch : ByteArray := prog_10_method_22_code
def yX8_certainNotch : MethodName := ⟨RX8, "certainNotch", "(I)I"⟩
abbrev cX8_sortCodes : ByteArray := prog_10_method_23_code
def yX8_sortCodes : MethodName := ⟨RX8, "sortCodes", "()I"⟩
abbrev cX8_triesInAll : ByteArray := prog_10_method_24_code
def yX8_triesInAll : MethodName := ⟨RX8, "triesInAll", "()J"⟩
abbrev cX8_weightOfFirst : ByteArray := prog_10_method_25_code
def yX8_weightOfFirst : MethodName := ⟨RX8, "weightOfFirst", "(I)J"⟩
abbrev cX8_gather : ByteArray := prog_10_method_26_code
def yX8_gather : MethodName := ⟨RX8, "gather", "(LTurnedLock$Person;Z)V"⟩
abbrev cX8_worthOf : ByteArray := prog_10_method_27_code
def yX8_worthOf : MethodName := ⟨RX8, "worthOf", "(LTurnedLock$Person;)J"⟩
abbrev cX8_weighWorths : ByteArray := prog_10_method_28_code
def yX8_weighWorths : MethodName := ⟨RX8, "weighWorths", "()V"⟩
abbrev cX8_firstByWorth : ByteArray := prog_10_method_29_code
def yX8_firstByWorth : MethodName := ⟨RX8, "firstByWorth", "(Z)I"⟩
abbrev cX8_weighTold : ByteArray := prog_10_method_30_code
def yX8_weighTold : MethodName := ⟨RX8, "weighTold", "(LTurnedLock$Row;)V"⟩
abbrev cX8_waysOfTold : ByteArray := prog_10_method_31_code
def yX8_waysOfTold : MethodName := ⟨RX8, "waysOfTold", "(LTurnedLock$Row;)J"⟩
abbrev cX8_allWho : ByteArray := prog_10_method_32_code
def yX8_allWho : MethodName := ⟨RX8, "allWho", "(II)I"⟩
abbrev cX8_likeliestWho : ByteArray := prog_10_method_33_code
def yX8_likeliestWho : MethodName := ⟨RX8, "likeliestWho", "(II)I"⟩
abbrev cX8_shutByLots : ByteArray := prog_10_method_34_code
def yX8_shutByLots : MethodName := ⟨RX8, "shutByLots", "(II)I"⟩
abbrev cX8_nextLot : ByteArray := prog_10_method_35_code
def yX8_nextLot : MethodName := ⟨RX8, "nextLot", "(J)J"⟩
abbrev cX8_lotAmong : ByteArray := prog_10_method_36_code
def yX8_lotAmong : MethodName := ⟨RX8, "lotAmong", "(JI)I"⟩
abbrev cX8_sightOf : ByteArray := prog_10_method_37_code
def yX8_sightOf : MethodName := ⟨RX8, "sightOf", "(LTurnedLock$Person;II)I"⟩
def RX9 : String := "TurnedLock$Story"
def TX9 : u_T := fun k => match k with
  | 0 => ("TurnedLock$Story", "size", "I", false)
  | 1 => ("TurnedLock$Story", "flickRow", "[I", true)
  | 2 => ("TurnedLock$Story", "persons", "[I", true)
  | _ => ("TurnedLock$Story", "settings", "[I", true)
def tyX9 : Nat → FieldType := fun k => match k with
  | 0 => .int
  | 1 => .array .int
  | 2 => .array .int
  | _ => .array .int
theorem nmX9 : ∀ a, a < 4 → ∀ b, b < 4 → a ≠ b → (TX9 a).2.1 ≠ (TX9 b).2.1 := by decide +kernel
theorem tyX9_ok : ∀ k, k < 4 → parseFieldDescriptor (TX9 k).2.2.1 = some (tyX9 k) := by decide +kernel
abbrev cX9_init : ByteArray := prog_11_method_1_code
def yX9_init : MethodName := ⟨RX9, "<init>", "(I)V"⟩
abbrev cX9_isFull : ByteArray := prog_11_method_2_code
def yX9_isFull : MethodName := ⟨RX9, "isFull", "()Z"⟩
abbrev cX9_add : ByteArray := prog_11_method_3_code
def yX9_add : MethodName := ⟨RX9, "add", "(II)V"⟩
abbrev cX9_takeFrom : ByteArray := prog_11_method_4_code
def yX9_takeFrom : MethodName := ⟨RX9, "takeFrom", "(LTurnedLock$Story;)V"⟩
abbrev cX9_looksAt : ByteArray := prog_11_method_5_code
def yX9_looksAt : MethodName := ⟨RX9, "looksAt", "(I)I"⟩
def RX10 : String := "TurnedLock$Wheels"
def TX10 : u_T := fun k => match k with
  | 0 => ("TurnedLock$Wheels", "amount", "I", false)
  | 1 => ("TurnedLock$Wheels", "notches", "I", false)
  | 2 => ("TurnedLock$Wheels", "settings", "I", false)
  | _ => ("TurnedLock$Wheels", "notchRow", "[I", true)
def tyX10 : Nat → FieldType := fun k => match k with
  | 0 => .int
  | 1 => .int
  | 2 => .int
  | _ => .array .int
theorem nmX10 : ∀ a, a < 4 → ∀ b, b < 4 → a ≠ b → (TX10 a).2.1 ≠ (TX10 b).2.1 := by decide +kernel
theorem tyX10_ok : ∀ k, k < 4 → parseFieldDescriptor (TX10 k).2.2.1 = some (tyX10 k) := by decide +kernel
abbrev cX10_init : ByteArray := prog_12_method_1_code
def yX10_init : MethodName := ⟨RX10, "<init>", "()V"⟩
abbrev cX10_make : ByteArray := prog_12_method_2_code
def yX10_make : MethodName := ⟨RX10, "make", "(II)V"⟩
abbrev cX10_isSetting : ByteArray := prog_12_method_3_code
def yX10_isSetting : MethodName := ⟨RX10, "isSetting", "(I)Z"⟩
abbrev cX10_isWheel : ByteArray := prog_12_method_4_code
def yX10_isWheel : MethodName := ⟨RX10, "isWheel", "(I)Z"⟩
abbrev cX10_notchOf : ByteArray := prog_12_method_5_code
def yX10_notchOf : MethodName := ⟨RX10, "notchOf", "(II)I"⟩
abbrev cX10_turnBetween : ByteArray := prog_12_method_6_code
def yX10_turnBetween : MethodName := ⟨RX10, "turnBetween", "(II)I"⟩
abbrev cX10_turned : ByteArray := prog_12_method_7_code
def yX10_turned : MethodName := ⟨RX10, "turned", "(II)I"⟩
abbrev cX10_wheelsIn : ByteArray := prog_12_method_8_code
def yX10_wheelsIn : MethodName := ⟨RX10, "wheelsIn", "(I)I"⟩
abbrev cX10_fewestNotchesIn : ByteArray := prog_12_method_9_code
def yX10_fewestNotchesIn : MethodName := ⟨RX10, "fewestNotchesIn", "(I)I"⟩
abbrev cX10_leavesAhead : ByteArray := prog_12_method_10_code
def yX10_leavesAhead : MethodName := ⟨RX10, "leavesAhead", "(II)Z"⟩
def RX11 : String := "TurnedLock"
def TX11 : u_T := fun k => match k with
  | 0 => ("TurnedLock", "rows", "[LTurnedLock$Row;", true)
  | 1 => ("TurnedLock", "texts", "[LTurnedLock$Row;", true)
  | 2 => ("TurnedLock", "kept", "[LTurnedLock$Story;", true)
  | 3 => ("TurnedLock", "reader", "LTurnedLock$Reader;", true)
  | 4 => ("TurnedLock", "shed", "LTurnedLock$Shed;", true)
  | 5 => ("TurnedLock", "findingCounts", "[I", true)
  | 6 => ("TurnedLock", "latestFinding", "I", false)
  | 7 => ("TurnedLock", "toldNumber", "I", false)
  | 8 => ("TurnedLock", "toldUpper", "J", false)
  | _ => ("TurnedLock", "toldLower", "J", false)
def tyX11 : Nat → FieldType := fun k => match k with
  | 0 => .array (.object "TurnedLock$Row")
  | 1 => .array (.object "TurnedLock$Row")
  | 2 => .array (.object "TurnedLock$Story")
  | 3 => .object "TurnedLock$Reader"
  | 4 => .object "TurnedLock$Shed"
  | 5 => .array .int
  | 6 => .int
  | 7 => .int
  | 8 => .long
  | _ => .long
theorem nmX11 : ∀ a, a < 10 → ∀ b, b < 10 → a ≠ b → (TX11 a).2.1 ≠ (TX11 b).2.1 := by decide +kernel
theorem tyX11_ok : ∀ k, k < 10 → parseFieldDescriptor (TX11 k).2.2.1 = some (tyX11 k) := by decide +kernel
abbrev cX11_init : ByteArray := prog_1_method_1_code
def yX11_init : MethodName := ⟨RX11, "<init>", "()V"⟩
abbrev cX11_row : ByteArray := prog_1_method_2_code
def yX11_row : MethodName := ⟨RX11, "row", "(II)I"⟩
abbrev cX11_lay : ByteArray := prog_1_method_3_code
def yX11_lay : MethodName := ⟨RX11, "lay", "(III)I"⟩
abbrev cX11_at : ByteArray := prog_1_method_4_code
def yX11_at : MethodName := ⟨RX11, "at", "(II)I"⟩
abbrev cX11_tear : ByteArray := prog_1_method_5_code
def yX11_tear : MethodName := ⟨RX11, "tear", "(I)I"⟩
abbrev cX11_copy : ByteArray := prog_1_method_6_code
def yX11_copy : MethodName := ⟨RX11, "copy", "(IIIII)I"⟩
abbrev cX11_mean : ByteArray := prog_1_method_7_code
def yX11_mean : MethodName := ⟨RX11, "mean", "(I)I"⟩
abbrev cX11_text : ByteArray := prog_1_method_8_code
def yX11_text : MethodName := ⟨RX11, "text", "(II)I"⟩
abbrev cX11_put : ByteArray := prog_1_method_9_code
def yX11_put : MethodName := ⟨RX11, "put", "(III)I"⟩
abbrev cX11_fault : ByteArray := prog_1_method_10_code
def yX11_fault : MethodName := ⟨RX11, "fault", "(I)I"⟩
abbrev cX11_shed : ByteArray := prog_1_method_11_code
def yX11_shed : MethodName := ⟨RX11, "shed", "(I)I"⟩
abbrev cX11_person : ByteArray := prog_1_method_12_code
def yX11_person : MethodName := ⟨RX11, "person", "(II)I"⟩
abbrev cX11_mark : ByteArray := prog_1_method_13_code
def yX11_mark : MethodName := ⟨RX11, "mark", "(II)I"⟩
abbrev cX11_flicks : ByteArray := prog_1_method_14_code
def yX11_flicks : MethodName := ⟨RX11, "flicks", "(II)I"⟩
abbrev cX11_look : ByteArray := prog_1_method_15_code
def yX11_look : MethodName := ⟨RX11, "look", "(II)I"⟩
abbrev cX11_vain : ByteArray := prog_1_method_16_code
def yX11_vain : MethodName := ⟨RX11, "vain", "(I)I"⟩
abbrev cX11_undo : ByteArray := prog_1_method_17_code
def yX11_undo : MethodName := ⟨RX11, "undo", "(I)I"⟩
abbrev cX11_keep : ByteArray := prog_1_method_18_code
def yX11_keep : MethodName := ⟨RX11, "keep", "(I)I"⟩
abbrev cX11_on : ByteArray := prog_1_method_19_code
def yX11_on : MethodName := ⟨RX11, "on", "(I)I"⟩
abbrev cX11_likely : ByteArray := prog_1_method_20_code
def yX11_likely : MethodName := ⟨RX11, "likely", "(I)I"⟩
abbrev cX11_best : ByteArray := prog_1_method_21_code
def yX11_best : MethodName := ⟨RX11, "best", "()I"⟩
abbrev cX11_wheel : ByteArray := prog_1_method_22_code
def yX11_wheel : MethodName := ⟨RX11, "wheel", "(II)I"⟩
abbrev cX11_certain : ByteArray := prog_1_method_23_code
def yX11_certain : MethodName := ⟨RX11, "certain", "()I"⟩
abbrev cX11_order : ByteArray := prog_1_method_24_code
def yX11_order : MethodName := ⟨RX11, "order", "(II)I"⟩
abbrev cX11_tries : ByteArray := prog_1_method_25_code
def yX11_tries : MethodName := ⟨RX11, "tries", "()I"⟩
abbrev cX11_within : ByteArray := prog_1_method_26_code
def yX11_within : MethodName := ⟨RX11, "within", "(I)I"⟩
abbrev cX11_worth : ByteArray := prog_1_method_27_code
def yX11_worth : MethodName := ⟨RX11, "worth", "(I)I"⟩
abbrev cX11_whose : ByteArray := prog_1_method_28_code
def yX11_whose : MethodName := ⟨RX11, "whose", "()I"⟩
abbrev cX11_seen : ByteArray := prog_1_method_29_code
def yX11_seen : MethodName := ⟨RX11, "seen", "(II)I"⟩
abbrev cX11_sights : ByteArray := prog_1_method_30_code
def yX11_sights : MethodName := ⟨RX11, "sights", "(I)I"⟩
abbrev cX11_fits : ByteArray := prog_1_method_31_code
def yX11_fits : MethodName := ⟨RX11, "fits", "(I)I"⟩
abbrev cX11_chance : ByteArray := prog_1_method_32_code
def yX11_chance : MethodName := ⟨RX11, "chance", "(I)I"⟩
abbrev cX11_read : ByteArray := prog_1_method_33_code
def yX11_read : MethodName := ⟨RX11, "read", "(I)I"⟩
abbrev cX11_who : ByteArray := prog_1_method_34_code
def yX11_who : MethodName := ⟨RX11, "who", "(II)I"⟩
abbrev cX11_ways : ByteArray := prog_1_method_35_code
def yX11_ways : MethodName := ⟨RX11, "ways", "(III)I"⟩
abbrev cX11_apart : ByteArray := prog_1_method_36_code
def yX11_apart : MethodName := ⟨RX11, "apart", "(II)I"⟩
abbrev cX11_near : ByteArray := prog_1_method_37_code
def yX11_near : MethodName := ⟨RX11, "near", "(II)I"⟩
abbrev cX11_lots : ByteArray := prog_1_method_38_code
def yX11_lots : MethodName := ⟨RX11, "lots", "(II)I"⟩
abbrev cX11_asked : ByteArray := prog_1_method_39_code
def yX11_asked : MethodName := ⟨RX11, "asked", "()I"⟩
abbrev cX11_upper : ByteArray := prog_1_method_40_code
def yX11_upper : MethodName := ⟨RX11, "upper", "()J"⟩
abbrev cX11_lower : ByteArray := prog_1_method_41_code
def yX11_lower : MethodName := ⟨RX11, "lower", "()J"⟩
abbrev cX11_count : ByteArray := prog_1_method_42_code
def yX11_count : MethodName := ⟨RX11, "count", "(I)I"⟩
abbrev cX11_finding : ByteArray := prog_1_method_43_code
def yX11_finding : MethodName := ⟨RX11, "finding", "()I"⟩
abbrev cX11_findings : ByteArray := prog_1_method_44_code
def yX11_findings : MethodName := ⟨RX11, "findings", "(I)I"⟩
abbrev cX11_digest : ByteArray := prog_1_method_45_code
def yX11_digest : MethodName := ⟨RX11, "digest", "()J"⟩
abbrev cX11_among : ByteArray := prog_1_method_46_code
def yX11_among : MethodName := ⟨RX11, "among", "([LTurnedLock$Row;I)LTurnedLock$Row;"⟩
abbrev cX11_makeAnew : ByteArray := prog_1_method_47_code
def yX11_makeAnew : MethodName := ⟨RX11, "makeAnew", "(LTurnedLock$Row;II)I"⟩
abbrev cX11_refusedRow : ByteArray := prog_1_method_48_code
def yX11_refusedRow : MethodName := ⟨RX11, "refusedRow", "(LTurnedLock$Row;)I"⟩
abbrev cX11_refusedPlace : ByteArray := prog_1_method_49_code
def yX11_refusedPlace : MethodName := ⟨RX11, "refusedPlace", "(LTurnedLock$Row;I)I"⟩
abbrev cX11_found : ByteArray := prog_1_method_50_code
def yX11_found : MethodName := ⟨RX11, "found", "(I)I"⟩
abbrev cX11_tellNumber : ByteArray := prog_1_method_51_code
def yX11_tellNumber : MethodName := ⟨RX11, "tellNumber", "(I)V"⟩
abbrev cX11_tellChance : ByteArray := prog_1_method_52_code
def yX11_tellChance : MethodName := ⟨RX11, "tellChance", "(JJ)I"⟩
abbrev cX11_greatestShared : ByteArray := prog_1_method_53_code
def yX11_greatestShared : MethodName := ⟨RX11, "greatestShared", "(JJ)J"⟩
abbrev cX11_factOf : ByteArray := prog_1_method_54_code
def yX11_factOf : MethodName := ⟨RX11, "factOf", "(LTurnedLock$Person;II)I"⟩
abbrev cX11_refusedTold : ByteArray := prog_1_method_55_code
def yX11_refusedTold : MethodName := ⟨RX11, "refusedTold", "(I)I"⟩
abbrev cX11_howManyThere : ByteArray := prog_1_method_56_code
def yX11_howManyThere : MethodName := ⟨RX11, "howManyThere", "([LTurnedLock$Row;)I"⟩
abbrev cX11_howManyKept : ByteArray := prog_1_method_57_code
def yX11_howManyKept : MethodName := ⟨RX11, "howManyKept", "()I"⟩
abbrev cX11_digestPersons : ByteArray := prog_1_method_58_code
def yX11_digestPersons : MethodName := ⟨RX11, "digestPersons", "(J)J"⟩
abbrev cX11_digestRows : ByteArray := prog_1_method_59_code
def yX11_digestRows : MethodName := ⟨RX11, "digestRows", "(J[LTurnedLock$Row;)J"⟩
def RX12 : String := "TurnedLockModel"
def TX12 : u_T := fun k => match k with
  | 0 => ("TurnedLockModel", "row", "[I", true)
  | 1 => ("TurnedLockModel", "wheels", "I", false)
  | 2 => ("TurnedLockModel", "notches", "I", false)
  | 3 => ("TurnedLockModel", "settings", "I", false)
  | 4 => ("TurnedLockModel", "persons", "I", false)
  | 5 => ("TurnedLockModel", "kinds", "[I", true)
  | 6 => ("TurnedLockModel", "weights", "[J", true)
  | 7 => ("TurnedLockModel", "sizes", "[I", true)
  | 8 => ("TurnedLockModel", "items", "[I", true)
  | 9 => ("TurnedLockModel", "lengths", "[I", true)
  | 10 => ("TurnedLockModel", "bytes", "[I", true)
  | 11 => ("TurnedLockModel", "asked", "I", false)
  | 12 => ("TurnedLockModel", "upper", "J", false)
  | 13 => ("TurnedLockModel", "lower", "J", false)
  | 14 => ("TurnedLockModel", "finding", "I", false)
  | 15 => ("TurnedLockModel", "findings", "[I", true)
  | 16 => ("TurnedLockModel", "from", "I", false)
  | 17 => ("TurnedLockModel", "place", "I", false)
  | 18 => ("TurnedLockModel", "end", "I", false)
  | 19 => ("TurnedLockModel", "readWheels", "I", false)
  | 20 => ("TurnedLockModel", "readNotches", "I", false)
  | 21 => ("TurnedLockModel", "readPersons", "[I", true)
  | 22 => ("TurnedLockModel", "readMany", "I", false)
  | 23 => ("TurnedLockModel", "sorted", "[I", true)
  | _ => ("TurnedLockModel", "told", "[J", true)
def tyX12 : Nat → FieldType := fun k => match k with
  | 0 => .array .int
  | 1 => .int
  | 2 => .int
  | 3 => .int
  | 4 => .int
  | 5 => .array .int
  | 6 => .array .long
  | 7 => .array .int
  | 8 => .array .int
  | 9 => .array .int
  | 10 => .array .int
  | 11 => .int
  | 12 => .long
  | 13 => .long
  | 14 => .int
  | 15 => .array .int
  | 16 => .int
  | 17 => .int
  | 18 => .int
  | 19 => .int
  | 20 => .int
  | 21 => .array .int
  | 22 => .int
  | 23 => .array .int
  | _ => .array .long
theorem nmX12 : ∀ a, a < 25 → ∀ b, b < 25 → a ≠ b → (TX12 a).2.1 ≠ (TX12 b).2.1 := by decide +kernel
theorem tyX12_ok : ∀ k, k < 25 → parseFieldDescriptor (TX12 k).2.2.1 = some (tyX12 k) := by decide +kernel
abbrev cX12_init : ByteArray := prog_14_method_1_code
def yX12_init : MethodName := ⟨RX12, "<init>", "()V"⟩
abbrev cX12_in : ByteArray := prog_14_method_2_code
def yX12_in : MethodName := ⟨RX12, "in", "(JJJ)Z"⟩
abbrev cX12_find : ByteArray := prog_14_method_4_code
def yX12_find : MethodName := ⟨RX12, "find", "(I)I"⟩
abbrev cX12_tell : ByteArray := prog_14_method_5_code
def yX12_tell : MethodName := ⟨RX12, "tell", "(I)I"⟩
abbrev cX12_isRow : ByteArray := prog_14_method_6_code
def yX12_isRow : MethodName := ⟨RX12, "isRow", "(I)Z"⟩
abbrev cX12_isText : ByteArray := prog_14_method_7_code
def yX12_isText : MethodName := ⟨RX12, "isText", "(I)Z"⟩
abbrev cX12_row : ByteArray := prog_14_method_8_code
def yX12_row : MethodName := ⟨RX12, "row", "(II)I"⟩
abbrev cX12_makeRow : ByteArray := prog_14_method_9_code
def yX12_makeRow : MethodName := ⟨RX12, "makeRow", "(II)V"⟩
abbrev cX12_refused : ByteArray := prog_14_method_10_code
def yX12_refused : MethodName := ⟨RX12, "refused", "(II)I"⟩
abbrev cX12_lay : ByteArray := prog_14_method_11_code
def yX12_lay : MethodName := ⟨RX12, "lay", "(III)I"⟩
abbrev cX12_at : ByteArray := prog_14_method_12_code
def yX12_at : MethodName := ⟨RX12, "at", "(II)I"⟩
abbrev cX12_tear : ByteArray := prog_14_method_13_code
def yX12_tear : MethodName := ⟨RX12, "tear", "(I)I"⟩
abbrev cX12_isSpan : ByteArray := prog_14_method_14_code
def yX12_isSpan : MethodName := ⟨RX12, "isSpan", "(III)Z"⟩
abbrev cX12_copy : ByteArray := prog_14_method_15_code
def yX12_copy : MethodName := ⟨RX12, "copy", "(IIIII)I"⟩
abbrev cX12_mean : ByteArray := prog_14_method_16_code
def yX12_mean : MethodName := ⟨RX12, "mean", "(I)I"⟩
abbrev cX12_text : ByteArray := prog_14_method_17_code
def yX12_text : MethodName := ⟨RX12, "text", "(II)I"⟩
abbrev cX12_put : ByteArray := prog_14_method_18_code
def yX12_put : MethodName := ⟨RX12, "put", "(III)I"⟩
abbrev cX12_here : ByteArray := prog_14_method_19_code
def yX12_here : MethodName := ⟨RX12, "here", "()I"⟩
abbrev cX12_skip : ByteArray := prog_14_method_20_code
def yX12_skip : MethodName := ⟨RX12, "skip", "()V"⟩
abbrev cX12_figure : ByteArray := prog_14_method_21_code
def yX12_figure : MethodName := ⟨RX12, "figure", "(II)I"⟩
abbrev cX12_readsLock : ByteArray := prog_14_method_22_code
def yX12_readsLock : MethodName := ⟨RX12, "readsLock", "()Z"⟩
abbrev cX12_kindOfLetter : ByteArray := prog_14_method_23_code
def yX12_kindOfLetter : MethodName := ⟨RX12, "kindOfLetter", "(I)I"⟩
abbrev cX12_readsPerson : ByteArray := prog_14_method_24_code
def yX12_readsPerson : MethodName := ⟨RX12, "readsPerson", "()Z"⟩
abbrev cX12_faultOf : ByteArray := prog_14_method_25_code
def yX12_faultOf : MethodName := ⟨RX12, "faultOf", "(I)I"⟩
abbrev cX12_fault : ByteArray := prog_14_method_26_code
def yX12_fault : MethodName := ⟨RX12, "fault", "(I)I"⟩
abbrev cX12_power : ByteArray := prog_14_method_27_code
def yX12_power : MethodName := ⟨RX12, "power", "(II)I"⟩
abbrev cX12_shed : ByteArray := prog_14_method_28_code
def yX12_shed : MethodName := ⟨RX12, "shed", "(I)I"⟩
abbrev cX12_isPerson : ByteArray := prog_14_method_29_code
def yX12_isPerson : MethodName := ⟨RX12, "isPerson", "(I)Z"⟩
abbrev cX12_isSetting : ByteArray := prog_14_method_30_code
def yX12_isSetting : MethodName := ⟨RX12, "isSetting", "(I)Z"⟩
abbrev cX12_notch : ByteArray := prog_14_method_31_code
def yX12_notch : MethodName := ⟨RX12, "notch", "(II)I"⟩
abbrev cX12_up : ByteArray := prog_14_method_32_code
def yX12_up : MethodName := ⟨RX12, "up", "(III)I"⟩
abbrev cX12_flicksOf : ByteArray := prog_14_method_33_code
def yX12_flicksOf : MethodName := ⟨RX12, "flicksOf", "(I)I"⟩
abbrev cX12_eithers : ByteArray := prog_14_method_34_code
def yX12_eithers : MethodName := ⟨RX12, "eithers", "(II)I"⟩
abbrev cX12_wheelWays : ByteArray := prog_14_method_35_code
def yX12_wheelWays : MethodName := ⟨RX12, "wheelWays", "(III)I"⟩
abbrev cX12_anyWays : ByteArray := prog_14_method_36_code
def yX12_anyWays : MethodName := ⟨RX12, "anyWays", "(III)I"⟩
abbrev cX12_waysOf : ByteArray := prog_14_method_37_code
def yX12_waysOf : MethodName := ⟨RX12, "waysOf", "(III)I"⟩
abbrev cX12_twoAtMost : ByteArray := prog_14_method_38_code
def yX12_twoAtMost : MethodName := ⟨RX12, "twoAtMost", "()I"⟩
abbrev cX12_waysInAll : ByteArray := prog_14_method_39_code
def yX12_waysInAll : MethodName := ⟨RX12, "waysInAll", "(I)I"⟩
abbrev cX12_weightBy : ByteArray := prog_14_method_40_code
def yX12_weightBy : MethodName := ⟨RX12, "weightBy", "(JIII)J"⟩
abbrev cX12_layWeights : ByteArray := prog_14_method_41_code
def yX12_layWeights : MethodName := ⟨RX12, "layWeights", "()V"⟩
abbrev cX12_possible : ByteArray := prog_14_method_42_code
def yX12_possible : MethodName := ⟨RX12, "possible", "()I"⟩
abbrev cX12_allWeights : ByteArray := prog_14_method_43_code
def yX12_allWeights : MethodName := ⟨RX12, "allWeights", "()J"⟩
abbrev cX12_lookedAt : ByteArray := prog_14_method_44_code
def yX12_lookedAt : MethodName := ⟨RX12, "lookedAt", "(I)I"⟩
abbrev cX12_toldOf : ByteArray := prog_14_method_45_code
def yX12_toldOf : MethodName := ⟨RX12, "toldOf", "(II)I"⟩
abbrev cX12_person : ByteArray := prog_14_method_46_code
def yX12_person : MethodName := ⟨RX12, "person", "(II)I"⟩
abbrev cX12_isOf : ByteArray := prog_14_method_47_code
def yX12_isOf : MethodName := ⟨RX12, "isOf", "(II)Z"⟩
abbrev cX12_sightsFrom : ByteArray := prog_14_method_48_code
def yX12_sightsFrom : MethodName := ⟨RX12, "sightsFrom", "(I)I"⟩
abbrev cX12_waysThatLeave : ByteArray := prog_14_method_49_code
def yX12_waysThatLeave : MethodName := ⟨RX12, "waysThatLeave", "(I)I"⟩
abbrev cX12_notchesInAll : ByteArray := prog_14_method_50_code
def yX12_notchesInAll : MethodName := ⟨RX12, "notchesInAll", "(I)I"⟩
abbrev cX12_mark : ByteArray := prog_14_method_51_code
def yX12_mark : MethodName := ⟨RX12, "mark", "(II)I"⟩
abbrev cX12_flicks : ByteArray := prog_14_method_52_code
def yX12_flicks : MethodName := ⟨RX12, "flicks", "(II)I"⟩
abbrev cX12_doDeed : ByteArray := prog_14_method_53_code
def yX12_doDeed : MethodName := ⟨RX12, "doDeed", "(II)I"⟩
abbrev cX12_look : ByteArray := prog_14_method_54_code
def yX12_look : MethodName := ⟨RX12, "look", "(II)I"⟩
abbrev cX12_vain : ByteArray := prog_14_method_55_code
def yX12_vain : MethodName := ⟨RX12, "vain", "(I)I"⟩
abbrev cX12_undo : ByteArray := prog_14_method_56_code
def yX12_undo : MethodName := ⟨RX12, "undo", "(I)I"⟩
abbrev cX12_copyShed : ByteArray := prog_14_method_57_code
def yX12_copyShed : MethodName := ⟨RX12, "copyShed", "(II)V"⟩
abbrev cX12_keep : ByteArray := prog_14_method_58_code
def yX12_keep : MethodName := ⟨RX12, "keep", "(I)I"⟩
abbrev cX12_on : ByteArray := prog_14_method_59_code
def yX12_on : MethodName := ⟨RX12, "on", "(I)I"⟩
abbrev cX12_tellParts : ByteArray := prog_14_method_60_code
def yX12_tellParts : MethodName := ⟨RX12, "tellParts", "(JJ)I"⟩
abbrev cX12_likely : ByteArray := prog_14_method_61_code
def yX12_likely : MethodName := ⟨RX12, "likely", "(I)I"⟩
abbrev cX12_best : ByteArray := prog_14_method_62_code
def yX12_best : MethodName := ⟨RX12, "best", "()I"⟩
abbrev cX12_weightsAt : ByteArray := prog_14_method_63_code
def yX12_weightsAt : MethodName := ⟨RX12, "weightsAt", "(II)J"⟩
abbrev cX12_wheel : ByteArray := prog_14_method_64_code
def yX12_wheel : MethodName := ⟨RX12, "wheel", "(II)I"⟩
abbrev cX12_certain : ByteArray := prog_14_method_65_code
def yX12_certain : MethodName := ⟨RX12, "certain", "()I"⟩
abbrev cX12_laySorted : ByteArray := prog_14_method_66_code
def yX12_laySorted : MethodName := ⟨RX12, "laySorted", "()I"⟩
abbrev cX12_order : ByteArray := prog_14_method_67_code
def yX12_order : MethodName := ⟨RX12, "order", "(II)I"⟩
abbrev cX12_tries : ByteArray := prog_14_method_68_code
def yX12_tries : MethodName := ⟨RX12, "tries", "()I"⟩
abbrev cX12_within : ByteArray := prog_14_method_69_code
def yX12_within : MethodName := ⟨RX12, "within", "(I)I"⟩
abbrev cX12_seenBy : ByteArray := prog_14_method_70_code
def yX12_seenBy : MethodName := ⟨RX12, "seenBy", "(II)J"⟩
abbrev cX12_worthOf : ByteArray := prog_14_method_71_code
def yX12_worthOf : MethodName := ⟨RX12, "worthOf", "(I)J"⟩
abbrev cX12_worth : ByteArray := prog_14_method_72_code
def yX12_worth : MethodName := ⟨RX12, "worth", "(I)I"⟩
abbrev cX12_whose : ByteArray := prog_14_method_73_code
def yX12_whose : MethodName := ⟨RX12, "whose", "()I"⟩
abbrev cX12_seen : ByteArray := prog_14_method_74_code
def yX12_seen : MethodName := ⟨RX12, "seen", "(II)I"⟩
abbrev cX12_sights : ByteArray := prog_14_method_75_code
def yX12_sights : MethodName := ⟨RX12, "sights", "(I)I"⟩
abbrev cX12_noLooks : ByteArray := prog_14_method_76_code
def yX12_noLooks : MethodName := ⟨RX12, "noLooks", "(I)I"⟩
abbrev cX12_fits : ByteArray := prog_14_method_77_code
def yX12_fits : MethodName := ⟨RX12, "fits", "(I)I"⟩
abbrev cX12_chance : ByteArray := prog_14_method_78_code
def yX12_chance : MethodName := ⟨RX12, "chance", "(I)I"⟩
abbrev cX12_read : ByteArray := prog_14_method_79_code
def yX12_read : MethodName := ⟨RX12, "read", "(I)I"⟩
abbrev cX12_who : ByteArray := prog_14_method_80_code
def yX12_who : MethodName := ⟨RX12, "who", "(II)I"⟩
abbrev cX12_ways : ByteArray := prog_14_method_81_code
def yX12_ways : MethodName := ⟨RX12, "ways", "(III)I"⟩
abbrev cX12_far : ByteArray := prog_14_method_82_code
def yX12_far : MethodName := ⟨RX12, "far", "(II)I"⟩
abbrev cX12_apart : ByteArray := prog_14_method_83_code
def yX12_apart : MethodName := ⟨RX12, "apart", "(II)I"⟩
abbrev cX12_near : ByteArray := prog_14_method_84_code
def yX12_near : MethodName := ⟨RX12, "near", "(II)I"⟩
abbrev cX12_broughtTo : ByteArray := prog_14_method_85_code
def yX12_broughtTo : MethodName := ⟨RX12, "broughtTo", "(III)I"⟩
abbrev cX12_lots : ByteArray := prog_14_method_86_code
def yX12_lots : MethodName := ⟨RX12, "lots", "(II)I"⟩
abbrev cX12_asked : ByteArray := prog_14_method_87_code
def yX12_asked : MethodName := ⟨RX12, "asked", "()I"⟩
abbrev cX12_upper : ByteArray := prog_14_method_88_code
def yX12_upper : MethodName := ⟨RX12, "upper", "()J"⟩
abbrev cX12_lower : ByteArray := prog_14_method_89_code
def yX12_lower : MethodName := ⟨RX12, "lower", "()J"⟩
abbrev cX12_anys : ByteArray := prog_14_method_90_code
def yX12_anys : MethodName := ⟨RX12, "anys", "()I"⟩
abbrev cX12_thereOf : ByteArray := prog_14_method_91_code
def yX12_thereOf : MethodName := ⟨RX12, "thereOf", "(I)I"⟩
abbrev cX12_countOf : ByteArray := prog_14_method_92_code
def yX12_countOf : MethodName := ⟨RX12, "countOf", "(I)I"⟩
abbrev cX12_count : ByteArray := prog_14_method_93_code
def yX12_count : MethodName := ⟨RX12, "count", "(I)I"⟩
abbrev cX12_finding : ByteArray := prog_14_method_94_code
def yX12_finding : MethodName := ⟨RX12, "finding", "()I"⟩
abbrev cX12_findings : ByteArray := prog_14_method_95_code
def yX12_findings : MethodName := ⟨RX12, "findings", "(I)I"⟩
abbrev cX12_digest : ByteArray := prog_14_method_96_code
def yX12_digest : MethodName := ⟨RX12, "digest", "()J"⟩
def RJ9 : String := "java/lang/Math"
abbrev cJ9_max_7cf53 : ByteArray := prog_15_method_65_code
def yJ9_max_7cf53 : MethodName := ⟨RJ9, "max", "(II)I"⟩
abbrev cJ9_max_f86c9 : ByteArray := prog_15_method_66_code
def yJ9_max_f86c9 : MethodName := ⟨RJ9, "max", "(JJ)J"⟩
abbrev cJ9_min_7cf53 : ByteArray := prog_15_method_69_code
def yJ9_min_7cf53 : MethodName := ⟨RJ9, "min", "(II)I"⟩
def RJ10 : String := "java/lang/System"
def RL : String := "TurnedLockLaw"
abbrev cL_law : ByteArray := code
def yL_law : MethodName := ⟨RL, "law", "([I)Z"⟩
abbrev vwCl : List vw_C := [(RX0, TX0, 6), (RX1, TX1, 6), (RX2, TX2, 6), (RX3, TX3, 6), (RX4, TX4, 6), (RX5, TX5, 6), (RX6, TX6, 5), (RX7, TX7, 2), (RX8, TX8, 10), (RX9, TX9, 4), (RX10, TX10, 4), (RX11, TX11, 10), (RX12, TX12, 25)]
end
section
theorem dX0_init_0 : decode cX0_init 0 = .ok (.aload_n 0, 1) := by decide +kernel
theorem dX0_init_1 : decode cX0_init 1 = .ok (.aload_n 1, 1) := by decide +kernel
theorem dX0_init_2 : decode cX0_init 2 = .ok (.aload_n 2, 1) := by decide +kernel
theorem dX0_init_3 : decode cX0_init 3 = .ok (.aload_n 3, 1) := by decide +kernel
theorem dX0_init_4 : decode cX0_init 4 = .ok (.invokespecial 3, 3) := by decide +kernel
theorem dX0_init_7 : decode cX0_init 7 = .ok (.return_, 1) := by decide +kernel
theorem dX0_kind_0 : decode cX0_kind 0 = .ok (.iconst 5, 1) := by decide +kernel
theorem dX0_kind_1 : decode cX0_kind 1 = .ok (.ireturn, 1) := by decide +kernel
theorem dX0_countWays_0 : decode cX0_countWays 0 = .ok (.aload_n 0, 1) := by decide +kernel
theorem dX0_countWays_1 : decode cX0_countWays 1 = .ok (.iload_n 1, 1) := by decide +kernel
theorem dX0_countWays_2 : decode cX0_countWays 2 = .ok (.invokevirtual 9, 3) := by decide +kernel
theorem dX0_countWays_5 : decode cX0_countWays 5 = .ok (.ifCond .eq 7, 3) := by decide +kernel
theorem dX0_countWays_8 : decode cX0_countWays 8 = .ok (.iconst 1, 1) := by decide +kernel
theorem dX0_countWays_9 : decode cX0_countWays 9 = .ok (.goto 4, 3) := by decide +kernel
theorem dX0_countWays_12 : decode cX0_countWays 12 = .ok (.iconst 0, 1) := by decide +kernel
theorem dX0_countWays_13 : decode cX0_countWays 13 = .ok (.ireturn, 1) := by decide +kernel
theorem dX0_turnedNotches_0 : decode cX0_turnedNotches 0 = .ok (.iconst 0, 1) := by decide +kernel
theorem dX0_turnedNotches_1 : decode cX0_turnedNotches 1 = .ok (.istore_n 1, 1) := by decide +kernel
theorem dX0_turnedNotches_2 : decode cX0_turnedNotches 2 = .ok (.iconst 0, 1) := by decide +kernel
theorem dX0_turnedNotches_3 : decode cX0_turnedNotches 3 = .ok (.istore_n 2, 1) := by decide +kernel
theorem dX0_turnedNotches_4 : decode cX0_turnedNotches 4 = .ok (.iload_n 2, 1) := by decide +kernel
theorem dX0_turnedNotches_5 : decode cX0_turnedNotches 5 = .ok (.aload_n 0, 1) := by decide +kernel
theorem dX0_turnedNotches_6 : decode cX0_turnedNotches 6 = .ok (.getfield 15, 3) := by decide +kernel
theorem dX0_turnedNotches_9 : decode cX0_turnedNotches 9 = .ok (.if_icmp .ge 56, 3) := by decide +kernel
theorem dX0_turnedNotches_12 : decode cX0_turnedNotches 12 = .ok (.iconst 0, 1) := by decide +kernel
theorem dX0_turnedNotches_13 : decode cX0_turnedNotches 13 = .ok (.istore_n 3, 1) := by decide +kernel
theorem dX0_turnedNotches_14 : decode cX0_turnedNotches 14 = .ok (.iload_n 3, 1) := by decide +kernel
theorem dX0_turnedNotches_15 : decode cX0_turnedNotches 15 = .ok (.aload_n 0, 1) := by decide +kernel
theorem dX0_turnedNotches_16 : decode cX0_turnedNotches 16 = .ok (.getfield 19, 3) := by decide +kernel
theorem dX0_turnedNotches_19 : decode cX0_turnedNotches 19 = .ok (.getfield 23, 3) := by decide +kernel
theorem dX0_turnedNotches_22 : decode cX0_turnedNotches 22 = .ok (.if_icmp .ge 37, 3) := by decide +kernel
theorem dX0_turnedNotches_25 : decode cX0_turnedNotches 25 = .ok (.iload_n 1, 1) := by decide +kernel
theorem dX0_turnedNotches_26 : decode cX0_turnedNotches 26 = .ok (.aload_n 0, 1) := by decide +kernel
theorem dX0_turnedNotches_27 : decode cX0_turnedNotches 27 = .ok (.aload_n 0, 1) := by decide +kernel
theorem dX0_turnedNotches_28 : decode cX0_turnedNotches 28 = .ok (.getfield 28, 3) := by decide +kernel
theorem dX0_turnedNotches_31 : decode cX0_turnedNotches 31 = .ok (.iload_n 2, 1) := by decide +kernel
theorem dX0_turnedNotches_32 : decode cX0_turnedNotches 32 = .ok (.iaload, 1) := by decide +kernel
theorem dX0_turnedNotches_33 : decode cX0_turnedNotches 33 = .ok (.invokevirtual 32, 3) := by decide +kernel
theorem dX0_turnedNotches_36 : decode cX0_turnedNotches 36 = .ok (.aload_n 0, 1) := by decide +kernel
theorem dX0_turnedNotches_37 : decode cX0_turnedNotches 37 = .ok (.getfield 19, 3) := by decide +kernel
theorem dX0_turnedNotches_40 : decode cX0_turnedNotches 40 = .ok (.aload_n 0, 1) := by decide +kernel
theorem dX0_turnedNotches_41 : decode cX0_turnedNotches 41 = .ok (.getfield 28, 3) := by decide +kernel
theorem dX0_turnedNotches_44 : decode cX0_turnedNotches 44 = .ok (.iload_n 2, 1) := by decide +kernel
theorem dX0_turnedNotches_45 : decode cX0_turnedNotches 45 = .ok (.iaload, 1) := by decide +kernel
theorem dX0_turnedNotches_46 : decode cX0_turnedNotches 46 = .ok (.iload_n 3, 1) := by decide +kernel
theorem dX0_turnedNotches_47 : decode cX0_turnedNotches 47 = .ok (.invokevirtual 36, 3) := by decide +kernel
theorem dX0_turnedNotches_50 : decode cX0_turnedNotches 50 = .ok (.imul, 1) := by decide +kernel
theorem dX0_turnedNotches_51 : decode cX0_turnedNotches 51 = .ok (.iadd, 1) := by decide +kernel
theorem dX0_turnedNotches_52 : decode cX0_turnedNotches 52 = .ok (.istore_n 1, 1) := by decide +kernel
theorem dX0_turnedNotches_53 : decode cX0_turnedNotches 53 = .ok (.iinc 3 1, 3) := by decide +kernel
theorem dX0_turnedNotches_56 : decode cX0_turnedNotches 56 = .ok (.goto (-42), 3) := by decide +kernel
theorem dX0_turnedNotches_59 : decode cX0_turnedNotches 59 = .ok (.iinc 2 1, 3) := by decide +kernel
theorem dX0_turnedNotches_62 : decode cX0_turnedNotches 62 = .ok (.goto (-58), 3) := by decide +kernel
theorem dX0_turnedNotches_65 : decode cX0_turnedNotches 65 = .ok (.iload_n 1, 1) := by decide +kernel
theorem dX0_turnedNotches_66 : decode cX0_turnedNotches 66 = .ok (.ireturn, 1) := by decide +kernel
theorem dX1_init_0 : decode cX1_init 0 = .ok (.aload_n 0, 1) := by decide +kernel
theorem dX1_init_1 : decode cX1_init 1 = .ok (.aload_n 1, 1) := by decide +kernel
theorem dX1_init_2 : decode cX1_init 2 = .ok (.aload_n 2, 1) := by decide +kernel
theorem dX1_init_3 : decode cX1_init 3 = .ok (.aload_n 3, 1) := by decide +kernel
theorem dX1_init_4 : decode cX1_init 4 = .ok (.invokespecial 3, 3) := by decide +kernel
theorem dX1_init_7 : decode cX1_init 7 = .ok (.return_, 1) := by decide +kernel
theorem dX1_kind_0 : decode cX1_kind 0 = .ok (.iconst 2, 1) := by decide +kernel
theorem dX1_kind_1 : decode cX1_kind 1 = .ok (.ireturn, 1) := by decide +kernel
theorem dX1_countWays_0 : decode cX1_countWays 0 = .ok (.aload_n 0, 1) := by decide +kernel
theorem dX1_countWays_1 : decode cX1_countWays 1 = .ok (.getfield 9, 3) := by decide +kernel
theorem dX1_countWays_4 : decode cX1_countWays 4 = .ok (.iload_n 1, 1) := by decide +kernel
theorem dX1_countWays_5 : decode cX1_countWays 5 = .ok (.invokevirtual 15, 3) := by decide +kernel
theorem dX1_countWays_8 : decode cX1_countWays 8 = .ok (.iconst 1, 1) := by decide +kernel
theorem dX1_countWays_9 : decode cX1_countWays 9 = .ok (.if_icmp .ne 15, 3) := by decide +kernel
theorem dX1_countWays_12 : decode cX1_countWays 12 = .ok (.aload_n 0, 1) := by decide +kernel
theorem dX1_countWays_13 : decode cX1_countWays 13 = .ok (.iload_n 1, 1) := by decide +kernel
theorem dX1_countWays_14 : decode cX1_countWays 14 = .ok (.invokevirtual 21, 3) := by decide +kernel
theorem dX1_countWays_17 : decode cX1_countWays 17 = .ok (.ifCond .eq 7, 3) := by decide +kernel
theorem dX1_countWays_20 : decode cX1_countWays 20 = .ok (.iconst 1, 1) := by decide +kernel
theorem dX1_countWays_21 : decode cX1_countWays 21 = .ok (.goto 4, 3) := by decide +kernel
theorem dX1_countWays_24 : decode cX1_countWays 24 = .ok (.iconst 0, 1) := by decide +kernel
theorem dX1_countWays_25 : decode cX1_countWays 25 = .ok (.ireturn, 1) := by decide +kernel
theorem dX1_noneAboveFlicks_0 : decode cX1_noneAboveFlicks 0 = .ok (.iconst 0, 1) := by decide +kernel
theorem dX1_noneAboveFlicks_1 : decode cX1_noneAboveFlicks 1 = .ok (.istore_n 2, 1) := by decide +kernel
theorem dX1_noneAboveFlicks_2 : decode cX1_noneAboveFlicks 2 = .ok (.iload_n 2, 1) := by decide +kernel
theorem dX1_noneAboveFlicks_3 : decode cX1_noneAboveFlicks 3 = .ok (.aload_n 0, 1) := by decide +kernel
theorem dX1_noneAboveFlicks_4 : decode cX1_noneAboveFlicks 4 = .ok (.getfield 9, 3) := by decide +kernel
theorem dX1_noneAboveFlicks_7 : decode cX1_noneAboveFlicks 7 = .ok (.getfield 25, 3) := by decide +kernel
theorem dX1_noneAboveFlicks_10 : decode cX1_noneAboveFlicks 10 = .ok (.if_icmp .ge 27, 3) := by decide +kernel
theorem dX1_noneAboveFlicks_13 : decode cX1_noneAboveFlicks 13 = .ok (.aload_n 0, 1) := by decide +kernel
theorem dX1_noneAboveFlicks_14 : decode cX1_noneAboveFlicks 14 = .ok (.getfield 9, 3) := by decide +kernel
theorem dX1_noneAboveFlicks_17 : decode cX1_noneAboveFlicks 17 = .ok (.iload_n 1, 1) := by decide +kernel
theorem dX1_noneAboveFlicks_18 : decode cX1_noneAboveFlicks 18 = .ok (.iload_n 2, 1) := by decide +kernel
theorem dX1_noneAboveFlicks_19 : decode cX1_noneAboveFlicks 19 = .ok (.invokevirtual 29, 3) := by decide +kernel
theorem dX1_noneAboveFlicks_22 : decode cX1_noneAboveFlicks 22 = .ok (.aload_n 0, 1) := by decide +kernel
theorem dX1_noneAboveFlicks_23 : decode cX1_noneAboveFlicks 23 = .ok (.getfield 33, 3) := by decide +kernel
theorem dX1_noneAboveFlicks_26 : decode cX1_noneAboveFlicks 26 = .ok (.if_icmp .le 5, 3) := by decide +kernel
theorem dX1_noneAboveFlicks_29 : decode cX1_noneAboveFlicks 29 = .ok (.iconst 0, 1) := by decide +kernel
theorem dX1_noneAboveFlicks_30 : decode cX1_noneAboveFlicks 30 = .ok (.ireturn, 1) := by decide +kernel
theorem dX1_noneAboveFlicks_31 : decode cX1_noneAboveFlicks 31 = .ok (.iinc 2 1, 3) := by decide +kernel
theorem dX1_noneAboveFlicks_34 : decode cX1_noneAboveFlicks 34 = .ok (.goto (-32), 3) := by decide +kernel
theorem dX1_noneAboveFlicks_37 : decode cX1_noneAboveFlicks 37 = .ok (.iconst 1, 1) := by decide +kernel
theorem dX1_noneAboveFlicks_38 : decode cX1_noneAboveFlicks 38 = .ok (.ireturn, 1) := by decide +kernel
theorem dX1_waysLeavingFirst_0 : decode cX1_waysLeavingFirst 0 = .ok (.iconst 0, 1) := by decide +kernel
theorem dX1_waysLeavingFirst_1 : decode cX1_waysLeavingFirst 1 = .ok (.istore_n 1, 1) := by decide +kernel
theorem dX1_waysLeavingFirst_2 : decode cX1_waysLeavingFirst 2 = .ok (.iconst 0, 1) := by decide +kernel
theorem dX1_waysLeavingFirst_3 : decode cX1_waysLeavingFirst 3 = .ok (.istore_n 2, 1) := by decide +kernel
theorem dX1_waysLeavingFirst_4 : decode cX1_waysLeavingFirst 4 = .ok (.iload_n 2, 1) := by decide +kernel
theorem dX1_waysLeavingFirst_5 : decode cX1_waysLeavingFirst 5 = .ok (.aload_n 0, 1) := by decide +kernel
theorem dX1_waysLeavingFirst_6 : decode cX1_waysLeavingFirst 6 = .ok (.getfield 36, 3) := by decide +kernel
theorem dX1_waysLeavingFirst_9 : decode cX1_waysLeavingFirst 9 = .ok (.if_icmp .ge 43, 3) := by decide +kernel
theorem dX1_waysLeavingFirst_12 : decode cX1_waysLeavingFirst 12 = .ok (.iload_n 1, 1) := by decide +kernel
theorem dX1_waysLeavingFirst_13 : decode cX1_waysLeavingFirst 13 = .ok (.aload_n 0, 1) := by decide +kernel
theorem dX1_waysLeavingFirst_14 : decode cX1_waysLeavingFirst 14 = .ok (.getfield 9, 3) := by decide +kernel
theorem dX1_waysLeavingFirst_17 : decode cX1_waysLeavingFirst 17 = .ok (.aload_n 0, 1) := by decide +kernel
theorem dX1_waysLeavingFirst_18 : decode cX1_waysLeavingFirst 18 = .ok (.getfield 39, 3) := by decide +kernel
theorem dX1_waysLeavingFirst_21 : decode cX1_waysLeavingFirst 21 = .ok (.iload_n 2, 1) := by decide +kernel
theorem dX1_waysLeavingFirst_22 : decode cX1_waysLeavingFirst 22 = .ok (.iaload, 1) := by decide +kernel
theorem dX1_waysLeavingFirst_23 : decode cX1_waysLeavingFirst 23 = .ok (.iconst 0, 1) := by decide +kernel
theorem dX1_waysLeavingFirst_24 : decode cX1_waysLeavingFirst 24 = .ok (.invokevirtual 29, 3) := by decide +kernel
theorem dX1_waysLeavingFirst_27 : decode cX1_waysLeavingFirst 27 = .ok (.ifCond .ne 16, 3) := by decide +kernel
theorem dX1_waysLeavingFirst_30 : decode cX1_waysLeavingFirst 30 = .ok (.aload_n 0, 1) := by decide +kernel
theorem dX1_waysLeavingFirst_31 : decode cX1_waysLeavingFirst 31 = .ok (.aload_n 0, 1) := by decide +kernel
theorem dX1_waysLeavingFirst_32 : decode cX1_waysLeavingFirst 32 = .ok (.getfield 39, 3) := by decide +kernel
theorem dX1_waysLeavingFirst_35 : decode cX1_waysLeavingFirst 35 = .ok (.iload_n 2, 1) := by decide +kernel
theorem dX1_waysLeavingFirst_36 : decode cX1_waysLeavingFirst 36 = .ok (.iaload, 1) := by decide +kernel
theorem dX1_waysLeavingFirst_37 : decode cX1_waysLeavingFirst 37 = .ok (.invokevirtual 43, 3) := by decide +kernel
theorem dX1_waysLeavingFirst_40 : decode cX1_waysLeavingFirst 40 = .ok (.goto 4, 3) := by decide +kernel
theorem dX1_waysLeavingFirst_43 : decode cX1_waysLeavingFirst 43 = .ok (.iconst 0, 1) := by decide +kernel
theorem dX1_waysLeavingFirst_44 : decode cX1_waysLeavingFirst 44 = .ok (.iadd, 1) := by decide +kernel
theorem dX1_waysLeavingFirst_45 : decode cX1_waysLeavingFirst 45 = .ok (.istore_n 1, 1) := by decide +kernel
theorem dX1_waysLeavingFirst_46 : decode cX1_waysLeavingFirst 46 = .ok (.iinc 2 1, 3) := by decide +kernel
theorem dX1_waysLeavingFirst_49 : decode cX1_waysLeavingFirst 49 = .ok (.goto (-45), 3) := by decide +kernel
theorem dX1_waysLeavingFirst_52 : decode cX1_waysLeavingFirst 52 = .ok (.iload_n 1, 1) := by decide +kernel
theorem dX1_waysLeavingFirst_53 : decode cX1_waysLeavingFirst 53 = .ok (.ireturn, 1) := by decide +kernel
theorem dX2_init_0 : decode cX2_init 0 = .ok (.aload_n 0, 1) := by decide +kernel
theorem dX2_init_1 : decode cX2_init 1 = .ok (.aload_n 1, 1) := by decide +kernel
theorem dX2_init_2 : decode cX2_init 2 = .ok (.aload_n 2, 1) := by decide +kernel
theorem dX2_init_3 : decode cX2_init 3 = .ok (.aload_n 3, 1) := by decide +kernel
theorem dX2_init_4 : decode cX2_init 4 = .ok (.invokespecial 3, 3) := by decide +kernel
theorem dX2_init_7 : decode cX2_init 7 = .ok (.return_, 1) := by decide +kernel
theorem dX2_kind_0 : decode cX2_kind 0 = .ok (.iconst 3, 1) := by decide +kernel
theorem dX2_kind_1 : decode cX2_kind 1 = .ok (.ireturn, 1) := by decide +kernel
theorem dX2_countWays_0 : decode cX2_countWays 0 = .ok (.iconst 1, 1) := by decide +kernel
theorem dX2_countWays_1 : decode cX2_countWays 1 = .ok (.ireturn, 1) := by decide +kernel
theorem dX3_init_0 : decode cX3_init 0 = .ok (.aload_n 0, 1) := by decide +kernel
theorem dX3_init_1 : decode cX3_init 1 = .ok (.aload_n 1, 1) := by decide +kernel
theorem dX3_init_2 : decode cX3_init 2 = .ok (.aload_n 2, 1) := by decide +kernel
theorem dX3_init_3 : decode cX3_init 3 = .ok (.aload_n 3, 1) := by decide +kernel
theorem dX3_init_4 : decode cX3_init 4 = .ok (.invokespecial 3, 3) := by decide +kernel
theorem dX3_init_7 : decode cX3_init 7 = .ok (.return_, 1) := by decide +kernel
theorem dX3_kind_0 : decode cX3_kind 0 = .ok (.iconst 4, 1) := by decide +kernel
theorem dX3_kind_1 : decode cX3_kind 1 = .ok (.ireturn, 1) := by decide +kernel
theorem dX3_firstTurned_0 : decode cX3_firstTurned 0 = .ok (.iconst 0, 1) := by decide +kernel
theorem dX3_firstTurned_1 : decode cX3_firstTurned 1 = .ok (.aload_n 0, 1) := by decide +kernel
theorem dX3_firstTurned_2 : decode cX3_firstTurned 2 = .ok (.getfield 9, 3) := by decide +kernel
theorem dX3_firstTurned_5 : decode cX3_firstTurned 5 = .ok (.getfield 15, 3) := by decide +kernel
theorem dX3_firstTurned_8 : decode cX3_firstTurned 8 = .ok (.iconst 2, 1) := by decide +kernel
theorem dX3_firstTurned_9 : decode cX3_firstTurned 9 = .ok (.isub, 1) := by decide +kernel
theorem dX3_firstTurned_10 : decode cX3_firstTurned 10 = .ok (.invokestatic 21, 3) := by decide +kernel
theorem dX3_firstTurned_13 : decode cX3_firstTurned 13 = .ok (.ireturn, 1) := by decide +kernel
theorem dX3_turnedWheels_0 : decode cX3_turnedWheels 0 = .ok (.aload_n 0, 1) := by decide +kernel
theorem dX3_turnedWheels_1 : decode cX3_turnedWheels 1 = .ok (.getfield 9, 3) := by decide +kernel
theorem dX3_turnedWheels_4 : decode cX3_turnedWheels 4 = .ok (.getfield 15, 3) := by decide +kernel
theorem dX3_turnedWheels_7 : decode cX3_turnedWheels 7 = .ok (.aload_n 0, 1) := by decide +kernel
theorem dX3_turnedWheels_8 : decode cX3_turnedWheels 8 = .ok (.invokevirtual 27, 3) := by decide +kernel
theorem dX3_turnedWheels_11 : decode cX3_turnedWheels 11 = .ok (.isub, 1) := by decide +kernel
theorem dX3_turnedWheels_12 : decode cX3_turnedWheels 12 = .ok (.ireturn, 1) := by decide +kernel
theorem dX4_init_0 : decode cX4_init 0 = .ok (.aload_n 0, 1) := by decide +kernel
theorem dX4_init_1 : decode cX4_init 1 = .ok (.aload_n 1, 1) := by decide +kernel
theorem dX4_init_2 : decode cX4_init 2 = .ok (.aload_n 2, 1) := by decide +kernel
theorem dX4_init_3 : decode cX4_init 3 = .ok (.aload_n 3, 1) := by decide +kernel
theorem dX4_init_4 : decode cX4_init 4 = .ok (.invokespecial 3, 3) := by decide +kernel
theorem dX4_init_7 : decode cX4_init 7 = .ok (.return_, 1) := by decide +kernel
theorem dX4_kind_0 : decode cX4_kind 0 = .ok (.iconst 1, 1) := by decide +kernel
theorem dX4_kind_1 : decode cX4_kind 1 = .ok (.ireturn, 1) := by decide +kernel
theorem dX4_firstTurned_0 : decode cX4_firstTurned 0 = .ok (.aload_n 0, 1) := by decide +kernel
theorem dX4_firstTurned_1 : decode cX4_firstTurned 1 = .ok (.getfield 9, 3) := by decide +kernel
theorem dX4_firstTurned_4 : decode cX4_firstTurned 4 = .ok (.getfield 15, 3) := by decide +kernel
theorem dX4_firstTurned_7 : decode cX4_firstTurned 7 = .ok (.iconst 1, 1) := by decide +kernel
theorem dX4_firstTurned_8 : decode cX4_firstTurned 8 = .ok (.isub, 1) := by decide +kernel
theorem dX4_firstTurned_9 : decode cX4_firstTurned 9 = .ok (.ireturn, 1) := by decide +kernel
theorem dX4_countWays_0 : decode cX4_countWays 0 = .ok (.aload_n 0, 1) := by decide +kernel
theorem dX4_countWays_1 : decode cX4_countWays 1 = .ok (.invokevirtual 21, 3) := by decide +kernel
theorem dX4_countWays_4 : decode cX4_countWays 4 = .ok (.istore_n 2, 1) := by decide +kernel
theorem dX4_countWays_5 : decode cX4_countWays 5 = .ok (.aload_n 0, 1) := by decide +kernel
theorem dX4_countWays_6 : decode cX4_countWays 6 = .ok (.getfield 9, 3) := by decide +kernel
theorem dX4_countWays_9 : decode cX4_countWays 9 = .ok (.iload_n 1, 1) := by decide +kernel
theorem dX4_countWays_10 : decode cX4_countWays 10 = .ok (.iload_n 2, 1) := by decide +kernel
theorem dX4_countWays_11 : decode cX4_countWays 11 = .ok (.invokevirtual 25, 3) := by decide +kernel
theorem dX4_countWays_14 : decode cX4_countWays 14 = .ok (.ifCond .ne 5, 3) := by decide +kernel
theorem dX4_countWays_17 : decode cX4_countWays 17 = .ok (.iconst 0, 1) := by decide +kernel
theorem dX4_countWays_18 : decode cX4_countWays 18 = .ok (.ireturn, 1) := by decide +kernel
theorem dX4_countWays_19 : decode cX4_countWays 19 = .ok (.iconst 1, 1) := by decide +kernel
theorem dX4_countWays_20 : decode cX4_countWays 20 = .ok (.istore_n 3, 1) := by decide +kernel
theorem dX4_countWays_21 : decode cX4_countWays 21 = .ok (.iload_n 2, 1) := by decide +kernel
theorem dX4_countWays_22 : decode cX4_countWays 22 = .ok (.istore 4, 2) := by decide +kernel
theorem dX4_countWays_24 : decode cX4_countWays 24 = .ok (.iload 4, 2) := by decide +kernel
theorem dX4_countWays_26 : decode cX4_countWays 26 = .ok (.aload_n 0, 1) := by decide +kernel
theorem dX4_countWays_27 : decode cX4_countWays 27 = .ok (.getfield 9, 3) := by decide +kernel
theorem dX4_countWays_30 : decode cX4_countWays 30 = .ok (.getfield 15, 3) := by decide +kernel
theorem dX4_countWays_33 : decode cX4_countWays 33 = .ok (.if_icmp .ge 77, 3) := by decide +kernel
theorem dX4_countWays_36 : decode cX4_countWays 36 = .ok (.aload_n 0, 1) := by decide +kernel
theorem dX4_countWays_37 : decode cX4_countWays 37 = .ok (.getfield 9, 3) := by decide +kernel
theorem dX4_countWays_40 : decode cX4_countWays 40 = .ok (.iload_n 1, 1) := by decide +kernel
theorem dX4_countWays_41 : decode cX4_countWays 41 = .ok (.iload 4, 2) := by decide +kernel
theorem dX4_countWays_43 : decode cX4_countWays 43 = .ok (.invokevirtual 29, 3) := by decide +kernel
theorem dX4_countWays_46 : decode cX4_countWays 46 = .ok (.istore 5, 2) := by decide +kernel
theorem dX4_countWays_48 : decode cX4_countWays 48 = .ok (.aload_n 0, 1) := by decide +kernel
theorem dX4_countWays_49 : decode cX4_countWays 49 = .ok (.getfield 9, 3) := by decide +kernel
theorem dX4_countWays_52 : decode cX4_countWays 52 = .ok (.getfield 33, 3) := by decide +kernel
theorem dX4_countWays_55 : decode cX4_countWays 55 = .ok (.iload 5, 2) := by decide +kernel
theorem dX4_countWays_57 : decode cX4_countWays 57 = .ok (.isub, 1) := by decide +kernel
theorem dX4_countWays_58 : decode cX4_countWays 58 = .ok (.istore 6, 2) := by decide +kernel
theorem dX4_countWays_60 : decode cX4_countWays 60 = .ok (.iload_n 3, 1) := by decide +kernel
theorem dX4_countWays_61 : decode cX4_countWays 61 = .ok (.iload 5, 2) := by decide +kernel
theorem dX4_countWays_63 : decode cX4_countWays 63 = .ok (.iconst 1, 1) := by decide +kernel
theorem dX4_countWays_64 : decode cX4_countWays 64 = .ok (.if_icmp .lt 16, 3) := by decide +kernel
theorem dX4_countWays_67 : decode cX4_countWays 67 = .ok (.iload 5, 2) := by decide +kernel
theorem dX4_countWays_69 : decode cX4_countWays 69 = .ok (.aload_n 0, 1) := by decide +kernel
theorem dX4_countWays_70 : decode cX4_countWays 70 = .ok (.getfield 36, 3) := by decide +kernel
theorem dX4_countWays_73 : decode cX4_countWays 73 = .ok (.if_icmp .gt 7, 3) := by decide +kernel
theorem dX4_countWays_76 : decode cX4_countWays 76 = .ok (.iconst 1, 1) := by decide +kernel
theorem dX4_countWays_77 : decode cX4_countWays 77 = .ok (.goto 4, 3) := by decide +kernel
theorem dX4_countWays_80 : decode cX4_countWays 80 = .ok (.iconst 0, 1) := by decide +kernel
theorem dX4_countWays_81 : decode cX4_countWays 81 = .ok (.iload 6, 2) := by decide +kernel
theorem dX4_countWays_83 : decode cX4_countWays 83 = .ok (.iconst 1, 1) := by decide +kernel
theorem dX4_countWays_84 : decode cX4_countWays 84 = .ok (.if_icmp .lt 16, 3) := by decide +kernel
theorem dX4_countWays_87 : decode cX4_countWays 87 = .ok (.iload 6, 2) := by decide +kernel
theorem dX4_countWays_89 : decode cX4_countWays 89 = .ok (.aload_n 0, 1) := by decide +kernel
theorem dX4_countWays_90 : decode cX4_countWays 90 = .ok (.getfield 36, 3) := by decide +kernel
theorem dX4_countWays_93 : decode cX4_countWays 93 = .ok (.if_icmp .gt 7, 3) := by decide +kernel
theorem dX4_countWays_96 : decode cX4_countWays 96 = .ok (.iconst 1, 1) := by decide +kernel
theorem dX4_countWays_97 : decode cX4_countWays 97 = .ok (.goto 4, 3) := by decide +kernel
theorem dX4_countWays_100 : decode cX4_countWays 100 = .ok (.iconst 0, 1) := by decide +kernel
theorem dX4_countWays_101 : decode cX4_countWays 101 = .ok (.iadd, 1) := by decide +kernel
theorem dX4_countWays_102 : decode cX4_countWays 102 = .ok (.imul, 1) := by decide +kernel
theorem dX4_countWays_103 : decode cX4_countWays 103 = .ok (.istore_n 3, 1) := by decide +kernel
theorem dX4_countWays_104 : decode cX4_countWays 104 = .ok (.iinc 4 1, 3) := by decide +kernel
theorem dX4_countWays_107 : decode cX4_countWays 107 = .ok (.goto (-83), 3) := by decide +kernel
theorem dX4_countWays_110 : decode cX4_countWays 110 = .ok (.iload_n 3, 1) := by decide +kernel
theorem dX4_countWays_111 : decode cX4_countWays 111 = .ok (.ireturn, 1) := by decide +kernel
theorem dX4_unlikeSights_0 : decode cX4_unlikeSights 0 = .ok (.aload_n 0, 1) := by decide +kernel
theorem dX4_unlikeSights_1 : decode cX4_unlikeSights 1 = .ok (.getfield 39, 3) := by decide +kernel
theorem dX4_unlikeSights_4 : decode cX4_unlikeSights 4 = .ok (.ireturn, 1) := by decide +kernel
theorem dX5_init_0 : decode cX5_init 0 = .ok (.aload_n 0, 1) := by decide +kernel
theorem dX5_init_1 : decode cX5_init 1 = .ok (.invokespecial 3, 3) := by decide +kernel
theorem dX5_init_4 : decode cX5_init 4 = .ok (.aload_n 0, 1) := by decide +kernel
theorem dX5_init_5 : decode cX5_init 5 = .ok (.iconst 0, 1) := by decide +kernel
theorem dX5_init_6 : decode cX5_init 6 = .ok (.putfield 9, 3) := by decide +kernel
theorem dX5_init_9 : decode cX5_init 9 = .ok (.aload_n 0, 1) := by decide +kernel
theorem dX5_init_10 : decode cX5_init 10 = .ok (.iconst 0, 1) := by decide +kernel
theorem dX5_init_11 : decode cX5_init 11 = .ok (.putfield 15, 3) := by decide +kernel
theorem dX5_init_14 : decode cX5_init 14 = .ok (.aload_n 0, 1) := by decide +kernel
theorem dX5_init_15 : decode cX5_init 15 = .ok (.iconst 1, 1) := by decide +kernel
theorem dX5_init_16 : decode cX5_init 16 = .ok (.putfield 18, 3) := by decide +kernel
theorem dX5_init_19 : decode cX5_init 19 = .ok (.aload_n 0, 1) := by decide +kernel
theorem dX5_init_20 : decode cX5_init 20 = .ok (.aload_n 1, 1) := by decide +kernel
theorem dX5_init_21 : decode cX5_init 21 = .ok (.putfield 21, 3) := by decide +kernel
theorem dX5_init_24 : decode cX5_init 24 = .ok (.aload_n 0, 1) := by decide +kernel
theorem dX5_init_25 : decode cX5_init 25 = .ok (.aload_n 2, 1) := by decide +kernel
theorem dX5_init_26 : decode cX5_init 26 = .ok (.putfield 25, 3) := by decide +kernel
theorem dX5_init_29 : decode cX5_init 29 = .ok (.aload_n 0, 1) := by decide +kernel
theorem dX5_init_30 : decode cX5_init 30 = .ok (.aload_n 3, 1) := by decide +kernel
theorem dX5_init_31 : decode cX5_init 31 = .ok (.putfield 29, 3) := by decide +kernel
theorem dX5_init_34 : decode cX5_init 34 = .ok (.return_, 1) := by decide +kernel
theorem dX5_kind_0 : decode cX5_kind 0 = .ok (.iconst 0, 1) := by decide +kernel
theorem dX5_kind_1 : decode cX5_kind 1 = .ok (.ireturn, 1) := by decide +kernel
theorem dX5_countWays_0 : decode cX5_countWays 0 = .ok (.aload_n 0, 1) := by decide +kernel
theorem dX5_countWays_1 : decode cX5_countWays 1 = .ok (.getfield 21, 3) := by decide +kernel
theorem dX5_countWays_4 : decode cX5_countWays 4 = .ok (.getfield 32, 3) := by decide +kernel
theorem dX5_countWays_7 : decode cX5_countWays 7 = .ok (.iconst 1, 1) := by decide +kernel
theorem dX5_countWays_8 : decode cX5_countWays 8 = .ok (.isub, 1) := by decide +kernel
theorem dX5_countWays_9 : decode cX5_countWays 9 = .ok (.istore_n 2, 1) := by decide +kernel
theorem dX5_countWays_10 : decode cX5_countWays 10 = .ok (.aload_n 0, 1) := by decide +kernel
theorem dX5_countWays_11 : decode cX5_countWays 11 = .ok (.getfield 21, 3) := by decide +kernel
theorem dX5_countWays_14 : decode cX5_countWays 14 = .ok (.iload_n 1, 1) := by decide +kernel
theorem dX5_countWays_15 : decode cX5_countWays 15 = .ok (.iload_n 2, 1) := by decide +kernel
theorem dX5_countWays_16 : decode cX5_countWays 16 = .ok (.invokevirtual 37, 3) := by decide +kernel
theorem dX5_countWays_19 : decode cX5_countWays 19 = .ok (.istore_n 3, 1) := by decide +kernel
theorem dX5_countWays_20 : decode cX5_countWays 20 = .ok (.aload_n 0, 1) := by decide +kernel
theorem dX5_countWays_21 : decode cX5_countWays 21 = .ok (.getfield 21, 3) := by decide +kernel
theorem dX5_countWays_24 : decode cX5_countWays 24 = .ok (.iload_n 1, 1) := by decide +kernel
theorem dX5_countWays_25 : decode cX5_countWays 25 = .ok (.iload_n 2, 1) := by decide +kernel
theorem dX5_countWays_26 : decode cX5_countWays 26 = .ok (.invokevirtual 41, 3) := by decide +kernel
theorem dX5_countWays_29 : decode cX5_countWays 29 = .ok (.ifCond .eq 20, 3) := by decide +kernel
theorem dX5_countWays_32 : decode cX5_countWays 32 = .ok (.iload_n 3, 1) := by decide +kernel
theorem dX5_countWays_33 : decode cX5_countWays 33 = .ok (.iconst 1, 1) := by decide +kernel
theorem dX5_countWays_34 : decode cX5_countWays 34 = .ok (.if_icmp .lt 15, 3) := by decide +kernel
theorem dX5_countWays_37 : decode cX5_countWays 37 = .ok (.iload_n 3, 1) := by decide +kernel
theorem dX5_countWays_38 : decode cX5_countWays 38 = .ok (.aload_n 0, 1) := by decide +kernel
theorem dX5_countWays_39 : decode cX5_countWays 39 = .ok (.getfield 18, 3) := by decide +kernel
theorem dX5_countWays_42 : decode cX5_countWays 42 = .ok (.if_icmp .gt 7, 3) := by decide +kernel
theorem dX5_countWays_45 : decode cX5_countWays 45 = .ok (.iconst 1, 1) := by decide +kernel
theorem dX5_countWays_46 : decode cX5_countWays 46 = .ok (.goto 4, 3) := by decide +kernel
theorem dX5_countWays_49 : decode cX5_countWays 49 = .ok (.iconst 0, 1) := by decide +kernel
theorem dX5_countWays_50 : decode cX5_countWays 50 = .ok (.ireturn, 1) := by decide +kernel
theorem dX5_learn_0 : decode cX5_learn 0 = .ok (.aload_n 0, 1) := by decide +kernel
theorem dX5_learn_1 : decode cX5_learn 1 = .ok (.iload_n 1, 1) := by decide +kernel
theorem dX5_learn_2 : decode cX5_learn 2 = .ok (.putfield 18, 3) := by decide +kernel
theorem dX5_learn_5 : decode cX5_learn 5 = .ok (.aload_n 0, 1) := by decide +kernel
theorem dX5_learn_6 : decode cX5_learn 6 = .ok (.iconst 0, 1) := by decide +kernel
theorem dX5_learn_7 : decode cX5_learn 7 = .ok (.putfield 9, 3) := by decide +kernel
theorem dX5_learn_10 : decode cX5_learn 10 = .ok (.aload_n 0, 1) := by decide +kernel
theorem dX5_learn_11 : decode cX5_learn 11 = .ok (.iconst 0, 1) := by decide +kernel
theorem dX5_learn_12 : decode cX5_learn 12 = .ok (.putfield 15, 3) := by decide +kernel
theorem dX5_learn_15 : decode cX5_learn 15 = .ok (.iconst 0, 1) := by decide +kernel
theorem dX5_learn_16 : decode cX5_learn 16 = .ok (.istore_n 2, 1) := by decide +kernel
theorem dX5_learn_17 : decode cX5_learn 17 = .ok (.iload_n 2, 1) := by decide +kernel
theorem dX5_learn_18 : decode cX5_learn 18 = .ok (.aload_n 0, 1) := by decide +kernel
theorem dX5_learn_19 : decode cX5_learn 19 = .ok (.getfield 21, 3) := by decide +kernel
theorem dX5_learn_22 : decode cX5_learn 22 = .ok (.getfield 45, 3) := by decide +kernel
theorem dX5_learn_25 : decode cX5_learn 25 = .ok (.if_icmp .ge 85, 3) := by decide +kernel
theorem dX5_learn_28 : decode cX5_learn 28 = .ok (.iload_n 2, 1) := by decide +kernel
theorem dX5_learn_29 : decode cX5_learn 29 = .ok (.aload_n 0, 1) := by decide +kernel
theorem dX5_learn_30 : decode cX5_learn 30 = .ok (.getfield 29, 3) := by decide +kernel
theorem dX5_learn_33 : decode cX5_learn 33 = .ok (.arraylength, 1) := by decide +kernel
theorem dX5_learn_34 : decode cX5_learn 34 = .ok (.if_icmp .ge 76, 3) := by decide +kernel
theorem dX5_learn_37 : decode cX5_learn 37 = .ok (.aload_n 0, 1) := by decide +kernel
theorem dX5_learn_38 : decode cX5_learn 38 = .ok (.getfield 29, 3) := by decide +kernel
theorem dX5_learn_41 : decode cX5_learn 41 = .ok (.iload_n 2, 1) := by decide +kernel
theorem dX5_learn_42 : decode cX5_learn 42 = .ok (.aload_n 0, 1) := by decide +kernel
theorem dX5_learn_43 : decode cX5_learn 43 = .ok (.iload_n 2, 1) := by decide +kernel
theorem dX5_learn_44 : decode cX5_learn 44 = .ok (.invokevirtual 48, 3) := by decide +kernel
theorem dX5_learn_47 : decode cX5_learn 47 = .ok (.iastore, 1) := by decide +kernel
theorem dX5_learn_48 : decode cX5_learn 48 = .ok (.aload_n 0, 1) := by decide +kernel
theorem dX5_learn_49 : decode cX5_learn 49 = .ok (.dup, 1) := by decide +kernel
theorem dX5_learn_50 : decode cX5_learn 50 = .ok (.getfield 15, 3) := by decide +kernel
theorem dX5_learn_53 : decode cX5_learn 53 = .ok (.aload_n 0, 1) := by decide +kernel
theorem dX5_learn_54 : decode cX5_learn 54 = .ok (.getfield 29, 3) := by decide +kernel
theorem dX5_learn_57 : decode cX5_learn 57 = .ok (.iload_n 2, 1) := by decide +kernel
theorem dX5_learn_58 : decode cX5_learn 58 = .ok (.iaload, 1) := by decide +kernel
theorem dX5_learn_59 : decode cX5_learn 59 = .ok (.iadd, 1) := by decide +kernel
theorem dX5_learn_60 : decode cX5_learn 60 = .ok (.putfield 15, 3) := by decide +kernel
theorem dX5_learn_63 : decode cX5_learn 63 = .ok (.aload_n 0, 1) := by decide +kernel
theorem dX5_learn_64 : decode cX5_learn 64 = .ok (.getfield 29, 3) := by decide +kernel
theorem dX5_learn_67 : decode cX5_learn 67 = .ok (.iload_n 2, 1) := by decide +kernel
theorem dX5_learn_68 : decode cX5_learn 68 = .ok (.iaload, 1) := by decide +kernel
theorem dX5_learn_69 : decode cX5_learn 69 = .ok (.ifCond .le 35, 3) := by decide +kernel
theorem dX5_learn_72 : decode cX5_learn 72 = .ok (.aload_n 0, 1) := by decide +kernel
theorem dX5_learn_73 : decode cX5_learn 73 = .ok (.getfield 9, 3) := by decide +kernel
theorem dX5_learn_76 : decode cX5_learn 76 = .ok (.aload_n 0, 1) := by decide +kernel
theorem dX5_learn_77 : decode cX5_learn 77 = .ok (.getfield 25, 3) := by decide +kernel
theorem dX5_learn_80 : decode cX5_learn 80 = .ok (.arraylength, 1) := by decide +kernel
theorem dX5_learn_81 : decode cX5_learn 81 = .ok (.if_icmp .ge 23, 3) := by decide +kernel
theorem dX5_learn_84 : decode cX5_learn 84 = .ok (.aload_n 0, 1) := by decide +kernel
theorem dX5_learn_85 : decode cX5_learn 85 = .ok (.getfield 25, 3) := by decide +kernel
theorem dX5_learn_88 : decode cX5_learn 88 = .ok (.aload_n 0, 1) := by decide +kernel
theorem dX5_learn_89 : decode cX5_learn 89 = .ok (.getfield 9, 3) := by decide +kernel
theorem dX5_learn_92 : decode cX5_learn 92 = .ok (.iload_n 2, 1) := by decide +kernel
theorem dX5_learn_93 : decode cX5_learn 93 = .ok (.iastore, 1) := by decide +kernel
theorem dX5_learn_94 : decode cX5_learn 94 = .ok (.aload_n 0, 1) := by decide +kernel
theorem dX5_learn_95 : decode cX5_learn 95 = .ok (.dup, 1) := by decide +kernel
theorem dX5_learn_96 : decode cX5_learn 96 = .ok (.getfield 9, 3) := by decide +kernel
theorem dX5_learn_99 : decode cX5_learn 99 = .ok (.iconst 1, 1) := by decide +kernel
theorem dX5_learn_100 : decode cX5_learn 100 = .ok (.iadd, 1) := by decide +kernel
theorem dX5_learn_101 : decode cX5_learn 101 = .ok (.putfield 9, 3) := by decide +kernel
theorem dX5_learn_104 : decode cX5_learn 104 = .ok (.iinc 2 1, 3) := by decide +kernel
theorem dX5_learn_107 : decode cX5_learn 107 = .ok (.goto (-90), 3) := by decide +kernel
theorem dX5_learn_110 : decode cX5_learn 110 = .ok (.return_, 1) := by decide +kernel
theorem dX5_timesOf_0 : decode cX5_timesOf 0 = .ok (.aload_n 0, 1) := by decide +kernel
theorem dX5_timesOf_1 : decode cX5_timesOf 1 = .ok (.getfield 21, 3) := by decide +kernel
theorem dX5_timesOf_4 : decode cX5_timesOf 4 = .ok (.iload_n 1, 1) := by decide +kernel
theorem dX5_timesOf_5 : decode cX5_timesOf 5 = .ok (.invokevirtual 52, 3) := by decide +kernel
theorem dX5_timesOf_8 : decode cX5_timesOf 8 = .ok (.ifCond .eq 21, 3) := by decide +kernel
theorem dX5_timesOf_11 : decode cX5_timesOf 11 = .ok (.iload_n 1, 1) := by decide +kernel
theorem dX5_timesOf_12 : decode cX5_timesOf 12 = .ok (.aload_n 0, 1) := by decide +kernel
theorem dX5_timesOf_13 : decode cX5_timesOf 13 = .ok (.getfield 29, 3) := by decide +kernel
theorem dX5_timesOf_16 : decode cX5_timesOf 16 = .ok (.arraylength, 1) := by decide +kernel
theorem dX5_timesOf_17 : decode cX5_timesOf 17 = .ok (.if_icmp .ge 12, 3) := by decide +kernel
theorem dX5_timesOf_20 : decode cX5_timesOf 20 = .ok (.aload_n 0, 1) := by decide +kernel
theorem dX5_timesOf_21 : decode cX5_timesOf 21 = .ok (.getfield 29, 3) := by decide +kernel
theorem dX5_timesOf_24 : decode cX5_timesOf 24 = .ok (.iload_n 1, 1) := by decide +kernel
theorem dX5_timesOf_25 : decode cX5_timesOf 25 = .ok (.iaload, 1) := by decide +kernel
theorem dX5_timesOf_26 : decode cX5_timesOf 26 = .ok (.goto 4, 3) := by decide +kernel
theorem dX5_timesOf_29 : decode cX5_timesOf 29 = .ok (.iconst 0, 1) := by decide +kernel
theorem dX5_timesOf_30 : decode cX5_timesOf 30 = .ok (.ireturn, 1) := by decide +kernel
theorem dX6_init_0 : decode cX6_init 0 = .ok (.aload_n 0, 1) := by decide +kernel
theorem dX6_init_1 : decode cX6_init 1 = .ok (.invokespecial 3, 3) := by decide +kernel
theorem dX6_init_4 : decode cX6_init 4 = .ok (.aload_n 0, 1) := by decide +kernel
theorem dX6_init_5 : decode cX6_init 5 = .ok (.iconst 5, 1) := by decide +kernel
theorem dX6_init_6 : decode cX6_init 6 = .ok (.newarray .int, 2) := by decide +kernel
theorem dX6_init_8 : decode cX6_init 8 = .ok (.putfield 9, 3) := by decide +kernel
theorem dX6_init_11 : decode cX6_init 11 = .ok (.aload_n 0, 1) := by decide +kernel
theorem dX6_init_12 : decode cX6_init 12 = .ok (.iconst 5, 1) := by decide +kernel
theorem dX6_init_13 : decode cX6_init 13 = .ok (.newarray .int, 2) := by decide +kernel
theorem dX6_init_15 : decode cX6_init 15 = .ok (.putfield 15, 3) := by decide +kernel
theorem dX6_init_18 : decode cX6_init 18 = .ok (.return_, 1) := by decide +kernel
theorem dX6_faultOf_0 : decode cX6_faultOf 0 = .ok (.aload_n 1, 1) := by decide +kernel
theorem dX6_faultOf_1 : decode cX6_faultOf 1 = .ok (.iconst 0, 1) := by decide +kernel
theorem dX6_faultOf_2 : decode cX6_faultOf 2 = .ok (.invokestatic 18, 3) := by decide +kernel
theorem dX6_faultOf_5 : decode cX6_faultOf 5 = .ok (.istore_n 2, 1) := by decide +kernel
theorem dX6_faultOf_6 : decode cX6_faultOf 6 = .ok (.aload_n 1, 1) := by decide +kernel
theorem dX6_faultOf_7 : decode cX6_faultOf 7 = .ok (.iload_n 2, 1) := by decide +kernel
theorem dX6_faultOf_8 : decode cX6_faultOf 8 = .ok (.invokestatic 22, 3) := by decide +kernel
theorem dX6_faultOf_11 : decode cX6_faultOf 11 = .ok (.bipush 119, 2) := by decide +kernel
theorem dX6_faultOf_13 : decode cX6_faultOf 13 = .ok (.if_icmp .eq 5, 3) := by decide +kernel
theorem dX6_faultOf_16 : decode cX6_faultOf 16 = .ok (.iload_n 2, 1) := by decide +kernel
theorem dX6_faultOf_17 : decode cX6_faultOf 17 = .ok (.ireturn, 1) := by decide +kernel
theorem dX6_faultOf_18 : decode cX6_faultOf 18 = .ok (.aload_n 0, 1) := by decide +kernel
theorem dX6_faultOf_19 : decode cX6_faultOf 19 = .ok (.aload_n 1, 1) := by decide +kernel
theorem dX6_faultOf_20 : decode cX6_faultOf 20 = .ok (.iload_n 2, 1) := by decide +kernel
theorem dX6_faultOf_21 : decode cX6_faultOf 21 = .ok (.iconst 1, 1) := by decide +kernel
theorem dX6_faultOf_22 : decode cX6_faultOf 22 = .ok (.iadd, 1) := by decide +kernel
theorem dX6_faultOf_23 : decode cX6_faultOf 23 = .ok (.iconst 1, 1) := by decide +kernel
theorem dX6_faultOf_24 : decode cX6_faultOf 24 = .ok (.iconst 3, 1) := by decide +kernel
theorem dX6_faultOf_25 : decode cX6_faultOf 25 = .ok (.invokestatic 25, 3) := by decide +kernel
theorem dX6_faultOf_28 : decode cX6_faultOf 28 = .ok (.putfield 29, 3) := by decide +kernel
theorem dX6_faultOf_31 : decode cX6_faultOf 31 = .ok (.aload_n 0, 1) := by decide +kernel
theorem dX6_faultOf_32 : decode cX6_faultOf 32 = .ok (.getfield 29, 3) := by decide +kernel
theorem dX6_faultOf_35 : decode cX6_faultOf 35 = .ok (.bipush (-9), 2) := by decide +kernel
theorem dX6_faultOf_37 : decode cX6_faultOf 37 = .ok (.if_icmp .ne 7, 3) := by decide +kernel
theorem dX6_faultOf_40 : decode cX6_faultOf 40 = .ok (.iload_n 2, 1) := by decide +kernel
theorem dX6_faultOf_41 : decode cX6_faultOf 41 = .ok (.iconst 1, 1) := by decide +kernel
theorem dX6_faultOf_42 : decode cX6_faultOf 42 = .ok (.iadd, 1) := by decide +kernel
theorem dX6_faultOf_43 : decode cX6_faultOf 43 = .ok (.ireturn, 1) := by decide +kernel
theorem dX6_faultOf_44 : decode cX6_faultOf 44 = .ok (.aload_n 0, 1) := by decide +kernel
theorem dX6_faultOf_45 : decode cX6_faultOf 45 = .ok (.aload_n 1, 1) := by decide +kernel
theorem dX6_faultOf_46 : decode cX6_faultOf 46 = .ok (.iload_n 2, 1) := by decide +kernel
theorem dX6_faultOf_47 : decode cX6_faultOf 47 = .ok (.iconst 2, 1) := by decide +kernel
theorem dX6_faultOf_48 : decode cX6_faultOf 48 = .ok (.iadd, 1) := by decide +kernel
theorem dX6_faultOf_49 : decode cX6_faultOf 49 = .ok (.iconst 4, 1) := by decide +kernel
theorem dX6_faultOf_50 : decode cX6_faultOf 50 = .ok (.bipush 6, 2) := by decide +kernel
theorem dX6_faultOf_52 : decode cX6_faultOf 52 = .ok (.invokestatic 25, 3) := by decide +kernel
theorem dX6_faultOf_55 : decode cX6_faultOf 55 = .ok (.putfield 33, 3) := by decide +kernel
theorem dX6_faultOf_58 : decode cX6_faultOf 58 = .ok (.aload_n 0, 1) := by decide +kernel
theorem dX6_faultOf_59 : decode cX6_faultOf 59 = .ok (.getfield 33, 3) := by decide +kernel
theorem dX6_faultOf_62 : decode cX6_faultOf 62 = .ok (.bipush (-9), 2) := by decide +kernel
theorem dX6_faultOf_64 : decode cX6_faultOf 64 = .ok (.if_icmp .ne 7, 3) := by decide +kernel
theorem dX6_faultOf_67 : decode cX6_faultOf 67 = .ok (.iload_n 2, 1) := by decide +kernel
theorem dX6_faultOf_68 : decode cX6_faultOf 68 = .ok (.iconst 2, 1) := by decide +kernel
theorem dX6_faultOf_69 : decode cX6_faultOf 69 = .ok (.iadd, 1) := by decide +kernel
theorem dX6_faultOf_70 : decode cX6_faultOf 70 = .ok (.ireturn, 1) := by decide +kernel
theorem dX6_faultOf_71 : decode cX6_faultOf 71 = .ok (.aload_n 0, 1) := by decide +kernel
theorem dX6_faultOf_72 : decode cX6_faultOf 72 = .ok (.aload_n 1, 1) := by decide +kernel
theorem dX6_faultOf_73 : decode cX6_faultOf 73 = .ok (.aload_n 1, 1) := by decide +kernel
theorem dX6_faultOf_74 : decode cX6_faultOf 74 = .ok (.iload_n 2, 1) := by decide +kernel
theorem dX6_faultOf_75 : decode cX6_faultOf 75 = .ok (.iconst 3, 1) := by decide +kernel
theorem dX6_faultOf_76 : decode cX6_faultOf 76 = .ok (.iadd, 1) := by decide +kernel
theorem dX6_faultOf_77 : decode cX6_faultOf 77 = .ok (.invokestatic 18, 3) := by decide +kernel
theorem dX6_faultOf_80 : decode cX6_faultOf 80 = .ok (.invokevirtual 36, 3) := by decide +kernel
theorem dX6_faultOf_83 : decode cX6_faultOf 83 = .ok (.ireturn, 1) := by decide +kernel
theorem dX6_personsFault_0 : decode cX6_personsFault 0 = .ok (.iload_n 2, 1) := by decide +kernel
theorem dX6_personsFault_1 : decode cX6_personsFault 1 = .ok (.istore_n 3, 1) := by decide +kernel
theorem dX6_personsFault_2 : decode cX6_personsFault 2 = .ok (.iconst 0, 1) := by decide +kernel
theorem dX6_personsFault_3 : decode cX6_personsFault 3 = .ok (.istore 4, 2) := by decide +kernel
theorem dX6_personsFault_5 : decode cX6_personsFault 5 = .ok (.iload 4, 2) := by decide +kernel
theorem dX6_personsFault_7 : decode cX6_personsFault 7 = .ok (.iconst 5, 1) := by decide +kernel
theorem dX6_personsFault_8 : decode cX6_personsFault 8 = .ok (.if_icmp .ge 106, 3) := by decide +kernel
theorem dX6_personsFault_11 : decode cX6_personsFault 11 = .ok (.iload_n 3, 1) := by decide +kernel
theorem dX6_personsFault_12 : decode cX6_personsFault 12 = .ok (.aload_n 1, 1) := by decide +kernel
theorem dX6_personsFault_13 : decode cX6_personsFault 13 = .ok (.getfield 39, 3) := by decide +kernel
theorem dX6_personsFault_16 : decode cX6_personsFault 16 = .ok (.if_icmp .lt 15, 3) := by decide +kernel
theorem dX6_personsFault_19 : decode cX6_personsFault 19 = .ok (.iload 4, 2) := by decide +kernel
theorem dX6_personsFault_21 : decode cX6_personsFault 21 = .ok (.ifCond .ne 7, 3) := by decide +kernel
theorem dX6_personsFault_24 : decode cX6_personsFault 24 = .ok (.iload_n 3, 1) := by decide +kernel
theorem dX6_personsFault_25 : decode cX6_personsFault 25 = .ok (.goto 5, 3) := by decide +kernel
theorem dX6_personsFault_28 : decode cX6_personsFault 28 = .ok (.bipush (-9), 2) := by decide +kernel
theorem dX6_personsFault_30 : decode cX6_personsFault 30 = .ok (.ireturn, 1) := by decide +kernel
theorem dX6_personsFault_31 : decode cX6_personsFault 31 = .ok (.aload_n 0, 1) := by decide +kernel
theorem dX6_personsFault_32 : decode cX6_personsFault 32 = .ok (.getfield 9, 3) := by decide +kernel
theorem dX6_personsFault_35 : decode cX6_personsFault 35 = .ok (.iload 4, 2) := by decide +kernel
theorem dX6_personsFault_37 : decode cX6_personsFault 37 = .ok (.aload_n 1, 1) := by decide +kernel
theorem dX6_personsFault_38 : decode cX6_personsFault 38 = .ok (.iload_n 3, 1) := by decide +kernel
theorem dX6_personsFault_39 : decode cX6_personsFault 39 = .ok (.invokestatic 22, 3) := by decide +kernel
theorem dX6_personsFault_42 : decode cX6_personsFault 42 = .ok (.invokestatic 44, 3) := by decide +kernel
theorem dX6_personsFault_45 : decode cX6_personsFault 45 = .ok (.iastore, 1) := by decide +kernel
theorem dX6_personsFault_46 : decode cX6_personsFault 46 = .ok (.aload_n 0, 1) := by decide +kernel
theorem dX6_personsFault_47 : decode cX6_personsFault 47 = .ok (.getfield 9, 3) := by decide +kernel
theorem dX6_personsFault_50 : decode cX6_personsFault 50 = .ok (.iload 4, 2) := by decide +kernel
theorem dX6_personsFault_52 : decode cX6_personsFault 52 = .ok (.iaload, 1) := by decide +kernel
theorem dX6_personsFault_53 : decode cX6_personsFault 53 = .ok (.bipush (-9), 2) := by decide +kernel
theorem dX6_personsFault_55 : decode cX6_personsFault 55 = .ok (.if_icmp .ne 5, 3) := by decide +kernel
theorem dX6_personsFault_58 : decode cX6_personsFault 58 = .ok (.iload_n 3, 1) := by decide +kernel
theorem dX6_personsFault_59 : decode cX6_personsFault 59 = .ok (.ireturn, 1) := by decide +kernel
theorem dX6_personsFault_60 : decode cX6_personsFault 60 = .ok (.aload_n 0, 1) := by decide +kernel
theorem dX6_personsFault_61 : decode cX6_personsFault 61 = .ok (.getfield 15, 3) := by decide +kernel
theorem dX6_personsFault_64 : decode cX6_personsFault 64 = .ok (.iload 4, 2) := by decide +kernel
theorem dX6_personsFault_66 : decode cX6_personsFault 66 = .ok (.aload_n 1, 1) := by decide +kernel
theorem dX6_personsFault_67 : decode cX6_personsFault 67 = .ok (.iload_n 3, 1) := by decide +kernel
theorem dX6_personsFault_68 : decode cX6_personsFault 68 = .ok (.iconst 1, 1) := by decide +kernel
theorem dX6_personsFault_69 : decode cX6_personsFault 69 = .ok (.iadd, 1) := by decide +kernel
theorem dX6_personsFault_70 : decode cX6_personsFault 70 = .ok (.iconst 1, 1) := by decide +kernel
theorem dX6_personsFault_71 : decode cX6_personsFault 71 = .ok (.iconst 3, 1) := by decide +kernel
theorem dX6_personsFault_72 : decode cX6_personsFault 72 = .ok (.invokestatic 25, 3) := by decide +kernel
theorem dX6_personsFault_75 : decode cX6_personsFault 75 = .ok (.iastore, 1) := by decide +kernel
theorem dX6_personsFault_76 : decode cX6_personsFault 76 = .ok (.aload_n 0, 1) := by decide +kernel
theorem dX6_personsFault_77 : decode cX6_personsFault 77 = .ok (.getfield 15, 3) := by decide +kernel
theorem dX6_personsFault_80 : decode cX6_personsFault 80 = .ok (.iload 4, 2) := by decide +kernel
theorem dX6_personsFault_82 : decode cX6_personsFault 82 = .ok (.iaload, 1) := by decide +kernel
theorem dX6_personsFault_83 : decode cX6_personsFault 83 = .ok (.bipush (-9), 2) := by decide +kernel
theorem dX6_personsFault_85 : decode cX6_personsFault 85 = .ok (.if_icmp .ne 7, 3) := by decide +kernel
theorem dX6_personsFault_88 : decode cX6_personsFault 88 = .ok (.iload_n 3, 1) := by decide +kernel
theorem dX6_personsFault_89 : decode cX6_personsFault 89 = .ok (.iconst 1, 1) := by decide +kernel
theorem dX6_personsFault_90 : decode cX6_personsFault 90 = .ok (.iadd, 1) := by decide +kernel
theorem dX6_personsFault_91 : decode cX6_personsFault 91 = .ok (.ireturn, 1) := by decide +kernel
theorem dX6_personsFault_92 : decode cX6_personsFault 92 = .ok (.aload_n 0, 1) := by decide +kernel
theorem dX6_personsFault_93 : decode cX6_personsFault 93 = .ok (.iload 4, 2) := by decide +kernel
theorem dX6_personsFault_95 : decode cX6_personsFault 95 = .ok (.iconst 1, 1) := by decide +kernel
theorem dX6_personsFault_96 : decode cX6_personsFault 96 = .ok (.iadd, 1) := by decide +kernel
theorem dX6_personsFault_97 : decode cX6_personsFault 97 = .ok (.putfield 48, 3) := by decide +kernel
theorem dX6_personsFault_100 : decode cX6_personsFault 100 = .ok (.aload_n 1, 1) := by decide +kernel
theorem dX6_personsFault_101 : decode cX6_personsFault 101 = .ok (.iload_n 3, 1) := by decide +kernel
theorem dX6_personsFault_102 : decode cX6_personsFault 102 = .ok (.iconst 2, 1) := by decide +kernel
theorem dX6_personsFault_103 : decode cX6_personsFault 103 = .ok (.iadd, 1) := by decide +kernel
theorem dX6_personsFault_104 : decode cX6_personsFault 104 = .ok (.invokestatic 18, 3) := by decide +kernel
theorem dX6_personsFault_107 : decode cX6_personsFault 107 = .ok (.istore_n 3, 1) := by decide +kernel
theorem dX6_personsFault_108 : decode cX6_personsFault 108 = .ok (.iinc 4 1, 3) := by decide +kernel
theorem dX6_personsFault_111 : decode cX6_personsFault 111 = .ok (.goto (-106), 3) := by decide +kernel
theorem dX6_personsFault_114 : decode cX6_personsFault 114 = .ok (.iload_n 3, 1) := by decide +kernel
theorem dX6_personsFault_115 : decode cX6_personsFault 115 = .ok (.aload_n 1, 1) := by decide +kernel
theorem dX6_personsFault_116 : decode cX6_personsFault 116 = .ok (.getfield 39, 3) := by decide +kernel
theorem dX6_personsFault_119 : decode cX6_personsFault 119 = .ok (.if_icmp .lt 8, 3) := by decide +kernel
theorem dX6_personsFault_122 : decode cX6_personsFault 122 = .ok (.bipush (-9), 2) := by decide +kernel
theorem dX6_personsFault_124 : decode cX6_personsFault 124 = .ok (.goto 4, 3) := by decide +kernel
theorem dX6_personsFault_127 : decode cX6_personsFault 127 = .ok (.iload_n 3, 1) := by decide +kernel
theorem dX6_personsFault_128 : decode cX6_personsFault 128 = .ok (.ireturn, 1) := by decide +kernel
theorem dX6_behindBlanks_0 : decode cX6_behindBlanks 0 = .ok (.iload_n 1, 1) := by decide +kernel
theorem dX6_behindBlanks_1 : decode cX6_behindBlanks 1 = .ok (.istore_n 2, 1) := by decide +kernel
theorem dX6_behindBlanks_2 : decode cX6_behindBlanks 2 = .ok (.iload_n 2, 1) := by decide +kernel
theorem dX6_behindBlanks_3 : decode cX6_behindBlanks 3 = .ok (.aload_n 0, 1) := by decide +kernel
theorem dX6_behindBlanks_4 : decode cX6_behindBlanks 4 = .ok (.getfield 39, 3) := by decide +kernel
theorem dX6_behindBlanks_7 : decode cX6_behindBlanks 7 = .ok (.if_icmp .ge 19, 3) := by decide +kernel
theorem dX6_behindBlanks_10 : decode cX6_behindBlanks 10 = .ok (.aload_n 0, 1) := by decide +kernel
theorem dX6_behindBlanks_11 : decode cX6_behindBlanks 11 = .ok (.iload_n 2, 1) := by decide +kernel
theorem dX6_behindBlanks_12 : decode cX6_behindBlanks 12 = .ok (.invokestatic 22, 3) := by decide +kernel
theorem dX6_behindBlanks_15 : decode cX6_behindBlanks 15 = .ok (.bipush 32, 2) := by decide +kernel
theorem dX6_behindBlanks_17 : decode cX6_behindBlanks 17 = .ok (.if_icmp .ne 9, 3) := by decide +kernel
theorem dX6_behindBlanks_20 : decode cX6_behindBlanks 20 = .ok (.iinc 2 1, 3) := by decide +kernel
theorem dX6_behindBlanks_23 : decode cX6_behindBlanks 23 = .ok (.goto (-21), 3) := by decide +kernel
theorem dX6_behindBlanks_26 : decode cX6_behindBlanks 26 = .ok (.iload_n 2, 1) := by decide +kernel
theorem dX6_behindBlanks_27 : decode cX6_behindBlanks 27 = .ok (.ireturn, 1) := by decide +kernel
theorem dX6_signAt_0 : decode cX6_signAt 0 = .ok (.aload_n 0, 1) := by decide +kernel
theorem dX6_signAt_1 : decode cX6_signAt 1 = .ok (.iload_n 1, 1) := by decide +kernel
theorem dX6_signAt_2 : decode cX6_signAt 2 = .ok (.invokevirtual 51, 3) := by decide +kernel
theorem dX6_signAt_5 : decode cX6_signAt 5 = .ok (.ifCond .eq 12, 3) := by decide +kernel
theorem dX6_signAt_8 : decode cX6_signAt 8 = .ok (.aload_n 0, 1) := by decide +kernel
theorem dX6_signAt_9 : decode cX6_signAt 9 = .ok (.getfield 55, 3) := by decide +kernel
theorem dX6_signAt_12 : decode cX6_signAt 12 = .ok (.iload_n 1, 1) := by decide +kernel
theorem dX6_signAt_13 : decode cX6_signAt 13 = .ok (.iaload, 1) := by decide +kernel
theorem dX6_signAt_14 : decode cX6_signAt 14 = .ok (.goto 6, 3) := by decide +kernel
theorem dX6_signAt_17 : decode cX6_signAt 17 = .ok (.sipush 1000, 3) := by decide +kernel
theorem dX6_signAt_20 : decode cX6_signAt 20 = .ok (.ireturn, 1) := by decide +kernel
theorem dX6_figureAt_0 : decode cX6_figureAt 0 = .ok (.aload_n 0, 1) := by decide +kernel
theorem dX6_figureAt_1 : decode cX6_figureAt 1 = .ok (.iload_n 1, 1) := by decide +kernel
theorem dX6_figureAt_2 : decode cX6_figureAt 2 = .ok (.invokestatic 22, 3) := by decide +kernel
theorem dX6_figureAt_5 : decode cX6_figureAt 5 = .ok (.bipush 48, 2) := by decide +kernel
theorem dX6_figureAt_7 : decode cX6_figureAt 7 = .ok (.isub, 1) := by decide +kernel
theorem dX6_figureAt_8 : decode cX6_figureAt 8 = .ok (.istore 4, 2) := by decide +kernel
theorem dX6_figureAt_10 : decode cX6_figureAt 10 = .ok (.iload 4, 2) := by decide +kernel
theorem dX6_figureAt_12 : decode cX6_figureAt 12 = .ok (.iload_n 2, 1) := by decide +kernel
theorem dX6_figureAt_13 : decode cX6_figureAt 13 = .ok (.if_icmp .lt 9, 3) := by decide +kernel
theorem dX6_figureAt_16 : decode cX6_figureAt 16 = .ok (.iload 4, 2) := by decide +kernel
theorem dX6_figureAt_18 : decode cX6_figureAt 18 = .ok (.iload_n 3, 1) := by decide +kernel
theorem dX6_figureAt_19 : decode cX6_figureAt 19 = .ok (.if_icmp .le 8, 3) := by decide +kernel
theorem dX6_figureAt_22 : decode cX6_figureAt 22 = .ok (.bipush (-9), 2) := by decide +kernel
theorem dX6_figureAt_24 : decode cX6_figureAt 24 = .ok (.goto 5, 3) := by decide +kernel
theorem dX6_figureAt_27 : decode cX6_figureAt 27 = .ok (.iload 4, 2) := by decide +kernel
theorem dX6_figureAt_29 : decode cX6_figureAt 29 = .ok (.ireturn, 1) := by decide +kernel
theorem dX6_kindOf_0 : decode cX6_kindOf 0 = .ok (.iload_n 0, 1) := by decide +kernel
theorem dX6_kindOf_1 : decode cX6_kindOf 1 = .ok (.tableswitch 91 97 112 #[83, 85, 91, 91, 81, 91, 91, 91, 91, 91, 91, 89, 91, 91, 87, 79], 79) := by decide +kernel
theorem dX6_kindOf_80 : decode cX6_kindOf 80 = .ok (.iconst 0, 1) := by decide +kernel
theorem dX6_kindOf_81 : decode cX6_kindOf 81 = .ok (.ireturn, 1) := by decide +kernel
theorem dX6_kindOf_82 : decode cX6_kindOf 82 = .ok (.iconst 1, 1) := by decide +kernel
theorem dX6_kindOf_83 : decode cX6_kindOf 83 = .ok (.ireturn, 1) := by decide +kernel
theorem dX6_kindOf_84 : decode cX6_kindOf 84 = .ok (.iconst 2, 1) := by decide +kernel
theorem dX6_kindOf_85 : decode cX6_kindOf 85 = .ok (.ireturn, 1) := by decide +kernel
theorem dX6_kindOf_86 : decode cX6_kindOf 86 = .ok (.iconst 3, 1) := by decide +kernel
theorem dX6_kindOf_87 : decode cX6_kindOf 87 = .ok (.ireturn, 1) := by decide +kernel
theorem dX6_kindOf_88 : decode cX6_kindOf 88 = .ok (.iconst 4, 1) := by decide +kernel
theorem dX6_kindOf_89 : decode cX6_kindOf 89 = .ok (.ireturn, 1) := by decide +kernel
theorem dX6_kindOf_90 : decode cX6_kindOf 90 = .ok (.iconst 5, 1) := by decide +kernel
theorem dX6_kindOf_91 : decode cX6_kindOf 91 = .ok (.ireturn, 1) := by decide +kernel
theorem dX6_kindOf_92 : decode cX6_kindOf 92 = .ok (.bipush (-9), 2) := by decide +kernel
theorem dX6_kindOf_94 : decode cX6_kindOf 94 = .ok (.ireturn, 1) := by decide +kernel
theorem dX7_init_0 : decode cX7_init 0 = .ok (.aload_n 0, 1) := by decide +kernel
theorem dX7_init_1 : decode cX7_init 1 = .ok (.invokespecial 3, 3) := by decide +kernel
theorem dX7_init_4 : decode cX7_init 4 = .ok (.aload_n 0, 1) := by decide +kernel
theorem dX7_init_5 : decode cX7_init 5 = .ok (.iconst (-1), 1) := by decide +kernel
theorem dX7_init_6 : decode cX7_init 6 = .ok (.putfield 9, 3) := by decide +kernel
theorem dX7_init_9 : decode cX7_init 9 = .ok (.aload_n 0, 1) := by decide +kernel
theorem dX7_init_10 : decode cX7_init 10 = .ok (.iconst 0, 1) := by decide +kernel
theorem dX7_init_11 : decode cX7_init 11 = .ok (.iload_n 1, 1) := by decide +kernel
theorem dX7_init_12 : decode cX7_init 12 = .ok (.invokestatic 15, 3) := by decide +kernel
theorem dX7_init_15 : decode cX7_init 15 = .ok (.newarray .int, 2) := by decide +kernel
theorem dX7_init_17 : decode cX7_init 17 = .ok (.putfield 21, 3) := by decide +kernel
theorem dX7_init_20 : decode cX7_init 20 = .ok (.return_, 1) := by decide +kernel
theorem dX7_isMissing_0 : decode cX7_isMissing 0 = .ok (.aload_n 0, 1) := by decide +kernel
theorem dX7_isMissing_1 : decode cX7_isMissing 1 = .ok (.getfield 9, 3) := by decide +kernel
theorem dX7_isMissing_4 : decode cX7_isMissing 4 = .ok (.ifCond .ge 7, 3) := by decide +kernel
theorem dX7_isMissing_7 : decode cX7_isMissing 7 = .ok (.iconst 1, 1) := by decide +kernel
theorem dX7_isMissing_8 : decode cX7_isMissing 8 = .ok (.goto 4, 3) := by decide +kernel
theorem dX7_isMissing_11 : decode cX7_isMissing 11 = .ok (.iconst 0, 1) := by decide +kernel
theorem dX7_isMissing_12 : decode cX7_isMissing 12 = .ok (.ireturn, 1) := by decide +kernel
theorem dX7_has_0 : decode cX7_has 0 = .ok (.iload_n 1, 1) := by decide +kernel
theorem dX7_has_1 : decode cX7_has 1 = .ok (.ifCond .lt 15, 3) := by decide +kernel
theorem dX7_has_4 : decode cX7_has 4 = .ok (.iload_n 1, 1) := by decide +kernel
theorem dX7_has_5 : decode cX7_has 5 = .ok (.aload_n 0, 1) := by decide +kernel
theorem dX7_has_6 : decode cX7_has 6 = .ok (.getfield 9, 3) := by decide +kernel
theorem dX7_has_9 : decode cX7_has 9 = .ok (.if_icmp .ge 7, 3) := by decide +kernel
theorem dX7_has_12 : decode cX7_has 12 = .ok (.iconst 1, 1) := by decide +kernel
theorem dX7_has_13 : decode cX7_has 13 = .ok (.goto 4, 3) := by decide +kernel
theorem dX7_has_16 : decode cX7_has 16 = .ok (.iconst 0, 1) := by decide +kernel
theorem dX7_has_17 : decode cX7_has 17 = .ok (.ireturn, 1) := by decide +kernel
theorem dX7_hasRun_0 : decode cX7_hasRun 0 = .ok (.iload_n 1, 1) := by decide +kernel
theorem dX7_hasRun_1 : decode cX7_hasRun 1 = .ok (.ifCond .lt 21, 3) := by decide +kernel
theorem dX7_hasRun_4 : decode cX7_hasRun 4 = .ok (.iload_n 2, 1) := by decide +kernel
theorem dX7_hasRun_5 : decode cX7_hasRun 5 = .ok (.ifCond .lt 17, 3) := by decide +kernel
theorem dX7_hasRun_8 : decode cX7_hasRun 8 = .ok (.iload_n 2, 1) := by decide +kernel
theorem dX7_hasRun_9 : decode cX7_hasRun 9 = .ok (.aload_n 0, 1) := by decide +kernel
theorem dX7_hasRun_10 : decode cX7_hasRun 10 = .ok (.getfield 9, 3) := by decide +kernel
theorem dX7_hasRun_13 : decode cX7_hasRun 13 = .ok (.iload_n 1, 1) := by decide +kernel
theorem dX7_hasRun_14 : decode cX7_hasRun 14 = .ok (.isub, 1) := by decide +kernel
theorem dX7_hasRun_15 : decode cX7_hasRun 15 = .ok (.if_icmp .gt 7, 3) := by decide +kernel
theorem dX7_hasRun_18 : decode cX7_hasRun 18 = .ok (.iconst 1, 1) := by decide +kernel
theorem dX7_hasRun_19 : decode cX7_hasRun 19 = .ok (.goto 4, 3) := by decide +kernel
theorem dX7_hasRun_22 : decode cX7_hasRun 22 = .ok (.iconst 0, 1) := by decide +kernel
theorem dX7_hasRun_23 : decode cX7_hasRun 23 = .ok (.ireturn, 1) := by decide +kernel
theorem dX7_make_0 : decode cX7_make 0 = .ok (.aload_n 0, 1) := by decide +kernel
theorem dX7_make_1 : decode cX7_make 1 = .ok (.iload_n 1, 1) := by decide +kernel
theorem dX7_make_2 : decode cX7_make 2 = .ok (.aload_n 0, 1) := by decide +kernel
theorem dX7_make_3 : decode cX7_make 3 = .ok (.getfield 21, 3) := by decide +kernel
theorem dX7_make_6 : decode cX7_make 6 = .ok (.arraylength, 1) := by decide +kernel
theorem dX7_make_7 : decode cX7_make 7 = .ok (.invokestatic 25, 3) := by decide +kernel
theorem dX7_make_10 : decode cX7_make 10 = .ok (.putfield 9, 3) := by decide +kernel
theorem dX7_make_13 : decode cX7_make 13 = .ok (.iconst 0, 1) := by decide +kernel
theorem dX7_make_14 : decode cX7_make 14 = .ok (.istore_n 3, 1) := by decide +kernel
theorem dX7_make_15 : decode cX7_make 15 = .ok (.iload_n 3, 1) := by decide +kernel
theorem dX7_make_16 : decode cX7_make 16 = .ok (.aload_n 0, 1) := by decide +kernel
theorem dX7_make_17 : decode cX7_make 17 = .ok (.getfield 9, 3) := by decide +kernel
theorem dX7_make_20 : decode cX7_make 20 = .ok (.if_icmp .ge 16, 3) := by decide +kernel
theorem dX7_make_23 : decode cX7_make 23 = .ok (.aload_n 0, 1) := by decide +kernel
theorem dX7_make_24 : decode cX7_make 24 = .ok (.getfield 21, 3) := by decide +kernel
theorem dX7_make_27 : decode cX7_make 27 = .ok (.iload_n 3, 1) := by decide +kernel
theorem dX7_make_28 : decode cX7_make 28 = .ok (.iload_n 2, 1) := by decide +kernel
theorem dX7_make_29 : decode cX7_make 29 = .ok (.iastore, 1) := by decide +kernel
theorem dX7_make_30 : decode cX7_make 30 = .ok (.iinc 3 1, 3) := by decide +kernel
theorem dX7_make_33 : decode cX7_make 33 = .ok (.goto (-18), 3) := by decide +kernel
theorem dX7_make_36 : decode cX7_make 36 = .ok (.return_, 1) := by decide +kernel
theorem dX7_sum_0 : decode cX7_sum 0 = .ok (.lconst 0, 1) := by decide +kernel
theorem dX7_sum_1 : decode cX7_sum 1 = .ok (.lstore_n 1, 1) := by decide +kernel
theorem dX7_sum_2 : decode cX7_sum 2 = .ok (.iconst 0, 1) := by decide +kernel
theorem dX7_sum_3 : decode cX7_sum 3 = .ok (.istore_n 3, 1) := by decide +kernel
theorem dX7_sum_4 : decode cX7_sum 4 = .ok (.iload_n 3, 1) := by decide +kernel
theorem dX7_sum_5 : decode cX7_sum 5 = .ok (.aload_n 0, 1) := by decide +kernel
theorem dX7_sum_6 : decode cX7_sum 6 = .ok (.getfield 9, 3) := by decide +kernel
theorem dX7_sum_9 : decode cX7_sum 9 = .ok (.if_icmp .ge 19, 3) := by decide +kernel
theorem dX7_sum_12 : decode cX7_sum 12 = .ok (.lload_n 1, 1) := by decide +kernel
theorem dX7_sum_13 : decode cX7_sum 13 = .ok (.aload_n 0, 1) := by decide +kernel
theorem dX7_sum_14 : decode cX7_sum 14 = .ok (.getfield 21, 3) := by decide +kernel
theorem dX7_sum_17 : decode cX7_sum 17 = .ok (.iload_n 3, 1) := by decide +kernel
theorem dX7_sum_18 : decode cX7_sum 18 = .ok (.iaload, 1) := by decide +kernel
theorem dX7_sum_19 : decode cX7_sum 19 = .ok (.i2l, 1) := by decide +kernel
theorem dX7_sum_20 : decode cX7_sum 20 = .ok (.ladd, 1) := by decide +kernel
theorem dX7_sum_21 : decode cX7_sum 21 = .ok (.lstore_n 1, 1) := by decide +kernel
theorem dX7_sum_22 : decode cX7_sum 22 = .ok (.iinc 3 1, 3) := by decide +kernel
theorem dX7_sum_25 : decode cX7_sum 25 = .ok (.goto (-21), 3) := by decide +kernel
theorem dX7_sum_28 : decode cX7_sum 28 = .ok (.lload_n 1, 1) := by decide +kernel
theorem dX7_sum_29 : decode cX7_sum 29 = .ok (.lreturn, 1) := by decide +kernel
theorem dX9_init_0 : decode cX9_init 0 = .ok (.aload_n 0, 1) := by decide +kernel
theorem dX9_init_1 : decode cX9_init 1 = .ok (.invokespecial 3, 3) := by decide +kernel
theorem dX9_init_4 : decode cX9_init 4 = .ok (.aload_n 0, 1) := by decide +kernel
theorem dX9_init_5 : decode cX9_init 5 = .ok (.iconst 5, 1) := by decide +kernel
theorem dX9_init_6 : decode cX9_init 6 = .ok (.newarray .int, 2) := by decide +kernel
theorem dX9_init_8 : decode cX9_init 8 = .ok (.putfield 9, 3) := by decide +kernel
theorem dX9_init_11 : decode cX9_init 11 = .ok (.aload_n 0, 1) := by decide +kernel
theorem dX9_init_12 : decode cX9_init 12 = .ok (.bipush 16, 2) := by decide +kernel
theorem dX9_init_14 : decode cX9_init 14 = .ok (.newarray .int, 2) := by decide +kernel
theorem dX9_init_16 : decode cX9_init 16 = .ok (.putfield 15, 3) := by decide +kernel
theorem dX9_init_19 : decode cX9_init 19 = .ok (.aload_n 0, 1) := by decide +kernel
theorem dX9_init_20 : decode cX9_init 20 = .ok (.bipush 16, 2) := by decide +kernel
theorem dX9_init_22 : decode cX9_init 22 = .ok (.newarray .int, 2) := by decide +kernel
theorem dX9_init_24 : decode cX9_init 24 = .ok (.putfield 18, 3) := by decide +kernel
theorem dX9_init_27 : decode cX9_init 27 = .ok (.aload_n 0, 1) := by decide +kernel
theorem dX9_init_28 : decode cX9_init 28 = .ok (.iload_n 1, 1) := by decide +kernel
theorem dX9_init_29 : decode cX9_init 29 = .ok (.putfield 21, 3) := by decide +kernel
theorem dX9_init_32 : decode cX9_init 32 = .ok (.return_, 1) := by decide +kernel
theorem dX9_isFull_0 : decode cX9_isFull 0 = .ok (.aload_n 0, 1) := by decide +kernel
theorem dX9_isFull_1 : decode cX9_isFull 1 = .ok (.getfield 21, 3) := by decide +kernel
theorem dX9_isFull_4 : decode cX9_isFull 4 = .ok (.bipush 16, 2) := by decide +kernel
theorem dX9_isFull_6 : decode cX9_isFull 6 = .ok (.if_icmp .lt 7, 3) := by decide +kernel
theorem dX9_isFull_9 : decode cX9_isFull 9 = .ok (.iconst 1, 1) := by decide +kernel
theorem dX9_isFull_10 : decode cX9_isFull 10 = .ok (.goto 4, 3) := by decide +kernel
theorem dX9_isFull_13 : decode cX9_isFull 13 = .ok (.iconst 0, 1) := by decide +kernel
theorem dX9_isFull_14 : decode cX9_isFull 14 = .ok (.ireturn, 1) := by decide +kernel
theorem dX9_add_0 : decode cX9_add 0 = .ok (.aload_n 0, 1) := by decide +kernel
theorem dX9_add_1 : decode cX9_add 1 = .ok (.getfield 21, 3) := by decide +kernel
theorem dX9_add_4 : decode cX9_add 4 = .ok (.ifCond .lt 40, 3) := by decide +kernel
theorem dX9_add_7 : decode cX9_add 7 = .ok (.aload_n 0, 1) := by decide +kernel
theorem dX9_add_8 : decode cX9_add 8 = .ok (.invokevirtual 25, 3) := by decide +kernel
theorem dX9_add_11 : decode cX9_add 11 = .ok (.ifCond .ne 33, 3) := by decide +kernel
theorem dX9_add_14 : decode cX9_add 14 = .ok (.aload_n 0, 1) := by decide +kernel
theorem dX9_add_15 : decode cX9_add 15 = .ok (.getfield 15, 3) := by decide +kernel
theorem dX9_add_18 : decode cX9_add 18 = .ok (.aload_n 0, 1) := by decide +kernel
theorem dX9_add_19 : decode cX9_add 19 = .ok (.getfield 21, 3) := by decide +kernel
theorem dX9_add_22 : decode cX9_add 22 = .ok (.iload_n 1, 1) := by decide +kernel
theorem dX9_add_23 : decode cX9_add 23 = .ok (.iastore, 1) := by decide +kernel
theorem dX9_add_24 : decode cX9_add 24 = .ok (.aload_n 0, 1) := by decide +kernel
theorem dX9_add_25 : decode cX9_add 25 = .ok (.getfield 18, 3) := by decide +kernel
theorem dX9_add_28 : decode cX9_add 28 = .ok (.aload_n 0, 1) := by decide +kernel
theorem dX9_add_29 : decode cX9_add 29 = .ok (.getfield 21, 3) := by decide +kernel
theorem dX9_add_32 : decode cX9_add 32 = .ok (.iload_n 2, 1) := by decide +kernel
theorem dX9_add_33 : decode cX9_add 33 = .ok (.iastore, 1) := by decide +kernel
theorem dX9_add_34 : decode cX9_add 34 = .ok (.aload_n 0, 1) := by decide +kernel
theorem dX9_add_35 : decode cX9_add 35 = .ok (.dup, 1) := by decide +kernel
theorem dX9_add_36 : decode cX9_add 36 = .ok (.getfield 21, 3) := by decide +kernel
theorem dX9_add_39 : decode cX9_add 39 = .ok (.iconst 1, 1) := by decide +kernel
theorem dX9_add_40 : decode cX9_add 40 = .ok (.iadd, 1) := by decide +kernel
theorem dX9_add_41 : decode cX9_add 41 = .ok (.putfield 21, 3) := by decide +kernel
theorem dX9_add_44 : decode cX9_add 44 = .ok (.return_, 1) := by decide +kernel
theorem dX9_takeFrom_0 : decode cX9_takeFrom 0 = .ok (.aload_n 0, 1) := by decide +kernel
theorem dX9_takeFrom_1 : decode cX9_takeFrom 1 = .ok (.aload_n 1, 1) := by decide +kernel
theorem dX9_takeFrom_2 : decode cX9_takeFrom 2 = .ok (.getfield 21, 3) := by decide +kernel
theorem dX9_takeFrom_5 : decode cX9_takeFrom 5 = .ok (.putfield 21, 3) := by decide +kernel
theorem dX9_takeFrom_8 : decode cX9_takeFrom 8 = .ok (.aload_n 1, 1) := by decide +kernel
theorem dX9_takeFrom_9 : decode cX9_takeFrom 9 = .ok (.getfield 9, 3) := by decide +kernel
theorem dX9_takeFrom_12 : decode cX9_takeFrom 12 = .ok (.iconst 0, 1) := by decide +kernel
theorem dX9_takeFrom_13 : decode cX9_takeFrom 13 = .ok (.aload_n 0, 1) := by decide +kernel
theorem dX9_takeFrom_14 : decode cX9_takeFrom 14 = .ok (.getfield 9, 3) := by decide +kernel
theorem dX9_takeFrom_17 : decode cX9_takeFrom 17 = .ok (.iconst 0, 1) := by decide +kernel
theorem dX9_takeFrom_18 : decode cX9_takeFrom 18 = .ok (.iconst 5, 1) := by decide +kernel
theorem dX9_takeFrom_19 : decode cX9_takeFrom 19 = .ok (.invokestatic 29, 3) := by decide +kernel
theorem dX9_takeFrom_22 : decode cX9_takeFrom 22 = .ok (.aload_n 1, 1) := by decide +kernel
theorem dX9_takeFrom_23 : decode cX9_takeFrom 23 = .ok (.getfield 15, 3) := by decide +kernel
theorem dX9_takeFrom_26 : decode cX9_takeFrom 26 = .ok (.iconst 0, 1) := by decide +kernel
theorem dX9_takeFrom_27 : decode cX9_takeFrom 27 = .ok (.aload_n 0, 1) := by decide +kernel
theorem dX9_takeFrom_28 : decode cX9_takeFrom 28 = .ok (.getfield 15, 3) := by decide +kernel
theorem dX9_takeFrom_31 : decode cX9_takeFrom 31 = .ok (.iconst 0, 1) := by decide +kernel
theorem dX9_takeFrom_32 : decode cX9_takeFrom 32 = .ok (.bipush 16, 2) := by decide +kernel
theorem dX9_takeFrom_34 : decode cX9_takeFrom 34 = .ok (.invokestatic 29, 3) := by decide +kernel
theorem dX9_takeFrom_37 : decode cX9_takeFrom 37 = .ok (.aload_n 1, 1) := by decide +kernel
theorem dX9_takeFrom_38 : decode cX9_takeFrom 38 = .ok (.getfield 18, 3) := by decide +kernel
theorem dX9_takeFrom_41 : decode cX9_takeFrom 41 = .ok (.iconst 0, 1) := by decide +kernel
theorem dX9_takeFrom_42 : decode cX9_takeFrom 42 = .ok (.aload_n 0, 1) := by decide +kernel
theorem dX9_takeFrom_43 : decode cX9_takeFrom 43 = .ok (.getfield 18, 3) := by decide +kernel
theorem dX9_takeFrom_46 : decode cX9_takeFrom 46 = .ok (.iconst 0, 1) := by decide +kernel
theorem dX9_takeFrom_47 : decode cX9_takeFrom 47 = .ok (.bipush 16, 2) := by decide +kernel
theorem dX9_takeFrom_49 : decode cX9_takeFrom 49 = .ok (.invokestatic 29, 3) := by decide +kernel
theorem dX9_takeFrom_52 : decode cX9_takeFrom 52 = .ok (.return_, 1) := by decide +kernel
theorem dX9_looksAt_0 : decode cX9_looksAt 0 = .ok (.iconst 0, 1) := by decide +kernel
theorem dX9_looksAt_1 : decode cX9_looksAt 1 = .ok (.istore_n 2, 1) := by decide +kernel
theorem dX9_looksAt_2 : decode cX9_looksAt 2 = .ok (.iconst 0, 1) := by decide +kernel
theorem dX9_looksAt_3 : decode cX9_looksAt 3 = .ok (.istore_n 3, 1) := by decide +kernel
theorem dX9_looksAt_4 : decode cX9_looksAt 4 = .ok (.iload_n 3, 1) := by decide +kernel
theorem dX9_looksAt_5 : decode cX9_looksAt 5 = .ok (.aload_n 0, 1) := by decide +kernel
theorem dX9_looksAt_6 : decode cX9_looksAt 6 = .ok (.getfield 21, 3) := by decide +kernel
theorem dX9_looksAt_9 : decode cX9_looksAt 9 = .ok (.if_icmp .ge 27, 3) := by decide +kernel
theorem dX9_looksAt_12 : decode cX9_looksAt 12 = .ok (.iload_n 2, 1) := by decide +kernel
theorem dX9_looksAt_13 : decode cX9_looksAt 13 = .ok (.aload_n 0, 1) := by decide +kernel
theorem dX9_looksAt_14 : decode cX9_looksAt 14 = .ok (.getfield 15, 3) := by decide +kernel
theorem dX9_looksAt_17 : decode cX9_looksAt 17 = .ok (.iload_n 3, 1) := by decide +kernel
theorem dX9_looksAt_18 : decode cX9_looksAt 18 = .ok (.iaload, 1) := by decide +kernel
theorem dX9_looksAt_19 : decode cX9_looksAt 19 = .ok (.iload_n 1, 1) := by decide +kernel
theorem dX9_looksAt_20 : decode cX9_looksAt 20 = .ok (.if_icmp .ne 7, 3) := by decide +kernel
theorem dX9_looksAt_23 : decode cX9_looksAt 23 = .ok (.iconst 1, 1) := by decide +kernel
theorem dX9_looksAt_24 : decode cX9_looksAt 24 = .ok (.goto 4, 3) := by decide +kernel
theorem dX9_looksAt_27 : decode cX9_looksAt 27 = .ok (.iconst 0, 1) := by decide +kernel
theorem dX9_looksAt_28 : decode cX9_looksAt 28 = .ok (.iadd, 1) := by decide +kernel
theorem dX9_looksAt_29 : decode cX9_looksAt 29 = .ok (.istore_n 2, 1) := by decide +kernel
theorem dX9_looksAt_30 : decode cX9_looksAt 30 = .ok (.iinc 3 1, 3) := by decide +kernel
theorem dX9_looksAt_33 : decode cX9_looksAt 33 = .ok (.goto (-29), 3) := by decide +kernel
theorem dX9_looksAt_36 : decode cX9_looksAt 36 = .ok (.iload_n 2, 1) := by decide +kernel
theorem dX9_looksAt_37 : decode cX9_looksAt 37 = .ok (.ireturn, 1) := by decide +kernel
theorem dX10_init_0 : decode cX10_init 0 = .ok (.aload_n 0, 1) := by decide +kernel
theorem dX10_init_1 : decode cX10_init 1 = .ok (.invokespecial 3, 3) := by decide +kernel
theorem dX10_init_4 : decode cX10_init 4 = .ok (.aload_n 0, 1) := by decide +kernel
theorem dX10_init_5 : decode cX10_init 5 = .ok (.iconst 0, 1) := by decide +kernel
theorem dX10_init_6 : decode cX10_init 6 = .ok (.putfield 9, 3) := by decide +kernel
theorem dX10_init_9 : decode cX10_init 9 = .ok (.aload_n 0, 1) := by decide +kernel
theorem dX10_init_10 : decode cX10_init 10 = .ok (.iconst 0, 1) := by decide +kernel
theorem dX10_init_11 : decode cX10_init 11 = .ok (.putfield 15, 3) := by decide +kernel
theorem dX10_init_14 : decode cX10_init 14 = .ok (.aload_n 0, 1) := by decide +kernel
theorem dX10_init_15 : decode cX10_init 15 = .ok (.iconst 0, 1) := by decide +kernel
theorem dX10_init_16 : decode cX10_init 16 = .ok (.putfield 18, 3) := by decide +kernel
theorem dX10_init_19 : decode cX10_init 19 = .ok (.aload_n 0, 1) := by decide +kernel
theorem dX10_init_20 : decode cX10_init 20 = .ok (.sipush 648, 3) := by decide +kernel
theorem dX10_init_23 : decode cX10_init 23 = .ok (.newarray .int, 2) := by decide +kernel
theorem dX10_init_25 : decode cX10_init 25 = .ok (.putfield 21, 3) := by decide +kernel
theorem dX10_init_28 : decode cX10_init 28 = .ok (.return_, 1) := by decide +kernel
theorem dX10_make_0 : decode cX10_make 0 = .ok (.aload_n 0, 1) := by decide +kernel
theorem dX10_make_1 : decode cX10_make 1 = .ok (.iload_n 1, 1) := by decide +kernel
theorem dX10_make_2 : decode cX10_make 2 = .ok (.iconst 3, 1) := by decide +kernel
theorem dX10_make_3 : decode cX10_make 3 = .ok (.invokestatic 25, 3) := by decide +kernel
theorem dX10_make_6 : decode cX10_make 6 = .ok (.putfield 9, 3) := by decide +kernel
theorem dX10_make_9 : decode cX10_make 9 = .ok (.aload_n 0, 1) := by decide +kernel
theorem dX10_make_10 : decode cX10_make 10 = .ok (.iload_n 2, 1) := by decide +kernel
theorem dX10_make_11 : decode cX10_make 11 = .ok (.putfield 15, 3) := by decide +kernel
theorem dX10_make_14 : decode cX10_make 14 = .ok (.aload_n 0, 1) := by decide +kernel
theorem dX10_make_15 : decode cX10_make 15 = .ok (.iconst 1, 1) := by decide +kernel
theorem dX10_make_16 : decode cX10_make 16 = .ok (.putfield 18, 3) := by decide +kernel
theorem dX10_make_19 : decode cX10_make 19 = .ok (.iconst 0, 1) := by decide +kernel
theorem dX10_make_20 : decode cX10_make 20 = .ok (.istore_n 3, 1) := by decide +kernel
theorem dX10_make_21 : decode cX10_make 21 = .ok (.iload_n 3, 1) := by decide +kernel
theorem dX10_make_22 : decode cX10_make 22 = .ok (.aload_n 0, 1) := by decide +kernel
theorem dX10_make_23 : decode cX10_make 23 = .ok (.getfield 9, 3) := by decide +kernel
theorem dX10_make_26 : decode cX10_make 26 = .ok (.if_icmp .ge 28, 3) := by decide +kernel
theorem dX10_make_29 : decode cX10_make 29 = .ok (.aload_n 0, 1) := by decide +kernel
theorem dX10_make_30 : decode cX10_make 30 = .ok (.sipush 216, 3) := by decide +kernel
theorem dX10_make_33 : decode cX10_make 33 = .ok (.aload_n 0, 1) := by decide +kernel
theorem dX10_make_34 : decode cX10_make 34 = .ok (.getfield 18, 3) := by decide +kernel
theorem dX10_make_37 : decode cX10_make 37 = .ok (.aload_n 0, 1) := by decide +kernel
theorem dX10_make_38 : decode cX10_make 38 = .ok (.getfield 15, 3) := by decide +kernel
theorem dX10_make_41 : decode cX10_make 41 = .ok (.imul, 1) := by decide +kernel
theorem dX10_make_42 : decode cX10_make 42 = .ok (.invokestatic 25, 3) := by decide +kernel
theorem dX10_make_45 : decode cX10_make 45 = .ok (.putfield 18, 3) := by decide +kernel
theorem dX10_make_48 : decode cX10_make 48 = .ok (.iinc 3 1, 3) := by decide +kernel
theorem dX10_make_51 : decode cX10_make 51 = .ok (.goto (-30), 3) := by decide +kernel
theorem dX10_make_54 : decode cX10_make 54 = .ok (.iconst 0, 1) := by decide +kernel
theorem dX10_make_55 : decode cX10_make 55 = .ok (.istore_n 3, 1) := by decide +kernel
theorem dX10_make_56 : decode cX10_make 56 = .ok (.iload_n 3, 1) := by decide +kernel
theorem dX10_make_57 : decode cX10_make 57 = .ok (.aload_n 0, 1) := by decide +kernel
theorem dX10_make_58 : decode cX10_make 58 = .ok (.getfield 18, 3) := by decide +kernel
theorem dX10_make_61 : decode cX10_make 61 = .ok (.if_icmp .ge 65, 3) := by decide +kernel
theorem dX10_make_64 : decode cX10_make 64 = .ok (.aload_n 0, 1) := by decide +kernel
theorem dX10_make_65 : decode cX10_make 65 = .ok (.getfield 15, 3) := by decide +kernel
theorem dX10_make_68 : decode cX10_make 68 = .ok (.ifCond .le 58, 3) := by decide +kernel
theorem dX10_make_71 : decode cX10_make 71 = .ok (.iload_n 3, 1) := by decide +kernel
theorem dX10_make_72 : decode cX10_make 72 = .ok (.istore 4, 2) := by decide +kernel
theorem dX10_make_74 : decode cX10_make 74 = .ok (.aload_n 0, 1) := by decide +kernel
theorem dX10_make_75 : decode cX10_make 75 = .ok (.getfield 9, 3) := by decide +kernel
theorem dX10_make_78 : decode cX10_make 78 = .ok (.iconst 1, 1) := by decide +kernel
theorem dX10_make_79 : decode cX10_make 79 = .ok (.isub, 1) := by decide +kernel
theorem dX10_make_80 : decode cX10_make 80 = .ok (.istore 5, 2) := by decide +kernel
theorem dX10_make_82 : decode cX10_make 82 = .ok (.iload 5, 2) := by decide +kernel
theorem dX10_make_84 : decode cX10_make 84 = .ok (.ifCond .lt 36, 3) := by decide +kernel
theorem dX10_make_87 : decode cX10_make 87 = .ok (.aload_n 0, 1) := by decide +kernel
theorem dX10_make_88 : decode cX10_make 88 = .ok (.getfield 21, 3) := by decide +kernel
theorem dX10_make_91 : decode cX10_make 91 = .ok (.iconst 3, 1) := by decide +kernel
theorem dX10_make_92 : decode cX10_make 92 = .ok (.iload_n 3, 1) := by decide +kernel
theorem dX10_make_93 : decode cX10_make 93 = .ok (.imul, 1) := by decide +kernel
theorem dX10_make_94 : decode cX10_make 94 = .ok (.iload 5, 2) := by decide +kernel
theorem dX10_make_96 : decode cX10_make 96 = .ok (.iadd, 1) := by decide +kernel
theorem dX10_make_97 : decode cX10_make 97 = .ok (.iload 4, 2) := by decide +kernel
theorem dX10_make_99 : decode cX10_make 99 = .ok (.aload_n 0, 1) := by decide +kernel
theorem dX10_make_100 : decode cX10_make 100 = .ok (.getfield 15, 3) := by decide +kernel
theorem dX10_make_103 : decode cX10_make 103 = .ok (.irem, 1) := by decide +kernel
theorem dX10_make_104 : decode cX10_make 104 = .ok (.iastore, 1) := by decide +kernel
theorem dX10_make_105 : decode cX10_make 105 = .ok (.iload 4, 2) := by decide +kernel
theorem dX10_make_107 : decode cX10_make 107 = .ok (.aload_n 0, 1) := by decide +kernel
theorem dX10_make_108 : decode cX10_make 108 = .ok (.getfield 15, 3) := by decide +kernel
theorem dX10_make_111 : decode cX10_make 111 = .ok (.idiv, 1) := by decide +kernel
theorem dX10_make_112 : decode cX10_make 112 = .ok (.istore 4, 2) := by decide +kernel
theorem dX10_make_114 : decode cX10_make 114 = .ok (.iinc 5 (-1), 3) := by decide +kernel
theorem dX10_make_117 : decode cX10_make 117 = .ok (.goto (-35), 3) := by decide +kernel
theorem dX10_make_120 : decode cX10_make 120 = .ok (.iinc 3 1, 3) := by decide +kernel
theorem dX10_make_123 : decode cX10_make 123 = .ok (.goto (-67), 3) := by decide +kernel
theorem dX10_make_126 : decode cX10_make 126 = .ok (.return_, 1) := by decide +kernel
theorem dX10_isSetting_0 : decode cX10_isSetting 0 = .ok (.iload_n 1, 1) := by decide +kernel
theorem dX10_isSetting_1 : decode cX10_isSetting 1 = .ok (.ifCond .lt 15, 3) := by decide +kernel
theorem dX10_isSetting_4 : decode cX10_isSetting 4 = .ok (.iload_n 1, 1) := by decide +kernel
theorem dX10_isSetting_5 : decode cX10_isSetting 5 = .ok (.aload_n 0, 1) := by decide +kernel
theorem dX10_isSetting_6 : decode cX10_isSetting 6 = .ok (.getfield 18, 3) := by decide +kernel
theorem dX10_isSetting_9 : decode cX10_isSetting 9 = .ok (.if_icmp .ge 7, 3) := by decide +kernel
theorem dX10_isSetting_12 : decode cX10_isSetting 12 = .ok (.iconst 1, 1) := by decide +kernel
theorem dX10_isSetting_13 : decode cX10_isSetting 13 = .ok (.goto 4, 3) := by decide +kernel
theorem dX10_isSetting_16 : decode cX10_isSetting 16 = .ok (.iconst 0, 1) := by decide +kernel
theorem dX10_isSetting_17 : decode cX10_isSetting 17 = .ok (.ireturn, 1) := by decide +kernel
theorem dX10_isWheel_0 : decode cX10_isWheel 0 = .ok (.iload_n 1, 1) := by decide +kernel
theorem dX10_isWheel_1 : decode cX10_isWheel 1 = .ok (.ifCond .lt 15, 3) := by decide +kernel
theorem dX10_isWheel_4 : decode cX10_isWheel 4 = .ok (.iload_n 1, 1) := by decide +kernel
theorem dX10_isWheel_5 : decode cX10_isWheel 5 = .ok (.aload_n 0, 1) := by decide +kernel
theorem dX10_isWheel_6 : decode cX10_isWheel 6 = .ok (.getfield 9, 3) := by decide +kernel
theorem dX10_isWheel_9 : decode cX10_isWheel 9 = .ok (.if_icmp .ge 7, 3) := by decide +kernel
theorem dX10_isWheel_12 : decode cX10_isWheel 12 = .ok (.iconst 1, 1) := by decide +kernel
theorem dX10_isWheel_13 : decode cX10_isWheel 13 = .ok (.goto 4, 3) := by decide +kernel
theorem dX10_isWheel_16 : decode cX10_isWheel 16 = .ok (.iconst 0, 1) := by decide +kernel
theorem dX10_isWheel_17 : decode cX10_isWheel 17 = .ok (.ireturn, 1) := by decide +kernel
theorem dX10_notchOf_0 : decode cX10_notchOf 0 = .ok (.iconst 3, 1) := by decide +kernel
theorem dX10_notchOf_1 : decode cX10_notchOf 1 = .ok (.iload_n 1, 1) := by decide +kernel
theorem dX10_notchOf_2 : decode cX10_notchOf 2 = .ok (.imul, 1) := by decide +kernel
theorem dX10_notchOf_3 : decode cX10_notchOf 3 = .ok (.iload_n 2, 1) := by decide +kernel
theorem dX10_notchOf_4 : decode cX10_notchOf 4 = .ok (.iadd, 1) := by decide +kernel
theorem dX10_notchOf_5 : decode cX10_notchOf 5 = .ok (.istore_n 3, 1) := by decide +kernel
theorem dX10_notchOf_6 : decode cX10_notchOf 6 = .ok (.iload_n 3, 1) := by decide +kernel
theorem dX10_notchOf_7 : decode cX10_notchOf 7 = .ok (.ifCond .lt 21, 3) := by decide +kernel
theorem dX10_notchOf_10 : decode cX10_notchOf 10 = .ok (.iload_n 3, 1) := by decide +kernel
theorem dX10_notchOf_11 : decode cX10_notchOf 11 = .ok (.aload_n 0, 1) := by decide +kernel
theorem dX10_notchOf_12 : decode cX10_notchOf 12 = .ok (.getfield 21, 3) := by decide +kernel
theorem dX10_notchOf_15 : decode cX10_notchOf 15 = .ok (.arraylength, 1) := by decide +kernel
theorem dX10_notchOf_16 : decode cX10_notchOf 16 = .ok (.if_icmp .ge 12, 3) := by decide +kernel
theorem dX10_notchOf_19 : decode cX10_notchOf 19 = .ok (.aload_n 0, 1) := by decide +kernel
theorem dX10_notchOf_20 : decode cX10_notchOf 20 = .ok (.getfield 21, 3) := by decide +kernel
theorem dX10_notchOf_23 : decode cX10_notchOf 23 = .ok (.iload_n 3, 1) := by decide +kernel
theorem dX10_notchOf_24 : decode cX10_notchOf 24 = .ok (.iaload, 1) := by decide +kernel
theorem dX10_notchOf_25 : decode cX10_notchOf 25 = .ok (.goto 4, 3) := by decide +kernel
theorem dX10_notchOf_28 : decode cX10_notchOf 28 = .ok (.iconst 0, 1) := by decide +kernel
theorem dX10_notchOf_29 : decode cX10_notchOf 29 = .ok (.ireturn, 1) := by decide +kernel
theorem dX10_turnBetween_0 : decode cX10_turnBetween 0 = .ok (.iconst 0, 1) := by decide +kernel
theorem dX10_turnBetween_1 : decode cX10_turnBetween 1 = .ok (.istore_n 3, 1) := by decide +kernel
theorem dX10_turnBetween_2 : decode cX10_turnBetween 2 = .ok (.iconst 0, 1) := by decide +kernel
theorem dX10_turnBetween_3 : decode cX10_turnBetween 3 = .ok (.istore 4, 2) := by decide +kernel
theorem dX10_turnBetween_5 : decode cX10_turnBetween 5 = .ok (.iload 4, 2) := by decide +kernel
theorem dX10_turnBetween_7 : decode cX10_turnBetween 7 = .ok (.aload_n 0, 1) := by decide +kernel
theorem dX10_turnBetween_8 : decode cX10_turnBetween 8 = .ok (.getfield 9, 3) := by decide +kernel
theorem dX10_turnBetween_11 : decode cX10_turnBetween 11 = .ok (.if_icmp .ge 75, 3) := by decide +kernel
theorem dX10_turnBetween_14 : decode cX10_turnBetween 14 = .ok (.aload_n 0, 1) := by decide +kernel
theorem dX10_turnBetween_15 : decode cX10_turnBetween 15 = .ok (.iload_n 1, 1) := by decide +kernel
theorem dX10_turnBetween_16 : decode cX10_turnBetween 16 = .ok (.invokevirtual 31, 3) := by decide +kernel
theorem dX10_turnBetween_19 : decode cX10_turnBetween 19 = .ok (.ifCond .eq 67, 3) := by decide +kernel
theorem dX10_turnBetween_22 : decode cX10_turnBetween 22 = .ok (.aload_n 0, 1) := by decide +kernel
theorem dX10_turnBetween_23 : decode cX10_turnBetween 23 = .ok (.iload_n 2, 1) := by decide +kernel
theorem dX10_turnBetween_24 : decode cX10_turnBetween 24 = .ok (.invokevirtual 31, 3) := by decide +kernel
theorem dX10_turnBetween_27 : decode cX10_turnBetween 27 = .ok (.ifCond .eq 59, 3) := by decide +kernel
theorem dX10_turnBetween_30 : decode cX10_turnBetween 30 = .ok (.aload_n 0, 1) := by decide +kernel
theorem dX10_turnBetween_31 : decode cX10_turnBetween 31 = .ok (.getfield 21, 3) := by decide +kernel
theorem dX10_turnBetween_34 : decode cX10_turnBetween 34 = .ok (.iconst 3, 1) := by decide +kernel
theorem dX10_turnBetween_35 : decode cX10_turnBetween 35 = .ok (.iload_n 2, 1) := by decide +kernel
theorem dX10_turnBetween_36 : decode cX10_turnBetween 36 = .ok (.imul, 1) := by decide +kernel
theorem dX10_turnBetween_37 : decode cX10_turnBetween 37 = .ok (.iload 4, 2) := by decide +kernel
theorem dX10_turnBetween_39 : decode cX10_turnBetween 39 = .ok (.iadd, 1) := by decide +kernel
theorem dX10_turnBetween_40 : decode cX10_turnBetween 40 = .ok (.iaload, 1) := by decide +kernel
theorem dX10_turnBetween_41 : decode cX10_turnBetween 41 = .ok (.aload_n 0, 1) := by decide +kernel
theorem dX10_turnBetween_42 : decode cX10_turnBetween 42 = .ok (.getfield 21, 3) := by decide +kernel
theorem dX10_turnBetween_45 : decode cX10_turnBetween 45 = .ok (.iconst 3, 1) := by decide +kernel
theorem dX10_turnBetween_46 : decode cX10_turnBetween 46 = .ok (.iload_n 1, 1) := by decide +kernel
theorem dX10_turnBetween_47 : decode cX10_turnBetween 47 = .ok (.imul, 1) := by decide +kernel
theorem dX10_turnBetween_48 : decode cX10_turnBetween 48 = .ok (.iload 4, 2) := by decide +kernel
theorem dX10_turnBetween_50 : decode cX10_turnBetween 50 = .ok (.iadd, 1) := by decide +kernel
theorem dX10_turnBetween_51 : decode cX10_turnBetween 51 = .ok (.iaload, 1) := by decide +kernel
theorem dX10_turnBetween_52 : decode cX10_turnBetween 52 = .ok (.isub, 1) := by decide +kernel
theorem dX10_turnBetween_53 : decode cX10_turnBetween 53 = .ok (.istore 5, 2) := by decide +kernel
theorem dX10_turnBetween_55 : decode cX10_turnBetween 55 = .ok (.iload_n 3, 1) := by decide +kernel
theorem dX10_turnBetween_56 : decode cX10_turnBetween 56 = .ok (.aload_n 0, 1) := by decide +kernel
theorem dX10_turnBetween_57 : decode cX10_turnBetween 57 = .ok (.getfield 15, 3) := by decide +kernel
theorem dX10_turnBetween_60 : decode cX10_turnBetween 60 = .ok (.imul, 1) := by decide +kernel
theorem dX10_turnBetween_61 : decode cX10_turnBetween 61 = .ok (.iload 5, 2) := by decide +kernel
theorem dX10_turnBetween_63 : decode cX10_turnBetween 63 = .ok (.ifCond .ge 13, 3) := by decide +kernel
theorem dX10_turnBetween_66 : decode cX10_turnBetween 66 = .ok (.iload 5, 2) := by decide +kernel
theorem dX10_turnBetween_68 : decode cX10_turnBetween 68 = .ok (.aload_n 0, 1) := by decide +kernel
theorem dX10_turnBetween_69 : decode cX10_turnBetween 69 = .ok (.getfield 15, 3) := by decide +kernel
theorem dX10_turnBetween_72 : decode cX10_turnBetween 72 = .ok (.iadd, 1) := by decide +kernel
theorem dX10_turnBetween_73 : decode cX10_turnBetween 73 = .ok (.goto 5, 3) := by decide +kernel
theorem dX10_turnBetween_76 : decode cX10_turnBetween 76 = .ok (.iload 5, 2) := by decide +kernel
theorem dX10_turnBetween_78 : decode cX10_turnBetween 78 = .ok (.iadd, 1) := by decide +kernel
theorem dX10_turnBetween_79 : decode cX10_turnBetween 79 = .ok (.istore_n 3, 1) := by decide +kernel
theorem dX10_turnBetween_80 : decode cX10_turnBetween 80 = .ok (.iinc 4 1, 3) := by decide +kernel
theorem dX10_turnBetween_83 : decode cX10_turnBetween 83 = .ok (.goto (-78), 3) := by decide +kernel
theorem dX10_turnBetween_86 : decode cX10_turnBetween 86 = .ok (.iload_n 3, 1) := by decide +kernel
theorem dX10_turnBetween_87 : decode cX10_turnBetween 87 = .ok (.ireturn, 1) := by decide +kernel
theorem dX10_turned_0 : decode cX10_turned 0 = .ok (.iconst 0, 1) := by decide +kernel
theorem dX10_turned_1 : decode cX10_turned 1 = .ok (.istore_n 3, 1) := by decide +kernel
theorem dX10_turned_2 : decode cX10_turned 2 = .ok (.iconst 0, 1) := by decide +kernel
theorem dX10_turned_3 : decode cX10_turned 3 = .ok (.istore 4, 2) := by decide +kernel
theorem dX10_turned_5 : decode cX10_turned 5 = .ok (.iload 4, 2) := by decide +kernel
theorem dX10_turned_7 : decode cX10_turned 7 = .ok (.aload_n 0, 1) := by decide +kernel
theorem dX10_turned_8 : decode cX10_turned 8 = .ok (.getfield 9, 3) := by decide +kernel
theorem dX10_turned_11 : decode cX10_turned 11 = .ok (.if_icmp .ge 79, 3) := by decide +kernel
theorem dX10_turned_14 : decode cX10_turned 14 = .ok (.aload_n 0, 1) := by decide +kernel
theorem dX10_turned_15 : decode cX10_turned 15 = .ok (.iload_n 1, 1) := by decide +kernel
theorem dX10_turned_16 : decode cX10_turned 16 = .ok (.invokevirtual 31, 3) := by decide +kernel
theorem dX10_turned_19 : decode cX10_turned 19 = .ok (.ifCond .eq 71, 3) := by decide +kernel
theorem dX10_turned_22 : decode cX10_turned 22 = .ok (.aload_n 0, 1) := by decide +kernel
theorem dX10_turned_23 : decode cX10_turned 23 = .ok (.iload_n 2, 1) := by decide +kernel
theorem dX10_turned_24 : decode cX10_turned 24 = .ok (.invokevirtual 31, 3) := by decide +kernel
theorem dX10_turned_27 : decode cX10_turned 27 = .ok (.ifCond .eq 63, 3) := by decide +kernel
theorem dX10_turned_30 : decode cX10_turned 30 = .ok (.aload_n 0, 1) := by decide +kernel
theorem dX10_turned_31 : decode cX10_turned 31 = .ok (.getfield 21, 3) := by decide +kernel
theorem dX10_turned_34 : decode cX10_turned 34 = .ok (.iconst 3, 1) := by decide +kernel
theorem dX10_turned_35 : decode cX10_turned 35 = .ok (.iload_n 1, 1) := by decide +kernel
theorem dX10_turned_36 : decode cX10_turned 36 = .ok (.imul, 1) := by decide +kernel
theorem dX10_turned_37 : decode cX10_turned 37 = .ok (.iload 4, 2) := by decide +kernel
theorem dX10_turned_39 : decode cX10_turned 39 = .ok (.iadd, 1) := by decide +kernel
theorem dX10_turned_40 : decode cX10_turned 40 = .ok (.iaload, 1) := by decide +kernel
theorem dX10_turned_41 : decode cX10_turned 41 = .ok (.aload_n 0, 1) := by decide +kernel
theorem dX10_turned_42 : decode cX10_turned 42 = .ok (.getfield 21, 3) := by decide +kernel
theorem dX10_turned_45 : decode cX10_turned 45 = .ok (.iconst 3, 1) := by decide +kernel
theorem dX10_turned_46 : decode cX10_turned 46 = .ok (.iload_n 2, 1) := by decide +kernel
theorem dX10_turned_47 : decode cX10_turned 47 = .ok (.imul, 1) := by decide +kernel
theorem dX10_turned_48 : decode cX10_turned 48 = .ok (.iload 4, 2) := by decide +kernel
theorem dX10_turned_50 : decode cX10_turned 50 = .ok (.iadd, 1) := by decide +kernel
theorem dX10_turned_51 : decode cX10_turned 51 = .ok (.iaload, 1) := by decide +kernel
theorem dX10_turned_52 : decode cX10_turned 52 = .ok (.iadd, 1) := by decide +kernel
theorem dX10_turned_53 : decode cX10_turned 53 = .ok (.istore 5, 2) := by decide +kernel
theorem dX10_turned_55 : decode cX10_turned 55 = .ok (.iload_n 3, 1) := by decide +kernel
theorem dX10_turned_56 : decode cX10_turned 56 = .ok (.aload_n 0, 1) := by decide +kernel
theorem dX10_turned_57 : decode cX10_turned 57 = .ok (.getfield 15, 3) := by decide +kernel
theorem dX10_turned_60 : decode cX10_turned 60 = .ok (.imul, 1) := by decide +kernel
theorem dX10_turned_61 : decode cX10_turned 61 = .ok (.iload 5, 2) := by decide +kernel
theorem dX10_turned_63 : decode cX10_turned 63 = .ok (.aload_n 0, 1) := by decide +kernel
theorem dX10_turned_64 : decode cX10_turned 64 = .ok (.getfield 15, 3) := by decide +kernel
theorem dX10_turned_67 : decode cX10_turned 67 = .ok (.if_icmp .ge 8, 3) := by decide +kernel
theorem dX10_turned_70 : decode cX10_turned 70 = .ok (.iload 5, 2) := by decide +kernel
theorem dX10_turned_72 : decode cX10_turned 72 = .ok (.goto 10, 3) := by decide +kernel
theorem dX10_turned_75 : decode cX10_turned 75 = .ok (.iload 5, 2) := by decide +kernel
theorem dX10_turned_77 : decode cX10_turned 77 = .ok (.aload_n 0, 1) := by decide +kernel
theorem dX10_turned_78 : decode cX10_turned 78 = .ok (.getfield 15, 3) := by decide +kernel
theorem dX10_turned_81 : decode cX10_turned 81 = .ok (.isub, 1) := by decide +kernel
theorem dX10_turned_82 : decode cX10_turned 82 = .ok (.iadd, 1) := by decide +kernel
theorem dX10_turned_83 : decode cX10_turned 83 = .ok (.istore_n 3, 1) := by decide +kernel
theorem dX10_turned_84 : decode cX10_turned 84 = .ok (.iinc 4 1, 3) := by decide +kernel
theorem dX10_turned_87 : decode cX10_turned 87 = .ok (.goto (-82), 3) := by decide +kernel
theorem dX10_turned_90 : decode cX10_turned 90 = .ok (.iload_n 3, 1) := by decide +kernel
theorem dX10_turned_91 : decode cX10_turned 91 = .ok (.ireturn, 1) := by decide +kernel
theorem dX10_wheelsIn_0 : decode cX10_wheelsIn 0 = .ok (.iconst 0, 1) := by decide +kernel
theorem dX10_wheelsIn_1 : decode cX10_wheelsIn 1 = .ok (.istore_n 2, 1) := by decide +kernel
theorem dX10_wheelsIn_2 : decode cX10_wheelsIn 2 = .ok (.iconst 0, 1) := by decide +kernel
theorem dX10_wheelsIn_3 : decode cX10_wheelsIn 3 = .ok (.istore_n 3, 1) := by decide +kernel
theorem dX10_wheelsIn_4 : decode cX10_wheelsIn 4 = .ok (.iload_n 3, 1) := by decide +kernel
theorem dX10_wheelsIn_5 : decode cX10_wheelsIn 5 = .ok (.aload_n 0, 1) := by decide +kernel
theorem dX10_wheelsIn_6 : decode cX10_wheelsIn 6 = .ok (.getfield 9, 3) := by decide +kernel
theorem dX10_wheelsIn_9 : decode cX10_wheelsIn 9 = .ok (.if_icmp .ge 26, 3) := by decide +kernel
theorem dX10_wheelsIn_12 : decode cX10_wheelsIn 12 = .ok (.iload_n 2, 1) := by decide +kernel
theorem dX10_wheelsIn_13 : decode cX10_wheelsIn 13 = .ok (.aload_n 0, 1) := by decide +kernel
theorem dX10_wheelsIn_14 : decode cX10_wheelsIn 14 = .ok (.iload_n 1, 1) := by decide +kernel
theorem dX10_wheelsIn_15 : decode cX10_wheelsIn 15 = .ok (.iload_n 3, 1) := by decide +kernel
theorem dX10_wheelsIn_16 : decode cX10_wheelsIn 16 = .ok (.invokevirtual 35, 3) := by decide +kernel
theorem dX10_wheelsIn_19 : decode cX10_wheelsIn 19 = .ok (.ifCond .ne 7, 3) := by decide +kernel
theorem dX10_wheelsIn_22 : decode cX10_wheelsIn 22 = .ok (.iconst 0, 1) := by decide +kernel
theorem dX10_wheelsIn_23 : decode cX10_wheelsIn 23 = .ok (.goto 4, 3) := by decide +kernel
theorem dX10_wheelsIn_26 : decode cX10_wheelsIn 26 = .ok (.iconst 1, 1) := by decide +kernel
theorem dX10_wheelsIn_27 : decode cX10_wheelsIn 27 = .ok (.iadd, 1) := by decide +kernel
theorem dX10_wheelsIn_28 : decode cX10_wheelsIn 28 = .ok (.istore_n 2, 1) := by decide +kernel
theorem dX10_wheelsIn_29 : decode cX10_wheelsIn 29 = .ok (.iinc 3 1, 3) := by decide +kernel
theorem dX10_wheelsIn_32 : decode cX10_wheelsIn 32 = .ok (.goto (-28), 3) := by decide +kernel
theorem dX10_wheelsIn_35 : decode cX10_wheelsIn 35 = .ok (.iload_n 2, 1) := by decide +kernel
theorem dX10_wheelsIn_36 : decode cX10_wheelsIn 36 = .ok (.ireturn, 1) := by decide +kernel
theorem dX10_fewestNotchesIn_0 : decode cX10_fewestNotchesIn 0 = .ok (.iconst 0, 1) := by decide +kernel
theorem dX10_fewestNotchesIn_1 : decode cX10_fewestNotchesIn 1 = .ok (.istore_n 2, 1) := by decide +kernel
theorem dX10_fewestNotchesIn_2 : decode cX10_fewestNotchesIn 2 = .ok (.iconst 0, 1) := by decide +kernel
theorem dX10_fewestNotchesIn_3 : decode cX10_fewestNotchesIn 3 = .ok (.istore_n 3, 1) := by decide +kernel
theorem dX10_fewestNotchesIn_4 : decode cX10_fewestNotchesIn 4 = .ok (.iload_n 3, 1) := by decide +kernel
theorem dX10_fewestNotchesIn_5 : decode cX10_fewestNotchesIn 5 = .ok (.aload_n 0, 1) := by decide +kernel
theorem dX10_fewestNotchesIn_6 : decode cX10_fewestNotchesIn 6 = .ok (.getfield 9, 3) := by decide +kernel
theorem dX10_fewestNotchesIn_9 : decode cX10_fewestNotchesIn 9 = .ok (.if_icmp .ge 32, 3) := by decide +kernel
theorem dX10_fewestNotchesIn_12 : decode cX10_fewestNotchesIn 12 = .ok (.aload_n 0, 1) := by decide +kernel
theorem dX10_fewestNotchesIn_13 : decode cX10_fewestNotchesIn 13 = .ok (.iload_n 1, 1) := by decide +kernel
theorem dX10_fewestNotchesIn_14 : decode cX10_fewestNotchesIn 14 = .ok (.iload_n 3, 1) := by decide +kernel
theorem dX10_fewestNotchesIn_15 : decode cX10_fewestNotchesIn 15 = .ok (.invokevirtual 35, 3) := by decide +kernel
theorem dX10_fewestNotchesIn_18 : decode cX10_fewestNotchesIn 18 = .ok (.istore 4, 2) := by decide +kernel
theorem dX10_fewestNotchesIn_20 : decode cX10_fewestNotchesIn 20 = .ok (.iload_n 2, 1) := by decide +kernel
theorem dX10_fewestNotchesIn_21 : decode cX10_fewestNotchesIn 21 = .ok (.iload 4, 2) := by decide +kernel
theorem dX10_fewestNotchesIn_23 : decode cX10_fewestNotchesIn 23 = .ok (.aload_n 0, 1) := by decide +kernel
theorem dX10_fewestNotchesIn_24 : decode cX10_fewestNotchesIn 24 = .ok (.getfield 15, 3) := by decide +kernel
theorem dX10_fewestNotchesIn_27 : decode cX10_fewestNotchesIn 27 = .ok (.iload 4, 2) := by decide +kernel
theorem dX10_fewestNotchesIn_29 : decode cX10_fewestNotchesIn 29 = .ok (.isub, 1) := by decide +kernel
theorem dX10_fewestNotchesIn_30 : decode cX10_fewestNotchesIn 30 = .ok (.invokestatic 25, 3) := by decide +kernel
theorem dX10_fewestNotchesIn_33 : decode cX10_fewestNotchesIn 33 = .ok (.iadd, 1) := by decide +kernel
theorem dX10_fewestNotchesIn_34 : decode cX10_fewestNotchesIn 34 = .ok (.istore_n 2, 1) := by decide +kernel
theorem dX10_fewestNotchesIn_35 : decode cX10_fewestNotchesIn 35 = .ok (.iinc 3 1, 3) := by decide +kernel
theorem dX10_fewestNotchesIn_38 : decode cX10_fewestNotchesIn 38 = .ok (.goto (-34), 3) := by decide +kernel
theorem dX10_fewestNotchesIn_41 : decode cX10_fewestNotchesIn 41 = .ok (.iload_n 2, 1) := by decide +kernel
theorem dX10_fewestNotchesIn_42 : decode cX10_fewestNotchesIn 42 = .ok (.ireturn, 1) := by decide +kernel
theorem dX10_leavesAhead_0 : decode cX10_leavesAhead 0 = .ok (.iconst 0, 1) := by decide +kernel
theorem dX10_leavesAhead_1 : decode cX10_leavesAhead 1 = .ok (.istore_n 3, 1) := by decide +kernel
theorem dX10_leavesAhead_2 : decode cX10_leavesAhead 2 = .ok (.iload_n 3, 1) := by decide +kernel
theorem dX10_leavesAhead_3 : decode cX10_leavesAhead 3 = .ok (.iload_n 2, 1) := by decide +kernel
theorem dX10_leavesAhead_4 : decode cX10_leavesAhead 4 = .ok (.if_icmp .ge 20, 3) := by decide +kernel
theorem dX10_leavesAhead_7 : decode cX10_leavesAhead 7 = .ok (.aload_n 0, 1) := by decide +kernel
theorem dX10_leavesAhead_8 : decode cX10_leavesAhead 8 = .ok (.iload_n 1, 1) := by decide +kernel
theorem dX10_leavesAhead_9 : decode cX10_leavesAhead 9 = .ok (.iload_n 3, 1) := by decide +kernel
theorem dX10_leavesAhead_10 : decode cX10_leavesAhead 10 = .ok (.invokevirtual 35, 3) := by decide +kernel
theorem dX10_leavesAhead_13 : decode cX10_leavesAhead 13 = .ok (.ifCond .eq 5, 3) := by decide +kernel
theorem dX10_leavesAhead_16 : decode cX10_leavesAhead 16 = .ok (.iconst 0, 1) := by decide +kernel
theorem dX10_leavesAhead_17 : decode cX10_leavesAhead 17 = .ok (.ireturn, 1) := by decide +kernel
theorem dX10_leavesAhead_18 : decode cX10_leavesAhead 18 = .ok (.iinc 3 1, 3) := by decide +kernel
theorem dX10_leavesAhead_21 : decode cX10_leavesAhead 21 = .ok (.goto (-19), 3) := by decide +kernel
theorem dX10_leavesAhead_24 : decode cX10_leavesAhead 24 = .ok (.iconst 1, 1) := by decide +kernel
theorem dX10_leavesAhead_25 : decode cX10_leavesAhead 25 = .ok (.ireturn, 1) := by decide +kernel
theorem dJ9_max_7cf53_0 : decode cJ9_max_7cf53 0 = .ok (.iload_n 0, 1) := by decide +kernel
theorem dJ9_max_7cf53_1 : decode cJ9_max_7cf53 1 = .ok (.iload_n 1, 1) := by decide +kernel
theorem dJ9_max_7cf53_2 : decode cJ9_max_7cf53 2 = .ok (.if_icmp .lt 7, 3) := by decide +kernel
theorem dJ9_max_7cf53_5 : decode cJ9_max_7cf53 5 = .ok (.iload_n 0, 1) := by decide +kernel
theorem dJ9_max_7cf53_6 : decode cJ9_max_7cf53 6 = .ok (.goto 4, 3) := by decide +kernel
theorem dJ9_max_7cf53_9 : decode cJ9_max_7cf53 9 = .ok (.iload_n 1, 1) := by decide +kernel
theorem dJ9_max_7cf53_10 : decode cJ9_max_7cf53 10 = .ok (.ireturn, 1) := by decide +kernel
theorem dJ9_max_f86c9_0 : decode cJ9_max_f86c9 0 = .ok (.lload_n 0, 1) := by decide +kernel
theorem dJ9_max_f86c9_1 : decode cJ9_max_f86c9 1 = .ok (.lload_n 2, 1) := by decide +kernel
theorem dJ9_max_f86c9_2 : decode cJ9_max_f86c9 2 = .ok (.lcmp, 1) := by decide +kernel
theorem dJ9_max_f86c9_3 : decode cJ9_max_f86c9 3 = .ok (.ifCond .lt 7, 3) := by decide +kernel
theorem dJ9_max_f86c9_6 : decode cJ9_max_f86c9 6 = .ok (.lload_n 0, 1) := by decide +kernel
theorem dJ9_max_f86c9_7 : decode cJ9_max_f86c9 7 = .ok (.goto 4, 3) := by decide +kernel
theorem dJ9_max_f86c9_10 : decode cJ9_max_f86c9 10 = .ok (.lload_n 2, 1) := by decide +kernel
theorem dJ9_max_f86c9_11 : decode cJ9_max_f86c9 11 = .ok (.lreturn, 1) := by decide +kernel
theorem dJ9_min_7cf53_0 : decode cJ9_min_7cf53 0 = .ok (.iload_n 0, 1) := by decide +kernel
theorem dJ9_min_7cf53_1 : decode cJ9_min_7cf53 1 = .ok (.iload_n 1, 1) := by decide +kernel
theorem dJ9_min_7cf53_2 : decode cJ9_min_7cf53 2 = .ok (.if_icmp .gt 7, 3) := by decide +kernel
theorem dJ9_min_7cf53_5 : decode cJ9_min_7cf53 5 = .ok (.iload_n 0, 1) := by decide +kernel
theorem dJ9_min_7cf53_6 : decode cJ9_min_7cf53 6 = .ok (.goto 4, 3) := by decide +kernel
theorem dJ9_min_7cf53_9 : decode cJ9_min_7cf53 9 = .ok (.iload_n 1, 1) := by decide +kernel
theorem dJ9_min_7cf53_10 : decode cJ9_min_7cf53 10 = .ok (.ireturn, 1) := by decide +kernel
end
section
theorem dX8_init_0 : decode cX8_init 0 = .ok (.aload_n 0, 1) := by decide +kernel
theorem dX8_init_1 : decode cX8_init 1 = .ok (.invokespecial 3, 3) := by decide +kernel
theorem dX8_init_4 : decode cX8_init 4 = .ok (.aload_n 0, 1) := by decide +kernel
theorem dX8_init_5 : decode cX8_init 5 = .ok (.iconst 0, 1) := by decide +kernel
theorem dX8_init_6 : decode cX8_init 6 = .ok (.putfield 9, 3) := by decide +kernel
theorem dX8_init_9 : decode cX8_init 9 = .ok (.aload_n 0, 1) := by decide +kernel
theorem dX8_init_10 : decode cX8_init 10 = .ok (.new 15, 3) := by decide +kernel
theorem dX8_init_13 : decode cX8_init 13 = .ok (.dup, 1) := by decide +kernel
theorem dX8_init_14 : decode cX8_init 14 = .ok (.invokespecial 17, 3) := by decide +kernel
theorem dX8_init_17 : decode cX8_init 17 = .ok (.putfield 18, 3) := by decide +kernel
theorem dX8_init_20 : decode cX8_init 20 = .ok (.aload_n 0, 1) := by decide +kernel
theorem dX8_init_21 : decode cX8_init 21 = .ok (.new 22, 3) := by decide +kernel
theorem dX8_init_24 : decode cX8_init 24 = .ok (.dup, 1) := by decide +kernel
theorem dX8_init_25 : decode cX8_init 25 = .ok (.iconst 0, 1) := by decide +kernel
theorem dX8_init_26 : decode cX8_init 26 = .ok (.invokespecial 24, 3) := by decide +kernel
theorem dX8_init_29 : decode cX8_init 29 = .ok (.putfield 27, 3) := by decide +kernel
theorem dX8_init_32 : decode cX8_init 32 = .ok (.aload_n 0, 1) := by decide +kernel
theorem dX8_init_33 : decode cX8_init 33 = .ok (.sipush 216, 3) := by decide +kernel
theorem dX8_init_36 : decode cX8_init 36 = .ok (.newarray .long, 2) := by decide +kernel
theorem dX8_init_38 : decode cX8_init 38 = .ok (.putfield 31, 3) := by decide +kernel
theorem dX8_init_41 : decode cX8_init 41 = .ok (.aload_n 0, 1) := by decide +kernel
theorem dX8_init_42 : decode cX8_init 42 = .ok (.sipush 216, 3) := by decide +kernel
theorem dX8_init_45 : decode cX8_init 45 = .ok (.newarray .long, 2) := by decide +kernel
theorem dX8_init_47 : decode cX8_init 47 = .ok (.putfield 35, 3) := by decide +kernel
theorem dX8_init_50 : decode cX8_init 50 = .ok (.aload_n 0, 1) := by decide +kernel
theorem dX8_init_51 : decode cX8_init 51 = .ok (.sipush 216, 3) := by decide +kernel
theorem dX8_init_54 : decode cX8_init 54 = .ok (.newarray .int, 2) := by decide +kernel
theorem dX8_init_56 : decode cX8_init 56 = .ok (.putfield 38, 3) := by decide +kernel
theorem dX8_init_59 : decode cX8_init 59 = .ok (.aload_n 0, 1) := by decide +kernel
theorem dX8_init_60 : decode cX8_init 60 = .ok (.iconst 5, 1) := by decide +kernel
theorem dX8_init_61 : decode cX8_init 61 = .ok (.newarray .long, 2) := by decide +kernel
theorem dX8_init_63 : decode cX8_init 63 = .ok (.putfield 42, 3) := by decide +kernel
theorem dX8_init_66 : decode cX8_init 66 = .ok (.aload_n 0, 1) := by decide +kernel
theorem dX8_init_67 : decode cX8_init 67 = .ok (.iconst 5, 1) := by decide +kernel
theorem dX8_init_68 : decode cX8_init 68 = .ok (.anewarray 45, 3) := by decide +kernel
theorem dX8_init_71 : decode cX8_init 71 = .ok (.putfield 47, 3) := by decide +kernel
theorem dX8_init_74 : decode cX8_init 74 = .ok (.aload_n 0, 1) := by decide +kernel
theorem dX8_init_75 : decode cX8_init 75 = .ok (.iconst 5, 1) := by decide +kernel
theorem dX8_init_76 : decode cX8_init 76 = .ok (.sipush 216, 3) := by decide +kernel
theorem dX8_init_79 : decode cX8_init 79 = .ok (.multianewarray 51 2, 4) := by decide +kernel
theorem dX8_init_83 : decode cX8_init 83 = .ok (.putfield 53, 3) := by decide +kernel
theorem dX8_init_86 : decode cX8_init 86 = .ok (.aload_n 0, 1) := by decide +kernel
theorem dX8_init_87 : decode cX8_init 87 = .ok (.iconst 5, 1) := by decide +kernel
theorem dX8_init_88 : decode cX8_init 88 = .ok (.sipush 216, 3) := by decide +kernel
theorem dX8_init_91 : decode cX8_init 91 = .ok (.multianewarray 51 2, 4) := by decide +kernel
theorem dX8_init_95 : decode cX8_init 95 = .ok (.putfield 56, 3) := by decide +kernel
theorem dX8_init_98 : decode cX8_init 98 = .ok (.return_, 1) := by decide +kernel
theorem dX8_begin_0 : decode cX8_begin 0 = .ok (.aload_n 0, 1) := by decide +kernel
theorem dX8_begin_1 : decode cX8_begin 1 = .ok (.getfield 18, 3) := by decide +kernel
theorem dX8_begin_4 : decode cX8_begin 4 = .ok (.aload_n 1, 1) := by decide +kernel
theorem dX8_begin_5 : decode cX8_begin 5 = .ok (.getfield 59, 3) := by decide +kernel
theorem dX8_begin_8 : decode cX8_begin 8 = .ok (.aload_n 1, 1) := by decide +kernel
theorem dX8_begin_9 : decode cX8_begin 9 = .ok (.getfield 63, 3) := by decide +kernel
theorem dX8_begin_12 : decode cX8_begin 12 = .ok (.invokevirtual 66, 3) := by decide +kernel
theorem dX8_begin_15 : decode cX8_begin 15 = .ok (.aload_n 0, 1) := by decide +kernel
theorem dX8_begin_16 : decode cX8_begin 16 = .ok (.aload_n 1, 1) := by decide +kernel
theorem dX8_begin_17 : decode cX8_begin 17 = .ok (.getfield 70, 3) := by decide +kernel
theorem dX8_begin_20 : decode cX8_begin 20 = .ok (.putfield 9, 3) := by decide +kernel
theorem dX8_begin_23 : decode cX8_begin 23 = .ok (.iconst 0, 1) := by decide +kernel
theorem dX8_begin_24 : decode cX8_begin 24 = .ok (.istore_n 2, 1) := by decide +kernel
theorem dX8_begin_25 : decode cX8_begin 25 = .ok (.iload_n 2, 1) := by decide +kernel
theorem dX8_begin_26 : decode cX8_begin 26 = .ok (.aload_n 0, 1) := by decide +kernel
theorem dX8_begin_27 : decode cX8_begin 27 = .ok (.getfield 9, 3) := by decide +kernel
theorem dX8_begin_30 : decode cX8_begin 30 = .ok (.if_icmp .ge 48, 3) := by decide +kernel
theorem dX8_begin_33 : decode cX8_begin 33 = .ok (.aload_n 0, 1) := by decide +kernel
theorem dX8_begin_34 : decode cX8_begin 34 = .ok (.getfield 47, 3) := by decide +kernel
theorem dX8_begin_37 : decode cX8_begin 37 = .ok (.iload_n 2, 1) := by decide +kernel
theorem dX8_begin_38 : decode cX8_begin 38 = .ok (.aload_n 0, 1) := by decide +kernel
theorem dX8_begin_39 : decode cX8_begin 39 = .ok (.aload_n 1, 1) := by decide +kernel
theorem dX8_begin_40 : decode cX8_begin 40 = .ok (.getfield 72, 3) := by decide +kernel
theorem dX8_begin_43 : decode cX8_begin 43 = .ok (.iload_n 2, 1) := by decide +kernel
theorem dX8_begin_44 : decode cX8_begin 44 = .ok (.iaload, 1) := by decide +kernel
theorem dX8_begin_45 : decode cX8_begin 45 = .ok (.aload_n 0, 1) := by decide +kernel
theorem dX8_begin_46 : decode cX8_begin 46 = .ok (.getfield 53, 3) := by decide +kernel
theorem dX8_begin_49 : decode cX8_begin 49 = .ok (.iload_n 2, 1) := by decide +kernel
theorem dX8_begin_50 : decode cX8_begin 50 = .ok (.aaload, 1) := by decide +kernel
theorem dX8_begin_51 : decode cX8_begin 51 = .ok (.aload_n 0, 1) := by decide +kernel
theorem dX8_begin_52 : decode cX8_begin 52 = .ok (.getfield 56, 3) := by decide +kernel
theorem dX8_begin_55 : decode cX8_begin 55 = .ok (.iload_n 2, 1) := by decide +kernel
theorem dX8_begin_56 : decode cX8_begin 56 = .ok (.aaload, 1) := by decide +kernel
theorem dX8_begin_57 : decode cX8_begin 57 = .ok (.invokevirtual 75, 3) := by decide +kernel
theorem dX8_begin_60 : decode cX8_begin 60 = .ok (.aastore, 1) := by decide +kernel
theorem dX8_begin_61 : decode cX8_begin 61 = .ok (.aload_n 0, 1) := by decide +kernel
theorem dX8_begin_62 : decode cX8_begin 62 = .ok (.iload_n 2, 1) := by decide +kernel
theorem dX8_begin_63 : decode cX8_begin 63 = .ok (.aload_n 1, 1) := by decide +kernel
theorem dX8_begin_64 : decode cX8_begin 64 = .ok (.getfield 79, 3) := by decide +kernel
theorem dX8_begin_67 : decode cX8_begin 67 = .ok (.iload_n 2, 1) := by decide +kernel
theorem dX8_begin_68 : decode cX8_begin 68 = .ok (.iaload, 1) := by decide +kernel
theorem dX8_begin_69 : decode cX8_begin 69 = .ok (.invokevirtual 82, 3) := by decide +kernel
theorem dX8_begin_72 : decode cX8_begin 72 = .ok (.iinc 2 1, 3) := by decide +kernel
theorem dX8_begin_75 : decode cX8_begin 75 = .ok (.goto (-50), 3) := by decide +kernel
theorem dX8_begin_78 : decode cX8_begin 78 = .ok (.aload_n 0, 1) := by decide +kernel
theorem dX8_begin_79 : decode cX8_begin 79 = .ok (.getfield 27, 3) := by decide +kernel
theorem dX8_begin_82 : decode cX8_begin 82 = .ok (.iconst 0, 1) := by decide +kernel
theorem dX8_begin_83 : decode cX8_begin 83 = .ok (.putfield 85, 3) := by decide +kernel
theorem dX8_begin_86 : decode cX8_begin 86 = .ok (.aload_n 0, 1) := by decide +kernel
theorem dX8_begin_87 : decode cX8_begin 87 = .ok (.invokevirtual 88, 3) := by decide +kernel
theorem dX8_begin_90 : decode cX8_begin 90 = .ok (.return_, 1) := by decide +kernel
theorem dX8_newPerson_0 : decode cX8_newPerson 0 = .ok (.iload_n 1, 1) := by decide +kernel
theorem dX8_newPerson_1 : decode cX8_newPerson 1 = .ok (.tableswitch 105 1 5 #[35, 49, 63, 77, 91], 35) := by decide +kernel
theorem dX8_newPerson_36 : decode cX8_newPerson 36 = .ok (.new 91, 3) := by decide +kernel
theorem dX8_newPerson_39 : decode cX8_newPerson 39 = .ok (.dup, 1) := by decide +kernel
theorem dX8_newPerson_40 : decode cX8_newPerson 40 = .ok (.aload_n 0, 1) := by decide +kernel
theorem dX8_newPerson_41 : decode cX8_newPerson 41 = .ok (.getfield 18, 3) := by decide +kernel
theorem dX8_newPerson_44 : decode cX8_newPerson 44 = .ok (.aload_n 2, 1) := by decide +kernel
theorem dX8_newPerson_45 : decode cX8_newPerson 45 = .ok (.aload_n 3, 1) := by decide +kernel
theorem dX8_newPerson_46 : decode cX8_newPerson 46 = .ok (.invokespecial 93, 3) := by decide +kernel
theorem dX8_newPerson_49 : decode cX8_newPerson 49 = .ok (.areturn, 1) := by decide +kernel
theorem dX8_newPerson_50 : decode cX8_newPerson 50 = .ok (.new 96, 3) := by decide +kernel
theorem dX8_newPerson_53 : decode cX8_newPerson 53 = .ok (.dup, 1) := by decide +kernel
theorem dX8_newPerson_54 : decode cX8_newPerson 54 = .ok (.aload_n 0, 1) := by decide +kernel
theorem dX8_newPerson_55 : decode cX8_newPerson 55 = .ok (.getfield 18, 3) := by decide +kernel
theorem dX8_newPerson_58 : decode cX8_newPerson 58 = .ok (.aload_n 2, 1) := by decide +kernel
theorem dX8_newPerson_59 : decode cX8_newPerson 59 = .ok (.aload_n 3, 1) := by decide +kernel
theorem dX8_newPerson_60 : decode cX8_newPerson 60 = .ok (.invokespecial 98, 3) := by decide +kernel
theorem dX8_newPerson_63 : decode cX8_newPerson 63 = .ok (.areturn, 1) := by decide +kernel
theorem dX8_newPerson_64 : decode cX8_newPerson 64 = .ok (.new 99, 3) := by decide +kernel
theorem dX8_newPerson_67 : decode cX8_newPerson 67 = .ok (.dup, 1) := by decide +kernel
theorem dX8_newPerson_68 : decode cX8_newPerson 68 = .ok (.aload_n 0, 1) := by decide +kernel
theorem dX8_newPerson_69 : decode cX8_newPerson 69 = .ok (.getfield 18, 3) := by decide +kernel
theorem dX8_newPerson_72 : decode cX8_newPerson 72 = .ok (.aload_n 2, 1) := by decide +kernel
theorem dX8_newPerson_73 : decode cX8_newPerson 73 = .ok (.aload_n 3, 1) := by decide +kernel
theorem dX8_newPerson_74 : decode cX8_newPerson 74 = .ok (.invokespecial 101, 3) := by decide +kernel
theorem dX8_newPerson_77 : decode cX8_newPerson 77 = .ok (.areturn, 1) := by decide +kernel
theorem dX8_newPerson_78 : decode cX8_newPerson 78 = .ok (.new 102, 3) := by decide +kernel
theorem dX8_newPerson_81 : decode cX8_newPerson 81 = .ok (.dup, 1) := by decide +kernel
theorem dX8_newPerson_82 : decode cX8_newPerson 82 = .ok (.aload_n 0, 1) := by decide +kernel
theorem dX8_newPerson_83 : decode cX8_newPerson 83 = .ok (.getfield 18, 3) := by decide +kernel
theorem dX8_newPerson_86 : decode cX8_newPerson 86 = .ok (.aload_n 2, 1) := by decide +kernel
theorem dX8_newPerson_87 : decode cX8_newPerson 87 = .ok (.aload_n 3, 1) := by decide +kernel
theorem dX8_newPerson_88 : decode cX8_newPerson 88 = .ok (.invokespecial 104, 3) := by decide +kernel
theorem dX8_newPerson_91 : decode cX8_newPerson 91 = .ok (.areturn, 1) := by decide +kernel
theorem dX8_newPerson_92 : decode cX8_newPerson 92 = .ok (.new 105, 3) := by decide +kernel
theorem dX8_newPerson_95 : decode cX8_newPerson 95 = .ok (.dup, 1) := by decide +kernel
theorem dX8_newPerson_96 : decode cX8_newPerson 96 = .ok (.aload_n 0, 1) := by decide +kernel
theorem dX8_newPerson_97 : decode cX8_newPerson 97 = .ok (.getfield 18, 3) := by decide +kernel
theorem dX8_newPerson_100 : decode cX8_newPerson 100 = .ok (.aload_n 2, 1) := by decide +kernel
theorem dX8_newPerson_101 : decode cX8_newPerson 101 = .ok (.aload_n 3, 1) := by decide +kernel
theorem dX8_newPerson_102 : decode cX8_newPerson 102 = .ok (.invokespecial 107, 3) := by decide +kernel
theorem dX8_newPerson_105 : decode cX8_newPerson 105 = .ok (.areturn, 1) := by decide +kernel
theorem dX8_newPerson_106 : decode cX8_newPerson 106 = .ok (.new 45, 3) := by decide +kernel
theorem dX8_newPerson_109 : decode cX8_newPerson 109 = .ok (.dup, 1) := by decide +kernel
theorem dX8_newPerson_110 : decode cX8_newPerson 110 = .ok (.aload_n 0, 1) := by decide +kernel
theorem dX8_newPerson_111 : decode cX8_newPerson 111 = .ok (.getfield 18, 3) := by decide +kernel
theorem dX8_newPerson_114 : decode cX8_newPerson 114 = .ok (.aload_n 2, 1) := by decide +kernel
theorem dX8_newPerson_115 : decode cX8_newPerson 115 = .ok (.aload_n 3, 1) := by decide +kernel
theorem dX8_newPerson_116 : decode cX8_newPerson 116 = .ok (.invokespecial 108, 3) := by decide +kernel
theorem dX8_newPerson_119 : decode cX8_newPerson 119 = .ok (.areturn, 1) := by decide +kernel
theorem dX8_personAt_0 : decode cX8_personAt 0 = .ok (.iload_n 1, 1) := by decide +kernel
theorem dX8_personAt_1 : decode cX8_personAt 1 = .ok (.ifCond .lt 11, 3) := by decide +kernel
theorem dX8_personAt_4 : decode cX8_personAt 4 = .ok (.iload_n 1, 1) := by decide +kernel
theorem dX8_personAt_5 : decode cX8_personAt 5 = .ok (.aload_n 0, 1) := by decide +kernel
theorem dX8_personAt_6 : decode cX8_personAt 6 = .ok (.getfield 9, 3) := by decide +kernel
theorem dX8_personAt_9 : decode cX8_personAt 9 = .ok (.if_icmp .lt 7, 3) := by decide +kernel
theorem dX8_personAt_12 : decode cX8_personAt 12 = .ok (.aconst_null, 1) := by decide +kernel
theorem dX8_personAt_13 : decode cX8_personAt 13 = .ok (.goto 9, 3) := by decide +kernel
theorem dX8_personAt_16 : decode cX8_personAt 16 = .ok (.aload_n 0, 1) := by decide +kernel
theorem dX8_personAt_17 : decode cX8_personAt 17 = .ok (.getfield 47, 3) := by decide +kernel
theorem dX8_personAt_20 : decode cX8_personAt 20 = .ok (.iload_n 1, 1) := by decide +kernel
theorem dX8_personAt_21 : decode cX8_personAt 21 = .ok (.aaload, 1) := by decide +kernel
theorem dX8_personAt_22 : decode cX8_personAt 22 = .ok (.areturn, 1) := by decide +kernel
theorem dX8_setFlicks_0 : decode cX8_setFlicks 0 = .ok (.aload_n 0, 1) := by decide +kernel
theorem dX8_setFlicks_1 : decode cX8_setFlicks 1 = .ok (.iload_n 1, 1) := by decide +kernel
theorem dX8_setFlicks_2 : decode cX8_setFlicks 2 = .ok (.invokevirtual 109, 3) := by decide +kernel
theorem dX8_setFlicks_5 : decode cX8_setFlicks 5 = .ok (.astore_n 3, 1) := by decide +kernel
theorem dX8_setFlicks_6 : decode cX8_setFlicks 6 = .ok (.aload_n 3, 1) := by decide +kernel
theorem dX8_setFlicks_7 : decode cX8_setFlicks 7 = .ok (.ifnull 18, 3) := by decide +kernel
theorem dX8_setFlicks_10 : decode cX8_setFlicks 10 = .ok (.aload_n 3, 1) := by decide +kernel
theorem dX8_setFlicks_11 : decode cX8_setFlicks 11 = .ok (.iload_n 2, 1) := by decide +kernel
theorem dX8_setFlicks_12 : decode cX8_setFlicks 12 = .ok (.invokevirtual 113, 3) := by decide +kernel
theorem dX8_setFlicks_15 : decode cX8_setFlicks 15 = .ok (.aload_n 0, 1) := by decide +kernel
theorem dX8_setFlicks_16 : decode cX8_setFlicks 16 = .ok (.getfield 27, 3) := by decide +kernel
theorem dX8_setFlicks_19 : decode cX8_setFlicks 19 = .ok (.getfield 116, 3) := by decide +kernel
theorem dX8_setFlicks_22 : decode cX8_setFlicks 22 = .ok (.iload_n 1, 1) := by decide +kernel
theorem dX8_setFlicks_23 : decode cX8_setFlicks 23 = .ok (.iload_n 2, 1) := by decide +kernel
theorem dX8_setFlicks_24 : decode cX8_setFlicks 24 = .ok (.iastore, 1) := by decide +kernel
theorem dX8_setFlicks_25 : decode cX8_setFlicks 25 = .ok (.return_, 1) := by decide +kernel
theorem dX8_howManyAny_0 : decode cX8_howManyAny 0 = .ok (.iconst 0, 1) := by decide +kernel
theorem dX8_howManyAny_1 : decode cX8_howManyAny 1 = .ok (.istore_n 1, 1) := by decide +kernel
theorem dX8_howManyAny_2 : decode cX8_howManyAny 2 = .ok (.iconst 0, 1) := by decide +kernel
theorem dX8_howManyAny_3 : decode cX8_howManyAny 3 = .ok (.istore_n 2, 1) := by decide +kernel
theorem dX8_howManyAny_4 : decode cX8_howManyAny 4 = .ok (.iload_n 2, 1) := by decide +kernel
theorem dX8_howManyAny_5 : decode cX8_howManyAny 5 = .ok (.aload_n 0, 1) := by decide +kernel
theorem dX8_howManyAny_6 : decode cX8_howManyAny 6 = .ok (.getfield 9, 3) := by decide +kernel
theorem dX8_howManyAny_9 : decode cX8_howManyAny 9 = .ok (.if_icmp .ge 29, 3) := by decide +kernel
theorem dX8_howManyAny_12 : decode cX8_howManyAny 12 = .ok (.iload_n 1, 1) := by decide +kernel
theorem dX8_howManyAny_13 : decode cX8_howManyAny 13 = .ok (.aload_n 0, 1) := by decide +kernel
theorem dX8_howManyAny_14 : decode cX8_howManyAny 14 = .ok (.getfield 47, 3) := by decide +kernel
theorem dX8_howManyAny_17 : decode cX8_howManyAny 17 = .ok (.iload_n 2, 1) := by decide +kernel
theorem dX8_howManyAny_18 : decode cX8_howManyAny 18 = .ok (.aaload, 1) := by decide +kernel
theorem dX8_howManyAny_19 : decode cX8_howManyAny 19 = .ok (.instanceof 96, 3) := by decide +kernel
theorem dX8_howManyAny_22 : decode cX8_howManyAny 22 = .ok (.ifCond .eq 7, 3) := by decide +kernel
theorem dX8_howManyAny_25 : decode cX8_howManyAny 25 = .ok (.iconst 1, 1) := by decide +kernel
theorem dX8_howManyAny_26 : decode cX8_howManyAny 26 = .ok (.goto 4, 3) := by decide +kernel
theorem dX8_howManyAny_29 : decode cX8_howManyAny 29 = .ok (.iconst 0, 1) := by decide +kernel
theorem dX8_howManyAny_30 : decode cX8_howManyAny 30 = .ok (.iadd, 1) := by decide +kernel
theorem dX8_howManyAny_31 : decode cX8_howManyAny 31 = .ok (.istore_n 1, 1) := by decide +kernel
theorem dX8_howManyAny_32 : decode cX8_howManyAny 32 = .ok (.iinc 2 1, 3) := by decide +kernel
theorem dX8_howManyAny_35 : decode cX8_howManyAny 35 = .ok (.goto (-31), 3) := by decide +kernel
theorem dX8_howManyAny_38 : decode cX8_howManyAny 38 = .ok (.iload_n 1, 1) := by decide +kernel
theorem dX8_howManyAny_39 : decode cX8_howManyAny 39 = .ok (.ireturn, 1) := by decide +kernel
theorem dX8_goOnFrom_0 : decode cX8_goOnFrom 0 = .ok (.aload_n 0, 1) := by decide +kernel
theorem dX8_goOnFrom_1 : decode cX8_goOnFrom 1 = .ok (.getfield 27, 3) := by decide +kernel
theorem dX8_goOnFrom_4 : decode cX8_goOnFrom 4 = .ok (.aload_n 1, 1) := by decide +kernel
theorem dX8_goOnFrom_5 : decode cX8_goOnFrom 5 = .ok (.invokevirtual 117, 3) := by decide +kernel
theorem dX8_goOnFrom_8 : decode cX8_goOnFrom 8 = .ok (.iconst 0, 1) := by decide +kernel
theorem dX8_goOnFrom_9 : decode cX8_goOnFrom 9 = .ok (.istore_n 2, 1) := by decide +kernel
theorem dX8_goOnFrom_10 : decode cX8_goOnFrom 10 = .ok (.iload_n 2, 1) := by decide +kernel
theorem dX8_goOnFrom_11 : decode cX8_goOnFrom 11 = .ok (.aload_n 0, 1) := by decide +kernel
theorem dX8_goOnFrom_12 : decode cX8_goOnFrom 12 = .ok (.getfield 9, 3) := by decide +kernel
theorem dX8_goOnFrom_15 : decode cX8_goOnFrom 15 = .ok (.if_icmp .ge 23, 3) := by decide +kernel
theorem dX8_goOnFrom_18 : decode cX8_goOnFrom 18 = .ok (.aload_n 0, 1) := by decide +kernel
theorem dX8_goOnFrom_19 : decode cX8_goOnFrom 19 = .ok (.iload_n 2, 1) := by decide +kernel
theorem dX8_goOnFrom_20 : decode cX8_goOnFrom 20 = .ok (.aload_n 0, 1) := by decide +kernel
theorem dX8_goOnFrom_21 : decode cX8_goOnFrom 21 = .ok (.getfield 27, 3) := by decide +kernel
theorem dX8_goOnFrom_24 : decode cX8_goOnFrom 24 = .ok (.getfield 116, 3) := by decide +kernel
theorem dX8_goOnFrom_27 : decode cX8_goOnFrom 27 = .ok (.iload_n 2, 1) := by decide +kernel
theorem dX8_goOnFrom_28 : decode cX8_goOnFrom 28 = .ok (.iaload, 1) := by decide +kernel
theorem dX8_goOnFrom_29 : decode cX8_goOnFrom 29 = .ok (.invokevirtual 82, 3) := by decide +kernel
theorem dX8_goOnFrom_32 : decode cX8_goOnFrom 32 = .ok (.iinc 2 1, 3) := by decide +kernel
theorem dX8_goOnFrom_35 : decode cX8_goOnFrom 35 = .ok (.goto (-25), 3) := by decide +kernel
theorem dX8_goOnFrom_38 : decode cX8_goOnFrom 38 = .ok (.aload_n 0, 1) := by decide +kernel
theorem dX8_goOnFrom_39 : decode cX8_goOnFrom 39 = .ok (.invokevirtual 88, 3) := by decide +kernel
theorem dX8_goOnFrom_42 : decode cX8_goOnFrom 42 = .ok (.return_, 1) := by decide +kernel
theorem dX8_addDeed_0 : decode cX8_addDeed 0 = .ok (.aload_n 0, 1) := by decide +kernel
theorem dX8_addDeed_1 : decode cX8_addDeed 1 = .ok (.getfield 27, 3) := by decide +kernel
theorem dX8_addDeed_4 : decode cX8_addDeed 4 = .ok (.iload_n 1, 1) := by decide +kernel
theorem dX8_addDeed_5 : decode cX8_addDeed 5 = .ok (.iload_n 2, 1) := by decide +kernel
theorem dX8_addDeed_6 : decode cX8_addDeed 6 = .ok (.invokevirtual 121, 3) := by decide +kernel
theorem dX8_addDeed_9 : decode cX8_addDeed 9 = .ok (.aload_n 0, 1) := by decide +kernel
theorem dX8_addDeed_10 : decode cX8_addDeed 10 = .ok (.iload_n 1, 1) := by decide +kernel
theorem dX8_addDeed_11 : decode cX8_addDeed 11 = .ok (.iload_n 2, 1) := by decide +kernel
theorem dX8_addDeed_12 : decode cX8_addDeed 12 = .ok (.invokevirtual 124, 3) := by decide +kernel
theorem dX8_addDeed_15 : decode cX8_addDeed 15 = .ok (.return_, 1) := by decide +kernel
theorem dX8_weighAgain_0 : decode cX8_weighAgain 0 = .ok (.aload_n 0, 1) := by decide +kernel
theorem dX8_weighAgain_1 : decode cX8_weighAgain 1 = .ok (.aload_n 0, 1) := by decide +kernel
theorem dX8_weighAgain_2 : decode cX8_weighAgain 2 = .ok (.getfield 31, 3) := by decide +kernel
theorem dX8_weighAgain_5 : decode cX8_weighAgain 5 = .ok (.lconst 1, 1) := by decide +kernel
theorem dX8_weighAgain_6 : decode cX8_weighAgain 6 = .ok (.invokevirtual 127, 3) := by decide +kernel
theorem dX8_weighAgain_9 : decode cX8_weighAgain 9 = .ok (.iconst 0, 1) := by decide +kernel
theorem dX8_weighAgain_10 : decode cX8_weighAgain 10 = .ok (.istore_n 1, 1) := by decide +kernel
theorem dX8_weighAgain_11 : decode cX8_weighAgain 11 = .ok (.iload_n 1, 1) := by decide +kernel
theorem dX8_weighAgain_12 : decode cX8_weighAgain 12 = .ok (.aload_n 0, 1) := by decide +kernel
theorem dX8_weighAgain_13 : decode cX8_weighAgain 13 = .ok (.getfield 27, 3) := by decide +kernel
theorem dX8_weighAgain_16 : decode cX8_weighAgain 16 = .ok (.getfield 85, 3) := by decide +kernel
theorem dX8_weighAgain_19 : decode cX8_weighAgain 19 = .ok (.if_icmp .ge 31, 3) := by decide +kernel
theorem dX8_weighAgain_22 : decode cX8_weighAgain 22 = .ok (.aload_n 0, 1) := by decide +kernel
theorem dX8_weighAgain_23 : decode cX8_weighAgain 23 = .ok (.aload_n 0, 1) := by decide +kernel
theorem dX8_weighAgain_24 : decode cX8_weighAgain 24 = .ok (.getfield 27, 3) := by decide +kernel
theorem dX8_weighAgain_27 : decode cX8_weighAgain 27 = .ok (.getfield 131, 3) := by decide +kernel
theorem dX8_weighAgain_30 : decode cX8_weighAgain 30 = .ok (.iload_n 1, 1) := by decide +kernel
theorem dX8_weighAgain_31 : decode cX8_weighAgain 31 = .ok (.iaload, 1) := by decide +kernel
theorem dX8_weighAgain_32 : decode cX8_weighAgain 32 = .ok (.aload_n 0, 1) := by decide +kernel
theorem dX8_weighAgain_33 : decode cX8_weighAgain 33 = .ok (.getfield 27, 3) := by decide +kernel
theorem dX8_weighAgain_36 : decode cX8_weighAgain 36 = .ok (.getfield 133, 3) := by decide +kernel
theorem dX8_weighAgain_39 : decode cX8_weighAgain 39 = .ok (.iload_n 1, 1) := by decide +kernel
theorem dX8_weighAgain_40 : decode cX8_weighAgain 40 = .ok (.iaload, 1) := by decide +kernel
theorem dX8_weighAgain_41 : decode cX8_weighAgain 41 = .ok (.invokevirtual 124, 3) := by decide +kernel
theorem dX8_weighAgain_44 : decode cX8_weighAgain 44 = .ok (.iinc 1 1, 3) := by decide +kernel
theorem dX8_weighAgain_47 : decode cX8_weighAgain 47 = .ok (.goto (-36), 3) := by decide +kernel
theorem dX8_weighAgain_50 : decode cX8_weighAgain 50 = .ok (.return_, 1) := by decide +kernel
theorem dX8_weigh_0 : decode cX8_weigh 0 = .ok (.aload_n 0, 1) := by decide +kernel
theorem dX8_weigh_1 : decode cX8_weigh 1 = .ok (.iload_n 1, 1) := by decide +kernel
theorem dX8_weigh_2 : decode cX8_weigh 2 = .ok (.invokevirtual 109, 3) := by decide +kernel
theorem dX8_weigh_5 : decode cX8_weigh 5 = .ok (.astore_n 3, 1) := by decide +kernel
theorem dX8_weigh_6 : decode cX8_weigh 6 = .ok (.aload_n 3, 1) := by decide +kernel
theorem dX8_weigh_7 : decode cX8_weigh 7 = .ok (.ifnull 16, 3) := by decide +kernel
theorem dX8_weigh_10 : decode cX8_weigh 10 = .ok (.aload_n 0, 1) := by decide +kernel
theorem dX8_weigh_11 : decode cX8_weigh 11 = .ok (.aload_n 0, 1) := by decide +kernel
theorem dX8_weigh_12 : decode cX8_weigh 12 = .ok (.getfield 31, 3) := by decide +kernel
theorem dX8_weigh_15 : decode cX8_weigh 15 = .ok (.aload_n 3, 1) := by decide +kernel
theorem dX8_weigh_16 : decode cX8_weigh 16 = .ok (.iload_n 2, 1) := by decide +kernel
theorem dX8_weigh_17 : decode cX8_weigh 17 = .ok (.invokevirtual 136, 3) := by decide +kernel
theorem dX8_weigh_20 : decode cX8_weigh 20 = .ok (.goto 21, 3) := by decide +kernel
theorem dX8_weigh_23 : decode cX8_weigh 23 = .ok (.aload_n 0, 1) := by decide +kernel
theorem dX8_weigh_24 : decode cX8_weigh 24 = .ok (.getfield 18, 3) := by decide +kernel
theorem dX8_weigh_27 : decode cX8_weigh 27 = .ok (.iload_n 2, 1) := by decide +kernel
theorem dX8_weigh_28 : decode cX8_weigh 28 = .ok (.invokevirtual 140, 3) := by decide +kernel
theorem dX8_weigh_31 : decode cX8_weigh 31 = .ok (.ifCond .eq 10, 3) := by decide +kernel
theorem dX8_weigh_34 : decode cX8_weigh 34 = .ok (.aload_n 0, 1) := by decide +kernel
theorem dX8_weigh_35 : decode cX8_weigh 35 = .ok (.getfield 31, 3) := by decide +kernel
theorem dX8_weigh_38 : decode cX8_weigh 38 = .ok (.iload_n 2, 1) := by decide +kernel
theorem dX8_weigh_39 : decode cX8_weigh 39 = .ok (.lconst 0, 1) := by decide +kernel
theorem dX8_weigh_40 : decode cX8_weigh 40 = .ok (.lastore, 1) := by decide +kernel
theorem dX8_weigh_41 : decode cX8_weigh 41 = .ok (.return_, 1) := by decide +kernel
theorem dX8_weighLook_0 : decode cX8_weighLook 0 = .ok (.iconst 0, 1) := by decide +kernel
theorem dX8_weighLook_1 : decode cX8_weighLook 1 = .ok (.istore 4, 2) := by decide +kernel
theorem dX8_weighLook_3 : decode cX8_weighLook 3 = .ok (.iload 4, 2) := by decide +kernel
theorem dX8_weighLook_5 : decode cX8_weighLook 5 = .ok (.aload_n 0, 1) := by decide +kernel
theorem dX8_weighLook_6 : decode cX8_weighLook 6 = .ok (.getfield 18, 3) := by decide +kernel
theorem dX8_weighLook_9 : decode cX8_weighLook 9 = .ok (.getfield 144, 3) := by decide +kernel
theorem dX8_weighLook_12 : decode cX8_weighLook 12 = .ok (.if_icmp .ge 40, 3) := by decide +kernel
theorem dX8_weighLook_15 : decode cX8_weighLook 15 = .ok (.aload_n 1, 1) := by decide +kernel
theorem dX8_weighLook_16 : decode cX8_weighLook 16 = .ok (.iload 4, 2) := by decide +kernel
theorem dX8_weighLook_18 : decode cX8_weighLook 18 = .ok (.laload, 1) := by decide +kernel
theorem dX8_weighLook_19 : decode cX8_weighLook 19 = .ok (.lconst 0, 1) := by decide +kernel
theorem dX8_weighLook_20 : decode cX8_weighLook 20 = .ok (.lcmp, 1) := by decide +kernel
theorem dX8_weighLook_21 : decode cX8_weighLook 21 = .ok (.ifCond .eq 25, 3) := by decide +kernel
theorem dX8_weighLook_24 : decode cX8_weighLook 24 = .ok (.aload_n 1, 1) := by decide +kernel
theorem dX8_weighLook_25 : decode cX8_weighLook 25 = .ok (.iload 4, 2) := by decide +kernel
theorem dX8_weighLook_27 : decode cX8_weighLook 27 = .ok (.dup2, 1) := by decide +kernel
theorem dX8_weighLook_28 : decode cX8_weighLook 28 = .ok (.laload, 1) := by decide +kernel
theorem dX8_weighLook_29 : decode cX8_weighLook 29 = .ok (.aload_n 2, 1) := by decide +kernel
theorem dX8_weighLook_30 : decode cX8_weighLook 30 = .ok (.aload_n 0, 1) := by decide +kernel
theorem dX8_weighLook_31 : decode cX8_weighLook 31 = .ok (.getfield 18, 3) := by decide +kernel
theorem dX8_weighLook_34 : decode cX8_weighLook 34 = .ok (.iload 4, 2) := by decide +kernel
theorem dX8_weighLook_36 : decode cX8_weighLook 36 = .ok (.iload_n 3, 1) := by decide +kernel
theorem dX8_weighLook_37 : decode cX8_weighLook 37 = .ok (.invokevirtual 146, 3) := by decide +kernel
theorem dX8_weighLook_40 : decode cX8_weighLook 40 = .ok (.invokevirtual 150, 3) := by decide +kernel
theorem dX8_weighLook_43 : decode cX8_weighLook 43 = .ok (.i2l, 1) := by decide +kernel
theorem dX8_weighLook_44 : decode cX8_weighLook 44 = .ok (.lmul, 1) := by decide +kernel
theorem dX8_weighLook_45 : decode cX8_weighLook 45 = .ok (.lastore, 1) := by decide +kernel
theorem dX8_weighLook_46 : decode cX8_weighLook 46 = .ok (.iinc 4 1, 3) := by decide +kernel
theorem dX8_weighLook_49 : decode cX8_weighLook 49 = .ok (.goto (-46), 3) := by decide +kernel
theorem dX8_weighLook_52 : decode cX8_weighLook 52 = .ok (.return_, 1) := by decide +kernel
theorem dX8_leftBehindLook_0 : decode cX8_leftBehindLook 0 = .ok (.aload_n 0, 1) := by decide +kernel
theorem dX8_leftBehindLook_1 : decode cX8_leftBehindLook 1 = .ok (.getfield 31, 3) := by decide +kernel
theorem dX8_leftBehindLook_4 : decode cX8_leftBehindLook 4 = .ok (.iconst 0, 1) := by decide +kernel
theorem dX8_leftBehindLook_5 : decode cX8_leftBehindLook 5 = .ok (.aload_n 0, 1) := by decide +kernel
theorem dX8_leftBehindLook_6 : decode cX8_leftBehindLook 6 = .ok (.getfield 35, 3) := by decide +kernel
theorem dX8_leftBehindLook_9 : decode cX8_leftBehindLook 9 = .ok (.iconst 0, 1) := by decide +kernel
theorem dX8_leftBehindLook_10 : decode cX8_leftBehindLook 10 = .ok (.aload_n 0, 1) := by decide +kernel
theorem dX8_leftBehindLook_11 : decode cX8_leftBehindLook 11 = .ok (.getfield 18, 3) := by decide +kernel
theorem dX8_leftBehindLook_14 : decode cX8_leftBehindLook 14 = .ok (.getfield 144, 3) := by decide +kernel
theorem dX8_leftBehindLook_17 : decode cX8_leftBehindLook 17 = .ok (.invokestatic 154, 3) := by decide +kernel
theorem dX8_leftBehindLook_20 : decode cX8_leftBehindLook 20 = .ok (.aload_n 0, 1) := by decide +kernel
theorem dX8_leftBehindLook_21 : decode cX8_leftBehindLook 21 = .ok (.iload_n 1, 1) := by decide +kernel
theorem dX8_leftBehindLook_22 : decode cX8_leftBehindLook 22 = .ok (.invokevirtual 109, 3) := by decide +kernel
theorem dX8_leftBehindLook_25 : decode cX8_leftBehindLook 25 = .ok (.astore_n 3, 1) := by decide +kernel
theorem dX8_leftBehindLook_26 : decode cX8_leftBehindLook 26 = .ok (.aload_n 3, 1) := by decide +kernel
theorem dX8_leftBehindLook_27 : decode cX8_leftBehindLook 27 = .ok (.ifnull 13, 3) := by decide +kernel
theorem dX8_leftBehindLook_30 : decode cX8_leftBehindLook 30 = .ok (.aload_n 0, 1) := by decide +kernel
theorem dX8_leftBehindLook_31 : decode cX8_leftBehindLook 31 = .ok (.aload_n 0, 1) := by decide +kernel
theorem dX8_leftBehindLook_32 : decode cX8_leftBehindLook 32 = .ok (.getfield 35, 3) := by decide +kernel
theorem dX8_leftBehindLook_35 : decode cX8_leftBehindLook 35 = .ok (.aload_n 3, 1) := by decide +kernel
theorem dX8_leftBehindLook_36 : decode cX8_leftBehindLook 36 = .ok (.iload_n 2, 1) := by decide +kernel
theorem dX8_leftBehindLook_37 : decode cX8_leftBehindLook 37 = .ok (.invokevirtual 136, 3) := by decide +kernel
theorem dX8_leftBehindLook_40 : decode cX8_leftBehindLook 40 = .ok (.aload_n 0, 1) := by decide +kernel
theorem dX8_leftBehindLook_41 : decode cX8_leftBehindLook 41 = .ok (.aload_n 0, 1) := by decide +kernel
theorem dX8_leftBehindLook_42 : decode cX8_leftBehindLook 42 = .ok (.getfield 35, 3) := by decide +kernel
theorem dX8_leftBehindLook_45 : decode cX8_leftBehindLook 45 = .ok (.invokevirtual 160, 3) := by decide +kernel
theorem dX8_leftBehindLook_48 : decode cX8_leftBehindLook 48 = .ok (.ireturn, 1) := by decide +kernel
theorem dX8_leftBehindTry_0 : decode cX8_leftBehindTry 0 = .ok (.aload_n 0, 1) := by decide +kernel
theorem dX8_leftBehindTry_1 : decode cX8_leftBehindTry 1 = .ok (.getfield 18, 3) := by decide +kernel
theorem dX8_leftBehindTry_4 : decode cX8_leftBehindTry 4 = .ok (.iload_n 1, 1) := by decide +kernel
theorem dX8_leftBehindTry_5 : decode cX8_leftBehindTry 5 = .ok (.invokevirtual 140, 3) := by decide +kernel
theorem dX8_leftBehindTry_8 : decode cX8_leftBehindTry 8 = .ok (.ifCond .eq 18, 3) := by decide +kernel
theorem dX8_leftBehindTry_11 : decode cX8_leftBehindTry 11 = .ok (.aload_n 0, 1) := by decide +kernel
theorem dX8_leftBehindTry_12 : decode cX8_leftBehindTry 12 = .ok (.getfield 31, 3) := by decide +kernel
theorem dX8_leftBehindTry_15 : decode cX8_leftBehindTry 15 = .ok (.iload_n 1, 1) := by decide +kernel
theorem dX8_leftBehindTry_16 : decode cX8_leftBehindTry 16 = .ok (.laload, 1) := by decide +kernel
theorem dX8_leftBehindTry_17 : decode cX8_leftBehindTry 17 = .ok (.lconst 0, 1) := by decide +kernel
theorem dX8_leftBehindTry_18 : decode cX8_leftBehindTry 18 = .ok (.lcmp, 1) := by decide +kernel
theorem dX8_leftBehindTry_19 : decode cX8_leftBehindTry 19 = .ok (.ifCond .le 7, 3) := by decide +kernel
theorem dX8_leftBehindTry_22 : decode cX8_leftBehindTry 22 = .ok (.iconst 1, 1) := by decide +kernel
theorem dX8_leftBehindTry_23 : decode cX8_leftBehindTry 23 = .ok (.goto 4, 3) := by decide +kernel
theorem dX8_leftBehindTry_26 : decode cX8_leftBehindTry 26 = .ok (.iconst 0, 1) := by decide +kernel
theorem dX8_leftBehindTry_27 : decode cX8_leftBehindTry 27 = .ok (.istore_n 2, 1) := by decide +kernel
theorem dX8_leftBehindTry_28 : decode cX8_leftBehindTry 28 = .ok (.aload_n 0, 1) := by decide +kernel
theorem dX8_leftBehindTry_29 : decode cX8_leftBehindTry 29 = .ok (.invokevirtual 164, 3) := by decide +kernel
theorem dX8_leftBehindTry_32 : decode cX8_leftBehindTry 32 = .ok (.iload_n 2, 1) := by decide +kernel
theorem dX8_leftBehindTry_33 : decode cX8_leftBehindTry 33 = .ok (.isub, 1) := by decide +kernel
theorem dX8_leftBehindTry_34 : decode cX8_leftBehindTry 34 = .ok (.ireturn, 1) := by decide +kernel
theorem dX8_setAll_0 : decode cX8_setAll 0 = .ok (.iconst 0, 1) := by decide +kernel
theorem dX8_setAll_1 : decode cX8_setAll 1 = .ok (.istore 4, 2) := by decide +kernel
theorem dX8_setAll_3 : decode cX8_setAll 3 = .ok (.iload 4, 2) := by decide +kernel
theorem dX8_setAll_5 : decode cX8_setAll 5 = .ok (.aload_n 0, 1) := by decide +kernel
theorem dX8_setAll_6 : decode cX8_setAll 6 = .ok (.getfield 18, 3) := by decide +kernel
theorem dX8_setAll_9 : decode cX8_setAll 9 = .ok (.getfield 144, 3) := by decide +kernel
theorem dX8_setAll_12 : decode cX8_setAll 12 = .ok (.if_icmp .ge 14, 3) := by decide +kernel
theorem dX8_setAll_15 : decode cX8_setAll 15 = .ok (.aload_n 1, 1) := by decide +kernel
theorem dX8_setAll_16 : decode cX8_setAll 16 = .ok (.iload 4, 2) := by decide +kernel
theorem dX8_setAll_18 : decode cX8_setAll 18 = .ok (.lload_n 2, 1) := by decide +kernel
theorem dX8_setAll_19 : decode cX8_setAll 19 = .ok (.lastore, 1) := by decide +kernel
theorem dX8_setAll_20 : decode cX8_setAll 20 = .ok (.iinc 4 1, 3) := by decide +kernel
theorem dX8_setAll_23 : decode cX8_setAll 23 = .ok (.goto (-20), 3) := by decide +kernel
theorem dX8_setAll_26 : decode cX8_setAll 26 = .ok (.return_, 1) := by decide +kernel
theorem dX8_sumOf_0 : decode cX8_sumOf 0 = .ok (.lconst 0, 1) := by decide +kernel
theorem dX8_sumOf_1 : decode cX8_sumOf 1 = .ok (.lstore_n 2, 1) := by decide +kernel
theorem dX8_sumOf_2 : decode cX8_sumOf 2 = .ok (.iconst 0, 1) := by decide +kernel
theorem dX8_sumOf_3 : decode cX8_sumOf 3 = .ok (.istore 4, 2) := by decide +kernel
theorem dX8_sumOf_5 : decode cX8_sumOf 5 = .ok (.iload 4, 2) := by decide +kernel
theorem dX8_sumOf_7 : decode cX8_sumOf 7 = .ok (.aload_n 0, 1) := by decide +kernel
theorem dX8_sumOf_8 : decode cX8_sumOf 8 = .ok (.getfield 18, 3) := by decide +kernel
theorem dX8_sumOf_11 : decode cX8_sumOf 11 = .ok (.getfield 144, 3) := by decide +kernel
theorem dX8_sumOf_14 : decode cX8_sumOf 14 = .ok (.if_icmp .ge 16, 3) := by decide +kernel
theorem dX8_sumOf_17 : decode cX8_sumOf 17 = .ok (.lload_n 2, 1) := by decide +kernel
theorem dX8_sumOf_18 : decode cX8_sumOf 18 = .ok (.aload_n 1, 1) := by decide +kernel
theorem dX8_sumOf_19 : decode cX8_sumOf 19 = .ok (.iload 4, 2) := by decide +kernel
theorem dX8_sumOf_21 : decode cX8_sumOf 21 = .ok (.laload, 1) := by decide +kernel
theorem dX8_sumOf_22 : decode cX8_sumOf 22 = .ok (.ladd, 1) := by decide +kernel
theorem dX8_sumOf_23 : decode cX8_sumOf 23 = .ok (.lstore_n 2, 1) := by decide +kernel
theorem dX8_sumOf_24 : decode cX8_sumOf 24 = .ok (.iinc 4 1, 3) := by decide +kernel
theorem dX8_sumOf_27 : decode cX8_sumOf 27 = .ok (.goto (-22), 3) := by decide +kernel
theorem dX8_sumOf_30 : decode cX8_sumOf 30 = .ok (.lload_n 2, 1) := by decide +kernel
theorem dX8_sumOf_31 : decode cX8_sumOf 31 = .ok (.lreturn, 1) := by decide +kernel
theorem dX8_howManyAbove_0 : decode cX8_howManyAbove 0 = .ok (.iconst 0, 1) := by decide +kernel
theorem dX8_howManyAbove_1 : decode cX8_howManyAbove 1 = .ok (.istore_n 2, 1) := by decide +kernel
theorem dX8_howManyAbove_2 : decode cX8_howManyAbove 2 = .ok (.iconst 0, 1) := by decide +kernel
theorem dX8_howManyAbove_3 : decode cX8_howManyAbove 3 = .ok (.istore_n 3, 1) := by decide +kernel
theorem dX8_howManyAbove_4 : decode cX8_howManyAbove 4 = .ok (.iload_n 3, 1) := by decide +kernel
theorem dX8_howManyAbove_5 : decode cX8_howManyAbove 5 = .ok (.aload_n 0, 1) := by decide +kernel
theorem dX8_howManyAbove_6 : decode cX8_howManyAbove 6 = .ok (.getfield 18, 3) := by decide +kernel
theorem dX8_howManyAbove_9 : decode cX8_howManyAbove 9 = .ok (.getfield 144, 3) := by decide +kernel
theorem dX8_howManyAbove_12 : decode cX8_howManyAbove 12 = .ok (.if_icmp .ge 25, 3) := by decide +kernel
theorem dX8_howManyAbove_15 : decode cX8_howManyAbove 15 = .ok (.iload_n 2, 1) := by decide +kernel
theorem dX8_howManyAbove_16 : decode cX8_howManyAbove 16 = .ok (.aload_n 1, 1) := by decide +kernel
theorem dX8_howManyAbove_17 : decode cX8_howManyAbove 17 = .ok (.iload_n 3, 1) := by decide +kernel
theorem dX8_howManyAbove_18 : decode cX8_howManyAbove 18 = .ok (.laload, 1) := by decide +kernel
theorem dX8_howManyAbove_19 : decode cX8_howManyAbove 19 = .ok (.lconst 0, 1) := by decide +kernel
theorem dX8_howManyAbove_20 : decode cX8_howManyAbove 20 = .ok (.lcmp, 1) := by decide +kernel
theorem dX8_howManyAbove_21 : decode cX8_howManyAbove 21 = .ok (.ifCond .le 7, 3) := by decide +kernel
theorem dX8_howManyAbove_24 : decode cX8_howManyAbove 24 = .ok (.iconst 1, 1) := by decide +kernel
theorem dX8_howManyAbove_25 : decode cX8_howManyAbove 25 = .ok (.goto 4, 3) := by decide +kernel
theorem dX8_howManyAbove_28 : decode cX8_howManyAbove 28 = .ok (.iconst 0, 1) := by decide +kernel
theorem dX8_howManyAbove_29 : decode cX8_howManyAbove 29 = .ok (.iadd, 1) := by decide +kernel
theorem dX8_howManyAbove_30 : decode cX8_howManyAbove 30 = .ok (.istore_n 2, 1) := by decide +kernel
theorem dX8_howManyAbove_31 : decode cX8_howManyAbove 31 = .ok (.iinc 3 1, 3) := by decide +kernel
theorem dX8_howManyAbove_34 : decode cX8_howManyAbove 34 = .ok (.goto (-30), 3) := by decide +kernel
theorem dX8_howManyAbove_37 : decode cX8_howManyAbove 37 = .ok (.iload_n 2, 1) := by decide +kernel
theorem dX8_howManyAbove_38 : decode cX8_howManyAbove 38 = .ok (.ireturn, 1) := by decide +kernel
theorem dX8_howManyAre_0 : decode cX8_howManyAre 0 = .ok (.iconst 0, 1) := by decide +kernel
theorem dX8_howManyAre_1 : decode cX8_howManyAre 1 = .ok (.istore 4, 2) := by decide +kernel
theorem dX8_howManyAre_3 : decode cX8_howManyAre 3 = .ok (.iconst 0, 1) := by decide +kernel
theorem dX8_howManyAre_4 : decode cX8_howManyAre 4 = .ok (.istore 5, 2) := by decide +kernel
theorem dX8_howManyAre_6 : decode cX8_howManyAre 6 = .ok (.iload 5, 2) := by decide +kernel
theorem dX8_howManyAre_8 : decode cX8_howManyAre 8 = .ok (.aload_n 0, 1) := by decide +kernel
theorem dX8_howManyAre_9 : decode cX8_howManyAre 9 = .ok (.getfield 18, 3) := by decide +kernel
theorem dX8_howManyAre_12 : decode cX8_howManyAre 12 = .ok (.getfield 144, 3) := by decide +kernel
theorem dX8_howManyAre_15 : decode cX8_howManyAre 15 = .ok (.if_icmp .ge 28, 3) := by decide +kernel
theorem dX8_howManyAre_18 : decode cX8_howManyAre 18 = .ok (.iload 4, 2) := by decide +kernel
theorem dX8_howManyAre_20 : decode cX8_howManyAre 20 = .ok (.aload_n 1, 1) := by decide +kernel
theorem dX8_howManyAre_21 : decode cX8_howManyAre 21 = .ok (.iload 5, 2) := by decide +kernel
theorem dX8_howManyAre_23 : decode cX8_howManyAre 23 = .ok (.laload, 1) := by decide +kernel
theorem dX8_howManyAre_24 : decode cX8_howManyAre 24 = .ok (.lload_n 2, 1) := by decide +kernel
theorem dX8_howManyAre_25 : decode cX8_howManyAre 25 = .ok (.lcmp, 1) := by decide +kernel
theorem dX8_howManyAre_26 : decode cX8_howManyAre 26 = .ok (.ifCond .ne 7, 3) := by decide +kernel
theorem dX8_howManyAre_29 : decode cX8_howManyAre 29 = .ok (.iconst 1, 1) := by decide +kernel
theorem dX8_howManyAre_30 : decode cX8_howManyAre 30 = .ok (.goto 4, 3) := by decide +kernel
theorem dX8_howManyAre_33 : decode cX8_howManyAre 33 = .ok (.iconst 0, 1) := by decide +kernel
theorem dX8_howManyAre_34 : decode cX8_howManyAre 34 = .ok (.iadd, 1) := by decide +kernel
theorem dX8_howManyAre_35 : decode cX8_howManyAre 35 = .ok (.istore 4, 2) := by decide +kernel
theorem dX8_howManyAre_37 : decode cX8_howManyAre 37 = .ok (.iinc 5 1, 3) := by decide +kernel
theorem dX8_howManyAre_40 : decode cX8_howManyAre 40 = .ok (.goto (-34), 3) := by decide +kernel
theorem dX8_howManyAre_43 : decode cX8_howManyAre 43 = .ok (.iload 4, 2) := by decide +kernel
theorem dX8_howManyAre_45 : decode cX8_howManyAre 45 = .ok (.ireturn, 1) := by decide +kernel
theorem dX8_firstAbove_0 : decode cX8_firstAbove 0 = .ok (.iconst 0, 1) := by decide +kernel
theorem dX8_firstAbove_1 : decode cX8_firstAbove 1 = .ok (.istore_n 2, 1) := by decide +kernel
theorem dX8_firstAbove_2 : decode cX8_firstAbove 2 = .ok (.iload_n 2, 1) := by decide +kernel
theorem dX8_firstAbove_3 : decode cX8_firstAbove 3 = .ok (.iconst 1, 1) := by decide +kernel
theorem dX8_firstAbove_4 : decode cX8_firstAbove 4 = .ok (.iadd, 1) := by decide +kernel
theorem dX8_firstAbove_5 : decode cX8_firstAbove 5 = .ok (.aload_n 0, 1) := by decide +kernel
theorem dX8_firstAbove_6 : decode cX8_firstAbove 6 = .ok (.getfield 18, 3) := by decide +kernel
theorem dX8_firstAbove_9 : decode cX8_firstAbove 9 = .ok (.getfield 144, 3) := by decide +kernel
theorem dX8_firstAbove_12 : decode cX8_firstAbove 12 = .ok (.if_icmp .ge 17, 3) := by decide +kernel
theorem dX8_firstAbove_15 : decode cX8_firstAbove 15 = .ok (.aload_n 1, 1) := by decide +kernel
theorem dX8_firstAbove_16 : decode cX8_firstAbove 16 = .ok (.iload_n 2, 1) := by decide +kernel
theorem dX8_firstAbove_17 : decode cX8_firstAbove 17 = .ok (.laload, 1) := by decide +kernel
theorem dX8_firstAbove_18 : decode cX8_firstAbove 18 = .ok (.lconst 0, 1) := by decide +kernel
theorem dX8_firstAbove_19 : decode cX8_firstAbove 19 = .ok (.lcmp, 1) := by decide +kernel
theorem dX8_firstAbove_20 : decode cX8_firstAbove 20 = .ok (.ifCond .ne 9, 3) := by decide +kernel
theorem dX8_firstAbove_23 : decode cX8_firstAbove 23 = .ok (.iinc 2 1, 3) := by decide +kernel
theorem dX8_firstAbove_26 : decode cX8_firstAbove 26 = .ok (.goto (-24), 3) := by decide +kernel
theorem dX8_firstAbove_29 : decode cX8_firstAbove 29 = .ok (.iload_n 2, 1) := by decide +kernel
theorem dX8_firstAbove_30 : decode cX8_firstAbove 30 = .ok (.ireturn, 1) := by decide +kernel
theorem dX8_likeliest_0 : decode cX8_likeliest 0 = .ok (.iconst 0, 1) := by decide +kernel
theorem dX8_likeliest_1 : decode cX8_likeliest 1 = .ok (.istore_n 2, 1) := by decide +kernel
theorem dX8_likeliest_2 : decode cX8_likeliest 2 = .ok (.iconst 1, 1) := by decide +kernel
theorem dX8_likeliest_3 : decode cX8_likeliest 3 = .ok (.istore_n 3, 1) := by decide +kernel
theorem dX8_likeliest_4 : decode cX8_likeliest 4 = .ok (.iload_n 3, 1) := by decide +kernel
theorem dX8_likeliest_5 : decode cX8_likeliest 5 = .ok (.aload_n 0, 1) := by decide +kernel
theorem dX8_likeliest_6 : decode cX8_likeliest 6 = .ok (.getfield 18, 3) := by decide +kernel
theorem dX8_likeliest_9 : decode cX8_likeliest 9 = .ok (.getfield 144, 3) := by decide +kernel
theorem dX8_likeliest_12 : decode cX8_likeliest 12 = .ok (.if_icmp .ge 25, 3) := by decide +kernel
theorem dX8_likeliest_15 : decode cX8_likeliest 15 = .ok (.aload_n 1, 1) := by decide +kernel
theorem dX8_likeliest_16 : decode cX8_likeliest 16 = .ok (.iload_n 3, 1) := by decide +kernel
theorem dX8_likeliest_17 : decode cX8_likeliest 17 = .ok (.laload, 1) := by decide +kernel
theorem dX8_likeliest_18 : decode cX8_likeliest 18 = .ok (.aload_n 1, 1) := by decide +kernel
theorem dX8_likeliest_19 : decode cX8_likeliest 19 = .ok (.iload_n 2, 1) := by decide +kernel
theorem dX8_likeliest_20 : decode cX8_likeliest 20 = .ok (.laload, 1) := by decide +kernel
theorem dX8_likeliest_21 : decode cX8_likeliest 21 = .ok (.lcmp, 1) := by decide +kernel
theorem dX8_likeliest_22 : decode cX8_likeliest 22 = .ok (.ifCond .le 7, 3) := by decide +kernel
theorem dX8_likeliest_25 : decode cX8_likeliest 25 = .ok (.iload_n 3, 1) := by decide +kernel
theorem dX8_likeliest_26 : decode cX8_likeliest 26 = .ok (.goto 4, 3) := by decide +kernel
theorem dX8_likeliest_29 : decode cX8_likeliest 29 = .ok (.iload_n 2, 1) := by decide +kernel
theorem dX8_likeliest_30 : decode cX8_likeliest 30 = .ok (.istore_n 2, 1) := by decide +kernel
theorem dX8_likeliest_31 : decode cX8_likeliest 31 = .ok (.iinc 3 1, 3) := by decide +kernel
theorem dX8_likeliest_34 : decode cX8_likeliest 34 = .ok (.goto (-30), 3) := by decide +kernel
theorem dX8_likeliest_37 : decode cX8_likeliest 37 = .ok (.iload_n 2, 1) := by decide +kernel
theorem dX8_likeliest_38 : decode cX8_likeliest 38 = .ok (.ireturn, 1) := by decide +kernel
theorem dX8_howManyCanBe_0 : decode cX8_howManyCanBe 0 = .ok (.aload_n 0, 1) := by decide +kernel
theorem dX8_howManyCanBe_1 : decode cX8_howManyCanBe 1 = .ok (.aload_n 0, 1) := by decide +kernel
theorem dX8_howManyCanBe_2 : decode cX8_howManyCanBe 2 = .ok (.getfield 31, 3) := by decide +kernel
theorem dX8_howManyCanBe_5 : decode cX8_howManyCanBe 5 = .ok (.invokevirtual 160, 3) := by decide +kernel
theorem dX8_howManyCanBe_8 : decode cX8_howManyCanBe 8 = .ok (.ireturn, 1) := by decide +kernel
theorem dX8_weightAt_0 : decode cX8_weightAt 0 = .ok (.lconst 0, 1) := by decide +kernel
theorem dX8_weightAt_1 : decode cX8_weightAt 1 = .ok (.lstore_n 3, 1) := by decide +kernel
theorem dX8_weightAt_2 : decode cX8_weightAt 2 = .ok (.iconst 0, 1) := by decide +kernel
theorem dX8_weightAt_3 : decode cX8_weightAt 3 = .ok (.istore 5, 2) := by decide +kernel
theorem dX8_weightAt_5 : decode cX8_weightAt 5 = .ok (.iload 5, 2) := by decide +kernel
theorem dX8_weightAt_7 : decode cX8_weightAt 7 = .ok (.aload_n 0, 1) := by decide +kernel
theorem dX8_weightAt_8 : decode cX8_weightAt 8 = .ok (.getfield 18, 3) := by decide +kernel
theorem dX8_weightAt_11 : decode cX8_weightAt 11 = .ok (.getfield 144, 3) := by decide +kernel
theorem dX8_weightAt_14 : decode cX8_weightAt 14 = .ok (.if_icmp .ge 37, 3) := by decide +kernel
theorem dX8_weightAt_17 : decode cX8_weightAt 17 = .ok (.lload_n 3, 1) := by decide +kernel
theorem dX8_weightAt_18 : decode cX8_weightAt 18 = .ok (.aload_n 0, 1) := by decide +kernel
theorem dX8_weightAt_19 : decode cX8_weightAt 19 = .ok (.getfield 18, 3) := by decide +kernel
theorem dX8_weightAt_22 : decode cX8_weightAt 22 = .ok (.iload 5, 2) := by decide +kernel
theorem dX8_weightAt_24 : decode cX8_weightAt 24 = .ok (.iload_n 1, 1) := by decide +kernel
theorem dX8_weightAt_25 : decode cX8_weightAt 25 = .ok (.invokevirtual 168, 3) := by decide +kernel
theorem dX8_weightAt_28 : decode cX8_weightAt 28 = .ok (.iload_n 2, 1) := by decide +kernel
theorem dX8_weightAt_29 : decode cX8_weightAt 29 = .ok (.if_icmp .ne 13, 3) := by decide +kernel
theorem dX8_weightAt_32 : decode cX8_weightAt 32 = .ok (.aload_n 0, 1) := by decide +kernel
theorem dX8_weightAt_33 : decode cX8_weightAt 33 = .ok (.getfield 31, 3) := by decide +kernel
theorem dX8_weightAt_36 : decode cX8_weightAt 36 = .ok (.iload 5, 2) := by decide +kernel
theorem dX8_weightAt_38 : decode cX8_weightAt 38 = .ok (.laload, 1) := by decide +kernel
theorem dX8_weightAt_39 : decode cX8_weightAt 39 = .ok (.goto 4, 3) := by decide +kernel
theorem dX8_weightAt_42 : decode cX8_weightAt 42 = .ok (.lconst 0, 1) := by decide +kernel
theorem dX8_weightAt_43 : decode cX8_weightAt 43 = .ok (.ladd, 1) := by decide +kernel
theorem dX8_weightAt_44 : decode cX8_weightAt 44 = .ok (.lstore_n 3, 1) := by decide +kernel
theorem dX8_weightAt_45 : decode cX8_weightAt 45 = .ok (.iinc 5 1, 3) := by decide +kernel
theorem dX8_weightAt_48 : decode cX8_weightAt 48 = .ok (.goto (-43), 3) := by decide +kernel
theorem dX8_weightAt_51 : decode cX8_weightAt 51 = .ok (.lload_n 3, 1) := by decide +kernel
theorem dX8_weightAt_52 : decode cX8_weightAt 52 = .ok (.lreturn, 1) := by decide +kernel
theorem dX8_certainNotch_0 : decode cX8_certainNotch 0 = .ok (.aload_n 0, 1) := by decide +kernel
theorem dX8_certainNotch_1 : decode cX8_certainNotch 1 = .ok (.getfield 18, 3) := by decide +kernel
theorem dX8_certainNotch_4 : decode cX8_certainNotch 4 = .ok (.aload_n 0, 1) := by decide +kernel
theorem dX8_certainNotch_5 : decode cX8_certainNotch 5 = .ok (.aload_n 0, 1) := by decide +kernel
theorem dX8_certainNotch_6 : decode cX8_certainNotch 6 = .ok (.getfield 31, 3) := by decide +kernel
theorem dX8_certainNotch_9 : decode cX8_certainNotch 9 = .ok (.invokevirtual 171, 3) := by decide +kernel
theorem dX8_certainNotch_12 : decode cX8_certainNotch 12 = .ok (.iload_n 1, 1) := by decide +kernel
theorem dX8_certainNotch_13 : decode cX8_certainNotch 13 = .ok (.invokevirtual 168, 3) := by decide +kernel
theorem dX8_certainNotch_16 : decode cX8_certainNotch 16 = .ok (.istore_n 2, 1) := by decide +kernel
theorem dX8_certainNotch_17 : decode cX8_certainNotch 17 = .ok (.aload_n 0, 1) := by decide +kernel
theorem dX8_certainNotch_18 : decode cX8_certainNotch 18 = .ok (.iload_n 1, 1) := by decide +kernel
theorem dX8_certainNotch_19 : decode cX8_certainNotch 19 = .ok (.iload_n 2, 1) := by decide +kernel
theorem dX8_certainNotch_20 : decode cX8_certainNotch 20 = .ok (.invokevirtual 174, 3) := by decide +kernel
theorem dX8_certainNotch_23 : decode cX8_certainNotch 23 = .ok (.aload_n 0, 1) := by decide +kernel
theorem dX8_certainNotch_24 : decode cX8_certainNotch 24 = .ok (.aload_n 0, 1) := by decide +kernel
theorem dX8_certainNotch_25 : decode cX8_certainNotch 25 = .ok (.getfield 31, 3) := by decide +kernel
theorem dX8_certainNotch_28 : decode cX8_certainNotch 28 = .ok (.invokevirtual 178, 3) := by decide +kernel
theorem dX8_certainNotch_31 : decode cX8_certainNotch 31 = .ok (.lcmp, 1) := by decide +kernel
theorem dX8_certainNotch_32 : decode cX8_certainNotch 32 = .ok (.ifCond .ne 7, 3) := by decide +kernel
theorem dX8_certainNotch_35 : decode cX8_certainNotch 35 = .ok (.iload_n 2, 1) := by decide +kernel
theorem dX8_certainNotch_36 : decode cX8_certainNotch 36 = .ok (.goto 5, 3) := by decide +kernel
theorem dX8_certainNotch_39 : decode cX8_certainNotch 39 = .ok (.bipush (-9), 2) := by decide +kernel
theorem dX8_certainNotch_41 : decode cX8_certainNotch 41 = .ok (.ireturn, 1) := by decide +kernel
theorem dX8_sortCodes_0 : decode cX8_sortCodes 0 = .ok (.iconst 0, 1) := by decide +kernel
theorem dX8_sortCodes_1 : decode cX8_sortCodes 1 = .ok (.istore_n 1, 1) := by decide +kernel
theorem dX8_sortCodes_2 : decode cX8_sortCodes 2 = .ok (.iconst 0, 1) := by decide +kernel
theorem dX8_sortCodes_3 : decode cX8_sortCodes 3 = .ok (.istore_n 2, 1) := by decide +kernel
theorem dX8_sortCodes_4 : decode cX8_sortCodes 4 = .ok (.iload_n 2, 1) := by decide +kernel
theorem dX8_sortCodes_5 : decode cX8_sortCodes 5 = .ok (.aload_n 0, 1) := by decide +kernel
theorem dX8_sortCodes_6 : decode cX8_sortCodes 6 = .ok (.getfield 18, 3) := by decide +kernel
theorem dX8_sortCodes_9 : decode cX8_sortCodes 9 = .ok (.getfield 144, 3) := by decide +kernel
theorem dX8_sortCodes_12 : decode cX8_sortCodes 12 = .ok (.if_icmp .ge 79, 3) := by decide +kernel
theorem dX8_sortCodes_15 : decode cX8_sortCodes 15 = .ok (.aload_n 0, 1) := by decide +kernel
theorem dX8_sortCodes_16 : decode cX8_sortCodes 16 = .ok (.getfield 31, 3) := by decide +kernel
theorem dX8_sortCodes_19 : decode cX8_sortCodes 19 = .ok (.iload_n 2, 1) := by decide +kernel
theorem dX8_sortCodes_20 : decode cX8_sortCodes 20 = .ok (.laload, 1) := by decide +kernel
theorem dX8_sortCodes_21 : decode cX8_sortCodes 21 = .ok (.lconst 0, 1) := by decide +kernel
theorem dX8_sortCodes_22 : decode cX8_sortCodes 22 = .ok (.lcmp, 1) := by decide +kernel
theorem dX8_sortCodes_23 : decode cX8_sortCodes 23 = .ok (.ifCond .le 62, 3) := by decide +kernel
theorem dX8_sortCodes_26 : decode cX8_sortCodes 26 = .ok (.iload_n 1, 1) := by decide +kernel
theorem dX8_sortCodes_27 : decode cX8_sortCodes 27 = .ok (.istore_n 3, 1) := by decide +kernel
theorem dX8_sortCodes_28 : decode cX8_sortCodes 28 = .ok (.iload_n 3, 1) := by decide +kernel
theorem dX8_sortCodes_29 : decode cX8_sortCodes 29 = .ok (.ifCond .le 46, 3) := by decide +kernel
theorem dX8_sortCodes_32 : decode cX8_sortCodes 32 = .ok (.aload_n 0, 1) := by decide +kernel
theorem dX8_sortCodes_33 : decode cX8_sortCodes 33 = .ok (.getfield 31, 3) := by decide +kernel
theorem dX8_sortCodes_36 : decode cX8_sortCodes 36 = .ok (.aload_n 0, 1) := by decide +kernel
theorem dX8_sortCodes_37 : decode cX8_sortCodes 37 = .ok (.getfield 38, 3) := by decide +kernel
theorem dX8_sortCodes_40 : decode cX8_sortCodes 40 = .ok (.iload_n 3, 1) := by decide +kernel
theorem dX8_sortCodes_41 : decode cX8_sortCodes 41 = .ok (.iconst 1, 1) := by decide +kernel
theorem dX8_sortCodes_42 : decode cX8_sortCodes 42 = .ok (.isub, 1) := by decide +kernel
theorem dX8_sortCodes_43 : decode cX8_sortCodes 43 = .ok (.iaload, 1) := by decide +kernel
theorem dX8_sortCodes_44 : decode cX8_sortCodes 44 = .ok (.laload, 1) := by decide +kernel
theorem dX8_sortCodes_45 : decode cX8_sortCodes 45 = .ok (.aload_n 0, 1) := by decide +kernel
theorem dX8_sortCodes_46 : decode cX8_sortCodes 46 = .ok (.getfield 31, 3) := by decide +kernel
theorem dX8_sortCodes_49 : decode cX8_sortCodes 49 = .ok (.iload_n 2, 1) := by decide +kernel
theorem dX8_sortCodes_50 : decode cX8_sortCodes 50 = .ok (.laload, 1) := by decide +kernel
theorem dX8_sortCodes_51 : decode cX8_sortCodes 51 = .ok (.lcmp, 1) := by decide +kernel
theorem dX8_sortCodes_52 : decode cX8_sortCodes 52 = .ok (.ifCond .ge 23, 3) := by decide +kernel
theorem dX8_sortCodes_55 : decode cX8_sortCodes 55 = .ok (.aload_n 0, 1) := by decide +kernel
theorem dX8_sortCodes_56 : decode cX8_sortCodes 56 = .ok (.getfield 38, 3) := by decide +kernel
theorem dX8_sortCodes_59 : decode cX8_sortCodes 59 = .ok (.iload_n 3, 1) := by decide +kernel
theorem dX8_sortCodes_60 : decode cX8_sortCodes 60 = .ok (.aload_n 0, 1) := by decide +kernel
theorem dX8_sortCodes_61 : decode cX8_sortCodes 61 = .ok (.getfield 38, 3) := by decide +kernel
theorem dX8_sortCodes_64 : decode cX8_sortCodes 64 = .ok (.iload_n 3, 1) := by decide +kernel
theorem dX8_sortCodes_65 : decode cX8_sortCodes 65 = .ok (.iconst 1, 1) := by decide +kernel
theorem dX8_sortCodes_66 : decode cX8_sortCodes 66 = .ok (.isub, 1) := by decide +kernel
theorem dX8_sortCodes_67 : decode cX8_sortCodes 67 = .ok (.iaload, 1) := by decide +kernel
theorem dX8_sortCodes_68 : decode cX8_sortCodes 68 = .ok (.iastore, 1) := by decide +kernel
theorem dX8_sortCodes_69 : decode cX8_sortCodes 69 = .ok (.iinc 3 (-1), 3) := by decide +kernel
theorem dX8_sortCodes_72 : decode cX8_sortCodes 72 = .ok (.goto (-44), 3) := by decide +kernel
theorem dX8_sortCodes_75 : decode cX8_sortCodes 75 = .ok (.aload_n 0, 1) := by decide +kernel
theorem dX8_sortCodes_76 : decode cX8_sortCodes 76 = .ok (.getfield 38, 3) := by decide +kernel
theorem dX8_sortCodes_79 : decode cX8_sortCodes 79 = .ok (.iload_n 3, 1) := by decide +kernel
theorem dX8_sortCodes_80 : decode cX8_sortCodes 80 = .ok (.iload_n 2, 1) := by decide +kernel
theorem dX8_sortCodes_81 : decode cX8_sortCodes 81 = .ok (.iastore, 1) := by decide +kernel
theorem dX8_sortCodes_82 : decode cX8_sortCodes 82 = .ok (.iinc 1 1, 3) := by decide +kernel
theorem dX8_sortCodes_85 : decode cX8_sortCodes 85 = .ok (.iinc 2 1, 3) := by decide +kernel
theorem dX8_sortCodes_88 : decode cX8_sortCodes 88 = .ok (.goto (-84), 3) := by decide +kernel
theorem dX8_sortCodes_91 : decode cX8_sortCodes 91 = .ok (.iload_n 1, 1) := by decide +kernel
theorem dX8_sortCodes_92 : decode cX8_sortCodes 92 = .ok (.ireturn, 1) := by decide +kernel
theorem dX8_triesInAll_0 : decode cX8_triesInAll 0 = .ok (.aload_n 0, 1) := by decide +kernel
theorem dX8_triesInAll_1 : decode cX8_triesInAll 1 = .ok (.invokevirtual 182, 3) := by decide +kernel
theorem dX8_triesInAll_4 : decode cX8_triesInAll 4 = .ok (.istore_n 1, 1) := by decide +kernel
theorem dX8_triesInAll_5 : decode cX8_triesInAll 5 = .ok (.lconst 0, 1) := by decide +kernel
theorem dX8_triesInAll_6 : decode cX8_triesInAll 6 = .ok (.lstore_n 2, 1) := by decide +kernel
theorem dX8_triesInAll_7 : decode cX8_triesInAll 7 = .ok (.iconst 0, 1) := by decide +kernel
theorem dX8_triesInAll_8 : decode cX8_triesInAll 8 = .ok (.istore 4, 2) := by decide +kernel
theorem dX8_triesInAll_10 : decode cX8_triesInAll 10 = .ok (.iload 4, 2) := by decide +kernel
theorem dX8_triesInAll_12 : decode cX8_triesInAll 12 = .ok (.iload_n 1, 1) := by decide +kernel
theorem dX8_triesInAll_13 : decode cX8_triesInAll 13 = .ok (.if_icmp .ge 30, 3) := by decide +kernel
theorem dX8_triesInAll_16 : decode cX8_triesInAll 16 = .ok (.lload_n 2, 1) := by decide +kernel
theorem dX8_triesInAll_17 : decode cX8_triesInAll 17 = .ok (.iload 4, 2) := by decide +kernel
theorem dX8_triesInAll_19 : decode cX8_triesInAll 19 = .ok (.iconst 1, 1) := by decide +kernel
theorem dX8_triesInAll_20 : decode cX8_triesInAll 20 = .ok (.iadd, 1) := by decide +kernel
theorem dX8_triesInAll_21 : decode cX8_triesInAll 21 = .ok (.i2l, 1) := by decide +kernel
theorem dX8_triesInAll_22 : decode cX8_triesInAll 22 = .ok (.aload_n 0, 1) := by decide +kernel
theorem dX8_triesInAll_23 : decode cX8_triesInAll 23 = .ok (.getfield 31, 3) := by decide +kernel
theorem dX8_triesInAll_26 : decode cX8_triesInAll 26 = .ok (.aload_n 0, 1) := by decide +kernel
theorem dX8_triesInAll_27 : decode cX8_triesInAll 27 = .ok (.getfield 38, 3) := by decide +kernel
theorem dX8_triesInAll_30 : decode cX8_triesInAll 30 = .ok (.iload 4, 2) := by decide +kernel
theorem dX8_triesInAll_32 : decode cX8_triesInAll 32 = .ok (.iaload, 1) := by decide +kernel
theorem dX8_triesInAll_33 : decode cX8_triesInAll 33 = .ok (.laload, 1) := by decide +kernel
theorem dX8_triesInAll_34 : decode cX8_triesInAll 34 = .ok (.lmul, 1) := by decide +kernel
theorem dX8_triesInAll_35 : decode cX8_triesInAll 35 = .ok (.ladd, 1) := by decide +kernel
theorem dX8_triesInAll_36 : decode cX8_triesInAll 36 = .ok (.lstore_n 2, 1) := by decide +kernel
theorem dX8_triesInAll_37 : decode cX8_triesInAll 37 = .ok (.iinc 4 1, 3) := by decide +kernel
theorem dX8_triesInAll_40 : decode cX8_triesInAll 40 = .ok (.goto (-30), 3) := by decide +kernel
theorem dX8_triesInAll_43 : decode cX8_triesInAll 43 = .ok (.lload_n 2, 1) := by decide +kernel
theorem dX8_triesInAll_44 : decode cX8_triesInAll 44 = .ok (.lreturn, 1) := by decide +kernel
theorem dX8_weightOfFirst_0 : decode cX8_weightOfFirst 0 = .ok (.iload_n 1, 1) := by decide +kernel
theorem dX8_weightOfFirst_1 : decode cX8_weightOfFirst 1 = .ok (.aload_n 0, 1) := by decide +kernel
theorem dX8_weightOfFirst_2 : decode cX8_weightOfFirst 2 = .ok (.invokevirtual 182, 3) := by decide +kernel
theorem dX8_weightOfFirst_5 : decode cX8_weightOfFirst 5 = .ok (.invokestatic 185, 3) := by decide +kernel
theorem dX8_weightOfFirst_8 : decode cX8_weightOfFirst 8 = .ok (.istore_n 2, 1) := by decide +kernel
theorem dX8_weightOfFirst_9 : decode cX8_weightOfFirst 9 = .ok (.lconst 0, 1) := by decide +kernel
theorem dX8_weightOfFirst_10 : decode cX8_weightOfFirst 10 = .ok (.lstore_n 3, 1) := by decide +kernel
theorem dX8_weightOfFirst_11 : decode cX8_weightOfFirst 11 = .ok (.iconst 0, 1) := by decide +kernel
theorem dX8_weightOfFirst_12 : decode cX8_weightOfFirst 12 = .ok (.istore 5, 2) := by decide +kernel
theorem dX8_weightOfFirst_14 : decode cX8_weightOfFirst 14 = .ok (.iload 5, 2) := by decide +kernel
theorem dX8_weightOfFirst_16 : decode cX8_weightOfFirst 16 = .ok (.iload_n 2, 1) := by decide +kernel
theorem dX8_weightOfFirst_17 : decode cX8_weightOfFirst 17 = .ok (.if_icmp .ge 24, 3) := by decide +kernel
theorem dX8_weightOfFirst_20 : decode cX8_weightOfFirst 20 = .ok (.lload_n 3, 1) := by decide +kernel
theorem dX8_weightOfFirst_21 : decode cX8_weightOfFirst 21 = .ok (.aload_n 0, 1) := by decide +kernel
theorem dX8_weightOfFirst_22 : decode cX8_weightOfFirst 22 = .ok (.getfield 31, 3) := by decide +kernel
theorem dX8_weightOfFirst_25 : decode cX8_weightOfFirst 25 = .ok (.aload_n 0, 1) := by decide +kernel
theorem dX8_weightOfFirst_26 : decode cX8_weightOfFirst 26 = .ok (.getfield 38, 3) := by decide +kernel
theorem dX8_weightOfFirst_29 : decode cX8_weightOfFirst 29 = .ok (.iload 5, 2) := by decide +kernel
theorem dX8_weightOfFirst_31 : decode cX8_weightOfFirst 31 = .ok (.iaload, 1) := by decide +kernel
theorem dX8_weightOfFirst_32 : decode cX8_weightOfFirst 32 = .ok (.laload, 1) := by decide +kernel
theorem dX8_weightOfFirst_33 : decode cX8_weightOfFirst 33 = .ok (.ladd, 1) := by decide +kernel
theorem dX8_weightOfFirst_34 : decode cX8_weightOfFirst 34 = .ok (.lstore_n 3, 1) := by decide +kernel
theorem dX8_weightOfFirst_35 : decode cX8_weightOfFirst 35 = .ok (.iinc 5 1, 3) := by decide +kernel
theorem dX8_weightOfFirst_38 : decode cX8_weightOfFirst 38 = .ok (.goto (-24), 3) := by decide +kernel
theorem dX8_weightOfFirst_41 : decode cX8_weightOfFirst 41 = .ok (.lload_n 3, 1) := by decide +kernel
theorem dX8_weightOfFirst_42 : decode cX8_weightOfFirst 42 = .ok (.lreturn, 1) := by decide +kernel
theorem dX8_gather_0 : decode cX8_gather 0 = .ok (.aload_n 1, 1) := by decide +kernel
theorem dX8_gather_1 : decode cX8_gather 1 = .ok (.instanceof 99, 3) := by decide +kernel
theorem dX8_gather_4 : decode cX8_gather 4 = .ok (.ifCond .eq 40, 3) := by decide +kernel
theorem dX8_gather_7 : decode cX8_gather 7 = .ok (.aload_n 0, 1) := by decide +kernel
theorem dX8_gather_8 : decode cX8_gather 8 = .ok (.aload_n 0, 1) := by decide +kernel
theorem dX8_gather_9 : decode cX8_gather 9 = .ok (.getfield 35, 3) := by decide +kernel
theorem dX8_gather_12 : decode cX8_gather 12 = .ok (.iload_n 2, 1) := by decide +kernel
theorem dX8_gather_13 : decode cX8_gather 13 = .ok (.ifCond .eq 14, 3) := by decide +kernel
theorem dX8_gather_16 : decode cX8_gather 16 = .ok (.aload_n 0, 1) := by decide +kernel
theorem dX8_gather_17 : decode cX8_gather 17 = .ok (.aload_n 0, 1) := by decide +kernel
theorem dX8_gather_18 : decode cX8_gather 18 = .ok (.getfield 31, 3) := by decide +kernel
theorem dX8_gather_21 : decode cX8_gather 21 = .ok (.invokevirtual 178, 3) := by decide +kernel
theorem dX8_gather_24 : decode cX8_gather 24 = .ok (.goto 16, 3) := by decide +kernel
theorem dX8_gather_27 : decode cX8_gather 27 = .ok (.aload_n 0, 1) := by decide +kernel
theorem dX8_gather_28 : decode cX8_gather 28 = .ok (.getfield 31, 3) := by decide +kernel
theorem dX8_gather_31 : decode cX8_gather 31 = .ok (.aload_n 0, 1) := by decide +kernel
theorem dX8_gather_32 : decode cX8_gather 32 = .ok (.aload_n 0, 1) := by decide +kernel
theorem dX8_gather_33 : decode cX8_gather 33 = .ok (.getfield 31, 3) := by decide +kernel
theorem dX8_gather_36 : decode cX8_gather 36 = .ok (.invokevirtual 190, 3) := by decide +kernel
theorem dX8_gather_39 : decode cX8_gather 39 = .ok (.laload, 1) := by decide +kernel
theorem dX8_gather_40 : decode cX8_gather 40 = .ok (.invokevirtual 127, 3) := by decide +kernel
theorem dX8_gather_43 : decode cX8_gather 43 = .ok (.return_, 1) := by decide +kernel
theorem dX8_gather_44 : decode cX8_gather 44 = .ok (.aload_n 0, 1) := by decide +kernel
theorem dX8_gather_45 : decode cX8_gather 45 = .ok (.aload_n 0, 1) := by decide +kernel
theorem dX8_gather_46 : decode cX8_gather 46 = .ok (.getfield 35, 3) := by decide +kernel
theorem dX8_gather_49 : decode cX8_gather 49 = .ok (.lconst 0, 1) := by decide +kernel
theorem dX8_gather_50 : decode cX8_gather 50 = .ok (.invokevirtual 127, 3) := by decide +kernel
theorem dX8_gather_53 : decode cX8_gather 53 = .ok (.iconst 0, 1) := by decide +kernel
theorem dX8_gather_54 : decode cX8_gather 54 = .ok (.istore_n 3, 1) := by decide +kernel
theorem dX8_gather_55 : decode cX8_gather 55 = .ok (.iload_n 3, 1) := by decide +kernel
theorem dX8_gather_56 : decode cX8_gather 56 = .ok (.aload_n 0, 1) := by decide +kernel
theorem dX8_gather_57 : decode cX8_gather 57 = .ok (.getfield 18, 3) := by decide +kernel
theorem dX8_gather_60 : decode cX8_gather 60 = .ok (.getfield 144, 3) := by decide +kernel
theorem dX8_gather_63 : decode cX8_gather 63 = .ok (.if_icmp .ge 111, 3) := by decide +kernel
theorem dX8_gather_66 : decode cX8_gather 66 = .ok (.iconst 0, 1) := by decide +kernel
theorem dX8_gather_67 : decode cX8_gather 67 = .ok (.istore 4, 2) := by decide +kernel
theorem dX8_gather_69 : decode cX8_gather 69 = .ok (.iload 4, 2) := by decide +kernel
theorem dX8_gather_71 : decode cX8_gather 71 = .ok (.aload_n 1, 1) := by decide +kernel
theorem dX8_gather_72 : decode cX8_gather 72 = .ok (.getfield 193, 3) := by decide +kernel
theorem dX8_gather_75 : decode cX8_gather 75 = .ok (.if_icmp .ge 93, 3) := by decide +kernel
theorem dX8_gather_78 : decode cX8_gather 78 = .ok (.aload_n 0, 1) := by decide +kernel
theorem dX8_gather_79 : decode cX8_gather 79 = .ok (.getfield 31, 3) := by decide +kernel
theorem dX8_gather_82 : decode cX8_gather 82 = .ok (.iload_n 3, 1) := by decide +kernel
theorem dX8_gather_83 : decode cX8_gather 83 = .ok (.laload, 1) := by decide +kernel
theorem dX8_gather_84 : decode cX8_gather 84 = .ok (.lconst 0, 1) := by decide +kernel
theorem dX8_gather_85 : decode cX8_gather 85 = .ok (.lcmp, 1) := by decide +kernel
theorem dX8_gather_86 : decode cX8_gather 86 = .ok (.ifCond .le 82, 3) := by decide +kernel
theorem dX8_gather_89 : decode cX8_gather 89 = .ok (.aload_n 1, 1) := by decide +kernel
theorem dX8_gather_90 : decode cX8_gather 90 = .ok (.getfield 196, 3) := by decide +kernel
theorem dX8_gather_93 : decode cX8_gather 93 = .ok (.iload 4, 2) := by decide +kernel
theorem dX8_gather_95 : decode cX8_gather 95 = .ok (.iaload, 1) := by decide +kernel
theorem dX8_gather_96 : decode cX8_gather 96 = .ok (.istore 5, 2) := by decide +kernel
theorem dX8_gather_98 : decode cX8_gather 98 = .ok (.aload_n 0, 1) := by decide +kernel
theorem dX8_gather_99 : decode cX8_gather 99 = .ok (.getfield 18, 3) := by decide +kernel
theorem dX8_gather_102 : decode cX8_gather 102 = .ok (.iload_n 3, 1) := by decide +kernel
theorem dX8_gather_103 : decode cX8_gather 103 = .ok (.iload 5, 2) := by decide +kernel
theorem dX8_gather_105 : decode cX8_gather 105 = .ok (.invokevirtual 199, 3) := by decide +kernel
theorem dX8_gather_108 : decode cX8_gather 108 = .ok (.istore 6, 2) := by decide +kernel
theorem dX8_gather_110 : decode cX8_gather 110 = .ok (.aload_n 0, 1) := by decide +kernel
theorem dX8_gather_111 : decode cX8_gather 111 = .ok (.getfield 31, 3) := by decide +kernel
theorem dX8_gather_114 : decode cX8_gather 114 = .ok (.iload_n 3, 1) := by decide +kernel
theorem dX8_gather_115 : decode cX8_gather 115 = .ok (.laload, 1) := by decide +kernel
theorem dX8_gather_116 : decode cX8_gather 116 = .ok (.aload_n 1, 1) := by decide +kernel
theorem dX8_gather_117 : decode cX8_gather 117 = .ok (.iload 5, 2) := by decide +kernel
theorem dX8_gather_119 : decode cX8_gather 119 = .ok (.invokevirtual 150, 3) := by decide +kernel
theorem dX8_gather_122 : decode cX8_gather 122 = .ok (.i2l, 1) := by decide +kernel
theorem dX8_gather_123 : decode cX8_gather 123 = .ok (.lmul, 1) := by decide +kernel
theorem dX8_gather_124 : decode cX8_gather 124 = .ok (.lstore 7, 2) := by decide +kernel
theorem dX8_gather_126 : decode cX8_gather 126 = .ok (.aload_n 0, 1) := by decide +kernel
theorem dX8_gather_127 : decode cX8_gather 127 = .ok (.getfield 35, 3) := by decide +kernel
theorem dX8_gather_130 : decode cX8_gather 130 = .ok (.iload 6, 2) := by decide +kernel
theorem dX8_gather_132 : decode cX8_gather 132 = .ok (.iload_n 2, 1) := by decide +kernel
theorem dX8_gather_133 : decode cX8_gather 133 = .ok (.ifCond .eq 16, 3) := by decide +kernel
theorem dX8_gather_136 : decode cX8_gather 136 = .ok (.aload_n 0, 1) := by decide +kernel
theorem dX8_gather_137 : decode cX8_gather 137 = .ok (.getfield 35, 3) := by decide +kernel
theorem dX8_gather_140 : decode cX8_gather 140 = .ok (.iload 6, 2) := by decide +kernel
theorem dX8_gather_142 : decode cX8_gather 142 = .ok (.laload, 1) := by decide +kernel
theorem dX8_gather_143 : decode cX8_gather 143 = .ok (.lload 7, 2) := by decide +kernel
theorem dX8_gather_145 : decode cX8_gather 145 = .ok (.ladd, 1) := by decide +kernel
theorem dX8_gather_146 : decode cX8_gather 146 = .ok (.goto 15, 3) := by decide +kernel
theorem dX8_gather_149 : decode cX8_gather 149 = .ok (.aload_n 0, 1) := by decide +kernel
theorem dX8_gather_150 : decode cX8_gather 150 = .ok (.getfield 35, 3) := by decide +kernel
theorem dX8_gather_153 : decode cX8_gather 153 = .ok (.iload 6, 2) := by decide +kernel
theorem dX8_gather_155 : decode cX8_gather 155 = .ok (.laload, 1) := by decide +kernel
theorem dX8_gather_156 : decode cX8_gather 156 = .ok (.lload 7, 2) := by decide +kernel
theorem dX8_gather_158 : decode cX8_gather 158 = .ok (.invokestatic 202, 3) := by decide +kernel
theorem dX8_gather_161 : decode cX8_gather 161 = .ok (.lastore, 1) := by decide +kernel
theorem dX8_gather_162 : decode cX8_gather 162 = .ok (.iinc 4 1, 3) := by decide +kernel
theorem dX8_gather_165 : decode cX8_gather 165 = .ok (.goto (-96), 3) := by decide +kernel
theorem dX8_gather_168 : decode cX8_gather 168 = .ok (.iinc 3 1, 3) := by decide +kernel
theorem dX8_gather_171 : decode cX8_gather 171 = .ok (.goto (-116), 3) := by decide +kernel
theorem dX8_gather_174 : decode cX8_gather 174 = .ok (.return_, 1) := by decide +kernel
theorem dX8_worthOf_0 : decode cX8_worthOf 0 = .ok (.aload_n 0, 1) := by decide +kernel
theorem dX8_worthOf_1 : decode cX8_worthOf 1 = .ok (.aload_n 1, 1) := by decide +kernel
theorem dX8_worthOf_2 : decode cX8_worthOf 2 = .ok (.iconst 0, 1) := by decide +kernel
theorem dX8_worthOf_3 : decode cX8_worthOf 3 = .ok (.invokevirtual 206, 3) := by decide +kernel
theorem dX8_worthOf_6 : decode cX8_worthOf 6 = .ok (.aload_n 0, 1) := by decide +kernel
theorem dX8_worthOf_7 : decode cX8_worthOf 7 = .ok (.aload_n 0, 1) := by decide +kernel
theorem dX8_worthOf_8 : decode cX8_worthOf 8 = .ok (.getfield 35, 3) := by decide +kernel
theorem dX8_worthOf_11 : decode cX8_worthOf 11 = .ok (.invokevirtual 178, 3) := by decide +kernel
theorem dX8_worthOf_14 : decode cX8_worthOf 14 = .ok (.lreturn, 1) := by decide +kernel
theorem dX8_weighWorths_0 : decode cX8_weighWorths 0 = .ok (.iconst 0, 1) := by decide +kernel
theorem dX8_weighWorths_1 : decode cX8_weighWorths 1 = .ok (.istore_n 1, 1) := by decide +kernel
theorem dX8_weighWorths_2 : decode cX8_weighWorths 2 = .ok (.iload_n 1, 1) := by decide +kernel
theorem dX8_weighWorths_3 : decode cX8_weighWorths 3 = .ok (.aload_n 0, 1) := by decide +kernel
theorem dX8_weighWorths_4 : decode cX8_weighWorths 4 = .ok (.getfield 9, 3) := by decide +kernel
theorem dX8_weighWorths_7 : decode cX8_weighWorths 7 = .ok (.if_icmp .ge 34, 3) := by decide +kernel
theorem dX8_weighWorths_10 : decode cX8_weighWorths 10 = .ok (.aload_n 0, 1) := by decide +kernel
theorem dX8_weighWorths_11 : decode cX8_weighWorths 11 = .ok (.iload_n 1, 1) := by decide +kernel
theorem dX8_weighWorths_12 : decode cX8_weighWorths 12 = .ok (.invokevirtual 109, 3) := by decide +kernel
theorem dX8_weighWorths_15 : decode cX8_weighWorths 15 = .ok (.astore_n 2, 1) := by decide +kernel
theorem dX8_weighWorths_16 : decode cX8_weighWorths 16 = .ok (.aload_n 0, 1) := by decide +kernel
theorem dX8_weighWorths_17 : decode cX8_weighWorths 17 = .ok (.getfield 42, 3) := by decide +kernel
theorem dX8_weighWorths_20 : decode cX8_weighWorths 20 = .ok (.iload_n 1, 1) := by decide +kernel
theorem dX8_weighWorths_21 : decode cX8_weighWorths 21 = .ok (.aload_n 2, 1) := by decide +kernel
theorem dX8_weighWorths_22 : decode cX8_weighWorths 22 = .ok (.ifnonnull 7, 3) := by decide +kernel
theorem dX8_weighWorths_25 : decode cX8_weighWorths 25 = .ok (.lconst 0, 1) := by decide +kernel
theorem dX8_weighWorths_26 : decode cX8_weighWorths 26 = .ok (.goto 8, 3) := by decide +kernel
theorem dX8_weighWorths_29 : decode cX8_weighWorths 29 = .ok (.aload_n 0, 1) := by decide +kernel
theorem dX8_weighWorths_30 : decode cX8_weighWorths 30 = .ok (.aload_n 2, 1) := by decide +kernel
theorem dX8_weighWorths_31 : decode cX8_weighWorths 31 = .ok (.invokevirtual 210, 3) := by decide +kernel
theorem dX8_weighWorths_34 : decode cX8_weighWorths 34 = .ok (.lastore, 1) := by decide +kernel
theorem dX8_weighWorths_35 : decode cX8_weighWorths 35 = .ok (.iinc 1 1, 3) := by decide +kernel
theorem dX8_weighWorths_38 : decode cX8_weighWorths 38 = .ok (.goto (-36), 3) := by decide +kernel
theorem dX8_weighWorths_41 : decode cX8_weighWorths 41 = .ok (.return_, 1) := by decide +kernel
theorem dX8_firstByWorth_0 : decode cX8_firstByWorth 0 = .ok (.iconst 0, 1) := by decide +kernel
theorem dX8_firstByWorth_1 : decode cX8_firstByWorth 1 = .ok (.istore_n 2, 1) := by decide +kernel
theorem dX8_firstByWorth_2 : decode cX8_firstByWorth 2 = .ok (.iconst 1, 1) := by decide +kernel
theorem dX8_firstByWorth_3 : decode cX8_firstByWorth 3 = .ok (.istore_n 3, 1) := by decide +kernel
theorem dX8_firstByWorth_4 : decode cX8_firstByWorth 4 = .ok (.iload_n 3, 1) := by decide +kernel
theorem dX8_firstByWorth_5 : decode cX8_firstByWorth 5 = .ok (.aload_n 0, 1) := by decide +kernel
theorem dX8_firstByWorth_6 : decode cX8_firstByWorth 6 = .ok (.getfield 9, 3) := by decide +kernel
theorem dX8_firstByWorth_9 : decode cX8_firstByWorth 9 = .ok (.if_icmp .ge 89, 3) := by decide +kernel
theorem dX8_firstByWorth_12 : decode cX8_firstByWorth 12 = .ok (.aload_n 0, 1) := by decide +kernel
theorem dX8_firstByWorth_13 : decode cX8_firstByWorth 13 = .ok (.iload_n 3, 1) := by decide +kernel
theorem dX8_firstByWorth_14 : decode cX8_firstByWorth 14 = .ok (.invokevirtual 109, 3) := by decide +kernel
theorem dX8_firstByWorth_17 : decode cX8_firstByWorth 17 = .ok (.astore 4, 2) := by decide +kernel
theorem dX8_firstByWorth_19 : decode cX8_firstByWorth 19 = .ok (.aload_n 0, 1) := by decide +kernel
theorem dX8_firstByWorth_20 : decode cX8_firstByWorth 20 = .ok (.iload_n 2, 1) := by decide +kernel
theorem dX8_firstByWorth_21 : decode cX8_firstByWorth 21 = .ok (.invokevirtual 109, 3) := by decide +kernel
theorem dX8_firstByWorth_24 : decode cX8_firstByWorth 24 = .ok (.astore 5, 2) := by decide +kernel
theorem dX8_firstByWorth_26 : decode cX8_firstByWorth 26 = .ok (.aload 4, 2) := by decide +kernel
theorem dX8_firstByWorth_28 : decode cX8_firstByWorth 28 = .ok (.ifnull 64, 3) := by decide +kernel
theorem dX8_firstByWorth_31 : decode cX8_firstByWorth 31 = .ok (.aload 5, 2) := by decide +kernel
theorem dX8_firstByWorth_33 : decode cX8_firstByWorth 33 = .ok (.ifnull 59, 3) := by decide +kernel
theorem dX8_firstByWorth_36 : decode cX8_firstByWorth 36 = .ok (.aload_n 0, 1) := by decide +kernel
theorem dX8_firstByWorth_37 : decode cX8_firstByWorth 37 = .ok (.getfield 42, 3) := by decide +kernel
theorem dX8_firstByWorth_40 : decode cX8_firstByWorth 40 = .ok (.iload_n 3, 1) := by decide +kernel
theorem dX8_firstByWorth_41 : decode cX8_firstByWorth 41 = .ok (.laload, 1) := by decide +kernel
theorem dX8_firstByWorth_42 : decode cX8_firstByWorth 42 = .ok (.aload 5, 2) := by decide +kernel
theorem dX8_firstByWorth_44 : decode cX8_firstByWorth 44 = .ok (.getfield 214, 3) := by decide +kernel
theorem dX8_firstByWorth_47 : decode cX8_firstByWorth 47 = .ok (.i2l, 1) := by decide +kernel
theorem dX8_firstByWorth_48 : decode cX8_firstByWorth 48 = .ok (.lmul, 1) := by decide +kernel
theorem dX8_firstByWorth_49 : decode cX8_firstByWorth 49 = .ok (.aload_n 0, 1) := by decide +kernel
theorem dX8_firstByWorth_50 : decode cX8_firstByWorth 50 = .ok (.getfield 42, 3) := by decide +kernel
theorem dX8_firstByWorth_53 : decode cX8_firstByWorth 53 = .ok (.iload_n 2, 1) := by decide +kernel
theorem dX8_firstByWorth_54 : decode cX8_firstByWorth 54 = .ok (.laload, 1) := by decide +kernel
theorem dX8_firstByWorth_55 : decode cX8_firstByWorth 55 = .ok (.aload 4, 2) := by decide +kernel
theorem dX8_firstByWorth_57 : decode cX8_firstByWorth 57 = .ok (.getfield 214, 3) := by decide +kernel
theorem dX8_firstByWorth_60 : decode cX8_firstByWorth 60 = .ok (.i2l, 1) := by decide +kernel
theorem dX8_firstByWorth_61 : decode cX8_firstByWorth 61 = .ok (.lmul, 1) := by decide +kernel
theorem dX8_firstByWorth_62 : decode cX8_firstByWorth 62 = .ok (.lsub, 1) := by decide +kernel
theorem dX8_firstByWorth_63 : decode cX8_firstByWorth 63 = .ok (.lstore 6, 2) := by decide +kernel
theorem dX8_firstByWorth_65 : decode cX8_firstByWorth 65 = .ok (.iload_n 1, 1) := by decide +kernel
theorem dX8_firstByWorth_66 : decode cX8_firstByWorth 66 = .ok (.ifCond .eq 13, 3) := by decide +kernel
theorem dX8_firstByWorth_69 : decode cX8_firstByWorth 69 = .ok (.lload 6, 2) := by decide +kernel
theorem dX8_firstByWorth_71 : decode cX8_firstByWorth 71 = .ok (.lconst 0, 1) := by decide +kernel
theorem dX8_firstByWorth_72 : decode cX8_firstByWorth 72 = .ok (.lcmp, 1) := by decide +kernel
theorem dX8_firstByWorth_73 : decode cX8_firstByWorth 73 = .ok (.ifCond .le 17, 3) := by decide +kernel
theorem dX8_firstByWorth_76 : decode cX8_firstByWorth 76 = .ok (.goto 10, 3) := by decide +kernel
theorem dX8_firstByWorth_79 : decode cX8_firstByWorth 79 = .ok (.lload 6, 2) := by decide +kernel
theorem dX8_firstByWorth_81 : decode cX8_firstByWorth 81 = .ok (.lconst 0, 1) := by decide +kernel
theorem dX8_firstByWorth_82 : decode cX8_firstByWorth 82 = .ok (.lcmp, 1) := by decide +kernel
theorem dX8_firstByWorth_83 : decode cX8_firstByWorth 83 = .ok (.ifCond .ge 7, 3) := by decide +kernel
theorem dX8_firstByWorth_86 : decode cX8_firstByWorth 86 = .ok (.iload_n 3, 1) := by decide +kernel
theorem dX8_firstByWorth_87 : decode cX8_firstByWorth 87 = .ok (.goto 4, 3) := by decide +kernel
theorem dX8_firstByWorth_90 : decode cX8_firstByWorth 90 = .ok (.iload_n 2, 1) := by decide +kernel
theorem dX8_firstByWorth_91 : decode cX8_firstByWorth 91 = .ok (.istore_n 2, 1) := by decide +kernel
theorem dX8_firstByWorth_92 : decode cX8_firstByWorth 92 = .ok (.iinc 3 1, 3) := by decide +kernel
theorem dX8_firstByWorth_95 : decode cX8_firstByWorth 95 = .ok (.goto (-91), 3) := by decide +kernel
theorem dX8_firstByWorth_98 : decode cX8_firstByWorth 98 = .ok (.iload_n 2, 1) := by decide +kernel
theorem dX8_firstByWorth_99 : decode cX8_firstByWorth 99 = .ok (.ireturn, 1) := by decide +kernel
theorem dX8_weighTold_0 : decode cX8_weighTold 0 = .ok (.aload_n 0, 1) := by decide +kernel
theorem dX8_weighTold_1 : decode cX8_weighTold 1 = .ok (.aload_n 0, 1) := by decide +kernel
theorem dX8_weighTold_2 : decode cX8_weighTold 2 = .ok (.getfield 35, 3) := by decide +kernel
theorem dX8_weighTold_5 : decode cX8_weighTold 5 = .ok (.lconst 1, 1) := by decide +kernel
theorem dX8_weighTold_6 : decode cX8_weighTold 6 = .ok (.invokevirtual 127, 3) := by decide +kernel
theorem dX8_weighTold_9 : decode cX8_weighTold 9 = .ok (.iconst 0, 1) := by decide +kernel
theorem dX8_weighTold_10 : decode cX8_weighTold 10 = .ok (.istore_n 2, 1) := by decide +kernel
theorem dX8_weighTold_11 : decode cX8_weighTold 11 = .ok (.iload_n 2, 1) := by decide +kernel
theorem dX8_weighTold_12 : decode cX8_weighTold 12 = .ok (.iconst 1, 1) := by decide +kernel
theorem dX8_weighTold_13 : decode cX8_weighTold 13 = .ok (.iadd, 1) := by decide +kernel
theorem dX8_weighTold_14 : decode cX8_weighTold 14 = .ok (.aload_n 1, 1) := by decide +kernel
theorem dX8_weighTold_15 : decode cX8_weighTold 15 = .ok (.getfield 217, 3) := by decide +kernel
theorem dX8_weighTold_18 : decode cX8_weighTold 18 = .ok (.if_icmp .ge 41, 3) := by decide +kernel
theorem dX8_weighTold_21 : decode cX8_weighTold 21 = .ok (.aload_n 0, 1) := by decide +kernel
theorem dX8_weighTold_22 : decode cX8_weighTold 22 = .ok (.aload_n 1, 1) := by decide +kernel
theorem dX8_weighTold_23 : decode cX8_weighTold 23 = .ok (.getfield 220, 3) := by decide +kernel
theorem dX8_weighTold_26 : decode cX8_weighTold 26 = .ok (.iload_n 2, 1) := by decide +kernel
theorem dX8_weighTold_27 : decode cX8_weighTold 27 = .ok (.iaload, 1) := by decide +kernel
theorem dX8_weighTold_28 : decode cX8_weighTold 28 = .ok (.invokevirtual 109, 3) := by decide +kernel
theorem dX8_weighTold_31 : decode cX8_weighTold 31 = .ok (.astore_n 3, 1) := by decide +kernel
theorem dX8_weighTold_32 : decode cX8_weighTold 32 = .ok (.aload_n 3, 1) := by decide +kernel
theorem dX8_weighTold_33 : decode cX8_weighTold 33 = .ok (.ifnull 20, 3) := by decide +kernel
theorem dX8_weighTold_36 : decode cX8_weighTold 36 = .ok (.aload_n 0, 1) := by decide +kernel
theorem dX8_weighTold_37 : decode cX8_weighTold 37 = .ok (.aload_n 0, 1) := by decide +kernel
theorem dX8_weighTold_38 : decode cX8_weighTold 38 = .ok (.getfield 35, 3) := by decide +kernel
theorem dX8_weighTold_41 : decode cX8_weighTold 41 = .ok (.aload_n 3, 1) := by decide +kernel
theorem dX8_weighTold_42 : decode cX8_weighTold 42 = .ok (.aload_n 1, 1) := by decide +kernel
theorem dX8_weighTold_43 : decode cX8_weighTold 43 = .ok (.getfield 220, 3) := by decide +kernel
theorem dX8_weighTold_46 : decode cX8_weighTold 46 = .ok (.iload_n 2, 1) := by decide +kernel
theorem dX8_weighTold_47 : decode cX8_weighTold 47 = .ok (.iconst 1, 1) := by decide +kernel
theorem dX8_weighTold_48 : decode cX8_weighTold 48 = .ok (.iadd, 1) := by decide +kernel
theorem dX8_weighTold_49 : decode cX8_weighTold 49 = .ok (.iaload, 1) := by decide +kernel
theorem dX8_weighTold_50 : decode cX8_weighTold 50 = .ok (.invokevirtual 136, 3) := by decide +kernel
theorem dX8_weighTold_53 : decode cX8_weighTold 53 = .ok (.iinc 2 2, 3) := by decide +kernel
theorem dX8_weighTold_56 : decode cX8_weighTold 56 = .ok (.goto (-45), 3) := by decide +kernel
theorem dX8_weighTold_59 : decode cX8_weighTold 59 = .ok (.return_, 1) := by decide +kernel
theorem dX8_waysOfTold_0 : decode cX8_waysOfTold 0 = .ok (.aload_n 0, 1) := by decide +kernel
theorem dX8_waysOfTold_1 : decode cX8_waysOfTold 1 = .ok (.getfield 18, 3) := by decide +kernel
theorem dX8_waysOfTold_4 : decode cX8_waysOfTold 4 = .ok (.getfield 144, 3) := by decide +kernel
theorem dX8_waysOfTold_7 : decode cX8_waysOfTold 7 = .ok (.i2l, 1) := by decide +kernel
theorem dX8_waysOfTold_8 : decode cX8_waysOfTold 8 = .ok (.lstore_n 2, 1) := by decide +kernel
theorem dX8_waysOfTold_9 : decode cX8_waysOfTold 9 = .ok (.iconst 0, 1) := by decide +kernel
theorem dX8_waysOfTold_10 : decode cX8_waysOfTold 10 = .ok (.istore 4, 2) := by decide +kernel
theorem dX8_waysOfTold_12 : decode cX8_waysOfTold 12 = .ok (.iload 4, 2) := by decide +kernel
theorem dX8_waysOfTold_14 : decode cX8_waysOfTold 14 = .ok (.iconst 1, 1) := by decide +kernel
theorem dX8_waysOfTold_15 : decode cX8_waysOfTold 15 = .ok (.iadd, 1) := by decide +kernel
theorem dX8_waysOfTold_16 : decode cX8_waysOfTold 16 = .ok (.aload_n 1, 1) := by decide +kernel
theorem dX8_waysOfTold_17 : decode cX8_waysOfTold 17 = .ok (.getfield 217, 3) := by decide +kernel
theorem dX8_waysOfTold_20 : decode cX8_waysOfTold 20 = .ok (.if_icmp .ge 40, 3) := by decide +kernel
theorem dX8_waysOfTold_23 : decode cX8_waysOfTold 23 = .ok (.aload_n 0, 1) := by decide +kernel
theorem dX8_waysOfTold_24 : decode cX8_waysOfTold 24 = .ok (.aload_n 1, 1) := by decide +kernel
theorem dX8_waysOfTold_25 : decode cX8_waysOfTold 25 = .ok (.getfield 220, 3) := by decide +kernel
theorem dX8_waysOfTold_28 : decode cX8_waysOfTold 28 = .ok (.iload 4, 2) := by decide +kernel
theorem dX8_waysOfTold_30 : decode cX8_waysOfTold 30 = .ok (.iaload, 1) := by decide +kernel
theorem dX8_waysOfTold_31 : decode cX8_waysOfTold 31 = .ok (.invokevirtual 109, 3) := by decide +kernel
theorem dX8_waysOfTold_34 : decode cX8_waysOfTold 34 = .ok (.astore 5, 2) := by decide +kernel
theorem dX8_waysOfTold_36 : decode cX8_waysOfTold 36 = .ok (.lload_n 2, 1) := by decide +kernel
theorem dX8_waysOfTold_37 : decode cX8_waysOfTold 37 = .ok (.aload 5, 2) := by decide +kernel
theorem dX8_waysOfTold_39 : decode cX8_waysOfTold 39 = .ok (.ifnonnull 7, 3) := by decide +kernel
theorem dX8_waysOfTold_42 : decode cX8_waysOfTold 42 = .ok (.lconst 1, 1) := by decide +kernel
theorem dX8_waysOfTold_43 : decode cX8_waysOfTold 43 = .ok (.goto 9, 3) := by decide +kernel
theorem dX8_waysOfTold_46 : decode cX8_waysOfTold 46 = .ok (.aload 5, 2) := by decide +kernel
theorem dX8_waysOfTold_48 : decode cX8_waysOfTold 48 = .ok (.getfield 214, 3) := by decide +kernel
theorem dX8_waysOfTold_51 : decode cX8_waysOfTold 51 = .ok (.i2l, 1) := by decide +kernel
theorem dX8_waysOfTold_52 : decode cX8_waysOfTold 52 = .ok (.lmul, 1) := by decide +kernel
theorem dX8_waysOfTold_53 : decode cX8_waysOfTold 53 = .ok (.lstore_n 2, 1) := by decide +kernel
theorem dX8_waysOfTold_54 : decode cX8_waysOfTold 54 = .ok (.iinc 4 2, 3) := by decide +kernel
theorem dX8_waysOfTold_57 : decode cX8_waysOfTold 57 = .ok (.goto (-45), 3) := by decide +kernel
theorem dX8_waysOfTold_60 : decode cX8_waysOfTold 60 = .ok (.lload_n 2, 1) := by decide +kernel
theorem dX8_waysOfTold_61 : decode cX8_waysOfTold 61 = .ok (.lreturn, 1) := by decide +kernel
theorem dX8_allWho_0 : decode cX8_allWho 0 = .ok (.aload_n 0, 1) := by decide +kernel
theorem dX8_allWho_1 : decode cX8_allWho 1 = .ok (.getfield 18, 3) := by decide +kernel
theorem dX8_allWho_4 : decode cX8_allWho 4 = .ok (.iload_n 1, 1) := by decide +kernel
theorem dX8_allWho_5 : decode cX8_allWho 5 = .ok (.iload_n 2, 1) := by decide +kernel
theorem dX8_allWho_6 : decode cX8_allWho 6 = .ok (.invokevirtual 146, 3) := by decide +kernel
theorem dX8_allWho_9 : decode cX8_allWho 9 = .ok (.istore_n 3, 1) := by decide +kernel
theorem dX8_allWho_10 : decode cX8_allWho 10 = .ok (.iconst 0, 1) := by decide +kernel
theorem dX8_allWho_11 : decode cX8_allWho 11 = .ok (.istore 4, 2) := by decide +kernel
theorem dX8_allWho_13 : decode cX8_allWho 13 = .ok (.iconst 0, 1) := by decide +kernel
theorem dX8_allWho_14 : decode cX8_allWho 14 = .ok (.istore 5, 2) := by decide +kernel
theorem dX8_allWho_16 : decode cX8_allWho 16 = .ok (.iload 5, 2) := by decide +kernel
theorem dX8_allWho_18 : decode cX8_allWho 18 = .ok (.aload_n 0, 1) := by decide +kernel
theorem dX8_allWho_19 : decode cX8_allWho 19 = .ok (.getfield 9, 3) := by decide +kernel
theorem dX8_allWho_22 : decode cX8_allWho 22 = .ok (.if_icmp .ge 44, 3) := by decide +kernel
theorem dX8_allWho_25 : decode cX8_allWho 25 = .ok (.aload_n 0, 1) := by decide +kernel
theorem dX8_allWho_26 : decode cX8_allWho 26 = .ok (.iload 5, 2) := by decide +kernel
theorem dX8_allWho_28 : decode cX8_allWho 28 = .ok (.invokevirtual 109, 3) := by decide +kernel
theorem dX8_allWho_31 : decode cX8_allWho 31 = .ok (.astore 6, 2) := by decide +kernel
theorem dX8_allWho_33 : decode cX8_allWho 33 = .ok (.iload 4, 2) := by decide +kernel
theorem dX8_allWho_35 : decode cX8_allWho 35 = .ok (.aload 6, 2) := by decide +kernel
theorem dX8_allWho_37 : decode cX8_allWho 37 = .ok (.ifnull 19, 3) := by decide +kernel
theorem dX8_allWho_40 : decode cX8_allWho 40 = .ok (.aload 6, 2) := by decide +kernel
theorem dX8_allWho_42 : decode cX8_allWho 42 = .ok (.iload_n 3, 1) := by decide +kernel
theorem dX8_allWho_43 : decode cX8_allWho 43 = .ok (.invokevirtual 150, 3) := by decide +kernel
theorem dX8_allWho_46 : decode cX8_allWho 46 = .ok (.ifCond .le 10, 3) := by decide +kernel
theorem dX8_allWho_49 : decode cX8_allWho 49 = .ok (.iconst 1, 1) := by decide +kernel
theorem dX8_allWho_50 : decode cX8_allWho 50 = .ok (.iload 5, 2) := by decide +kernel
theorem dX8_allWho_52 : decode cX8_allWho 52 = .ok (.ishl, 1) := by decide +kernel
theorem dX8_allWho_53 : decode cX8_allWho 53 = .ok (.goto 4, 3) := by decide +kernel
theorem dX8_allWho_56 : decode cX8_allWho 56 = .ok (.iconst 0, 1) := by decide +kernel
theorem dX8_allWho_57 : decode cX8_allWho 57 = .ok (.ior, 1) := by decide +kernel
theorem dX8_allWho_58 : decode cX8_allWho 58 = .ok (.istore 4, 2) := by decide +kernel
theorem dX8_allWho_60 : decode cX8_allWho 60 = .ok (.iinc 5 1, 3) := by decide +kernel
theorem dX8_allWho_63 : decode cX8_allWho 63 = .ok (.goto (-47), 3) := by decide +kernel
theorem dX8_allWho_66 : decode cX8_allWho 66 = .ok (.iload 4, 2) := by decide +kernel
theorem dX8_allWho_68 : decode cX8_allWho 68 = .ok (.ireturn, 1) := by decide +kernel
theorem dX8_likeliestWho_0 : decode cX8_likeliestWho 0 = .ok (.aload_n 0, 1) := by decide +kernel
theorem dX8_likeliestWho_1 : decode cX8_likeliestWho 1 = .ok (.getfield 18, 3) := by decide +kernel
theorem dX8_likeliestWho_4 : decode cX8_likeliestWho 4 = .ok (.iload_n 1, 1) := by decide +kernel
theorem dX8_likeliestWho_5 : decode cX8_likeliestWho 5 = .ok (.iload_n 2, 1) := by decide +kernel
theorem dX8_likeliestWho_6 : decode cX8_likeliestWho 6 = .ok (.invokevirtual 146, 3) := by decide +kernel
theorem dX8_likeliestWho_9 : decode cX8_likeliestWho 9 = .ok (.istore_n 3, 1) := by decide +kernel
theorem dX8_likeliestWho_10 : decode cX8_likeliestWho 10 = .ok (.bipush (-9), 2) := by decide +kernel
theorem dX8_likeliestWho_12 : decode cX8_likeliestWho 12 = .ok (.istore 4, 2) := by decide +kernel
theorem dX8_likeliestWho_14 : decode cX8_likeliestWho 14 = .ok (.iconst 0, 1) := by decide +kernel
theorem dX8_likeliestWho_15 : decode cX8_likeliestWho 15 = .ok (.istore 5, 2) := by decide +kernel
theorem dX8_likeliestWho_17 : decode cX8_likeliestWho 17 = .ok (.iconst 1, 1) := by decide +kernel
theorem dX8_likeliestWho_18 : decode cX8_likeliestWho 18 = .ok (.istore 6, 2) := by decide +kernel
theorem dX8_likeliestWho_20 : decode cX8_likeliestWho 20 = .ok (.iconst 0, 1) := by decide +kernel
theorem dX8_likeliestWho_21 : decode cX8_likeliestWho 21 = .ok (.istore 7, 2) := by decide +kernel
theorem dX8_likeliestWho_23 : decode cX8_likeliestWho 23 = .ok (.iload 7, 2) := by decide +kernel
theorem dX8_likeliestWho_25 : decode cX8_likeliestWho 25 = .ok (.aload_n 0, 1) := by decide +kernel
theorem dX8_likeliestWho_26 : decode cX8_likeliestWho 26 = .ok (.getfield 9, 3) := by decide +kernel
theorem dX8_likeliestWho_29 : decode cX8_likeliestWho 29 = .ok (.if_icmp .ge 61, 3) := by decide +kernel
theorem dX8_likeliestWho_32 : decode cX8_likeliestWho 32 = .ok (.aload_n 0, 1) := by decide +kernel
theorem dX8_likeliestWho_33 : decode cX8_likeliestWho 33 = .ok (.iload 7, 2) := by decide +kernel
theorem dX8_likeliestWho_35 : decode cX8_likeliestWho 35 = .ok (.invokevirtual 109, 3) := by decide +kernel
theorem dX8_likeliestWho_38 : decode cX8_likeliestWho 38 = .ok (.astore 8, 2) := by decide +kernel
theorem dX8_likeliestWho_40 : decode cX8_likeliestWho 40 = .ok (.aload 8, 2) := by decide +kernel
theorem dX8_likeliestWho_42 : decode cX8_likeliestWho 42 = .ok (.ifnull 42, 3) := by decide +kernel
theorem dX8_likeliestWho_45 : decode cX8_likeliestWho 45 = .ok (.aload 8, 2) := by decide +kernel
theorem dX8_likeliestWho_47 : decode cX8_likeliestWho 47 = .ok (.iload_n 3, 1) := by decide +kernel
theorem dX8_likeliestWho_48 : decode cX8_likeliestWho 48 = .ok (.invokevirtual 150, 3) := by decide +kernel
theorem dX8_likeliestWho_51 : decode cX8_likeliestWho 51 = .ok (.iload 6, 2) := by decide +kernel
theorem dX8_likeliestWho_53 : decode cX8_likeliestWho 53 = .ok (.imul, 1) := by decide +kernel
theorem dX8_likeliestWho_54 : decode cX8_likeliestWho 54 = .ok (.iload 5, 2) := by decide +kernel
theorem dX8_likeliestWho_56 : decode cX8_likeliestWho 56 = .ok (.aload 8, 2) := by decide +kernel
theorem dX8_likeliestWho_58 : decode cX8_likeliestWho 58 = .ok (.getfield 214, 3) := by decide +kernel
theorem dX8_likeliestWho_61 : decode cX8_likeliestWho 61 = .ok (.imul, 1) := by decide +kernel
theorem dX8_likeliestWho_62 : decode cX8_likeliestWho 62 = .ok (.if_icmp .le 22, 3) := by decide +kernel
theorem dX8_likeliestWho_65 : decode cX8_likeliestWho 65 = .ok (.iload 7, 2) := by decide +kernel
theorem dX8_likeliestWho_67 : decode cX8_likeliestWho 67 = .ok (.istore 4, 2) := by decide +kernel
theorem dX8_likeliestWho_69 : decode cX8_likeliestWho 69 = .ok (.aload 8, 2) := by decide +kernel
theorem dX8_likeliestWho_71 : decode cX8_likeliestWho 71 = .ok (.iload_n 3, 1) := by decide +kernel
theorem dX8_likeliestWho_72 : decode cX8_likeliestWho 72 = .ok (.invokevirtual 150, 3) := by decide +kernel
theorem dX8_likeliestWho_75 : decode cX8_likeliestWho 75 = .ok (.istore 5, 2) := by decide +kernel
theorem dX8_likeliestWho_77 : decode cX8_likeliestWho 77 = .ok (.aload 8, 2) := by decide +kernel
theorem dX8_likeliestWho_79 : decode cX8_likeliestWho 79 = .ok (.getfield 214, 3) := by decide +kernel
theorem dX8_likeliestWho_82 : decode cX8_likeliestWho 82 = .ok (.istore 6, 2) := by decide +kernel
theorem dX8_likeliestWho_84 : decode cX8_likeliestWho 84 = .ok (.iinc 7 1, 3) := by decide +kernel
theorem dX8_likeliestWho_87 : decode cX8_likeliestWho 87 = .ok (.goto (-64), 3) := by decide +kernel
theorem dX8_likeliestWho_90 : decode cX8_likeliestWho 90 = .ok (.iload 4, 2) := by decide +kernel
theorem dX8_likeliestWho_92 : decode cX8_likeliestWho 92 = .ok (.ireturn, 1) := by decide +kernel
theorem dX8_shutByLots_0 : decode cX8_shutByLots 0 = .ok (.aload_n 0, 1) := by decide +kernel
theorem dX8_shutByLots_1 : decode cX8_shutByLots 1 = .ok (.getfield 27, 3) := by decide +kernel
theorem dX8_shutByLots_4 : decode cX8_shutByLots 4 = .ok (.iconst 0, 1) := by decide +kernel
theorem dX8_shutByLots_5 : decode cX8_shutByLots 5 = .ok (.putfield 85, 3) := by decide +kernel
theorem dX8_shutByLots_8 : decode cX8_shutByLots 8 = .ok (.aload_n 0, 1) := by decide +kernel
theorem dX8_shutByLots_9 : decode cX8_shutByLots 9 = .ok (.invokevirtual 88, 3) := by decide +kernel
theorem dX8_shutByLots_12 : decode cX8_shutByLots 12 = .ok (.iload_n 2, 1) := by decide +kernel
theorem dX8_shutByLots_13 : decode cX8_shutByLots 13 = .ok (.i2l, 1) := by decide +kernel
theorem dX8_shutByLots_14 : decode cX8_shutByLots 14 = .ok (.invokestatic 223, 3) := by decide +kernel
theorem dX8_shutByLots_17 : decode cX8_shutByLots 17 = .ok (.lstore_n 3, 1) := by decide +kernel
theorem dX8_shutByLots_18 : decode cX8_shutByLots 18 = .ok (.lload_n 3, 1) := by decide +kernel
theorem dX8_shutByLots_19 : decode cX8_shutByLots 19 = .ok (.aload_n 0, 1) := by decide +kernel
theorem dX8_shutByLots_20 : decode cX8_shutByLots 20 = .ok (.getfield 18, 3) := by decide +kernel
theorem dX8_shutByLots_23 : decode cX8_shutByLots 23 = .ok (.getfield 144, 3) := by decide +kernel
theorem dX8_shutByLots_26 : decode cX8_shutByLots 26 = .ok (.invokestatic 227, 3) := by decide +kernel
theorem dX8_shutByLots_29 : decode cX8_shutByLots 29 = .ok (.istore 5, 2) := by decide +kernel
theorem dX8_shutByLots_31 : decode cX8_shutByLots 31 = .ok (.iconst 0, 1) := by decide +kernel
theorem dX8_shutByLots_32 : decode cX8_shutByLots 32 = .ok (.istore 6, 2) := by decide +kernel
theorem dX8_shutByLots_34 : decode cX8_shutByLots 34 = .ok (.iload 6, 2) := by decide +kernel
theorem dX8_shutByLots_36 : decode cX8_shutByLots 36 = .ok (.iload_n 1, 1) := by decide +kernel
theorem dX8_shutByLots_37 : decode cX8_shutByLots 37 = .ok (.if_icmp .ge 73, 3) := by decide +kernel
theorem dX8_shutByLots_40 : decode cX8_shutByLots 40 = .ok (.lload_n 3, 1) := by decide +kernel
theorem dX8_shutByLots_41 : decode cX8_shutByLots 41 = .ok (.invokestatic 223, 3) := by decide +kernel
theorem dX8_shutByLots_44 : decode cX8_shutByLots 44 = .ok (.lstore_n 3, 1) := by decide +kernel
theorem dX8_shutByLots_45 : decode cX8_shutByLots 45 = .ok (.lload_n 3, 1) := by decide +kernel
theorem dX8_shutByLots_46 : decode cX8_shutByLots 46 = .ok (.ldc2_w 231, 3) := by decide +kernel
theorem dX8_shutByLots_49 : decode cX8_shutByLots 49 = .ok (.ldiv, 1) := by decide +kernel
theorem dX8_shutByLots_50 : decode cX8_shutByLots 50 = .ok (.aload_n 0, 1) := by decide +kernel
theorem dX8_shutByLots_51 : decode cX8_shutByLots 51 = .ok (.getfield 9, 3) := by decide +kernel
theorem dX8_shutByLots_54 : decode cX8_shutByLots 54 = .ok (.invokestatic 227, 3) := by decide +kernel
theorem dX8_shutByLots_57 : decode cX8_shutByLots 57 = .ok (.istore 7, 2) := by decide +kernel
theorem dX8_shutByLots_59 : decode cX8_shutByLots 59 = .ok (.lload_n 3, 1) := by decide +kernel
theorem dX8_shutByLots_60 : decode cX8_shutByLots 60 = .ok (.invokestatic 223, 3) := by decide +kernel
theorem dX8_shutByLots_63 : decode cX8_shutByLots 63 = .ok (.lstore_n 3, 1) := by decide +kernel
theorem dX8_shutByLots_64 : decode cX8_shutByLots 64 = .ok (.aload_n 0, 1) := by decide +kernel
theorem dX8_shutByLots_65 : decode cX8_shutByLots 65 = .ok (.iload 7, 2) := by decide +kernel
theorem dX8_shutByLots_67 : decode cX8_shutByLots 67 = .ok (.invokevirtual 109, 3) := by decide +kernel
theorem dX8_shutByLots_70 : decode cX8_shutByLots 70 = .ok (.astore 8, 2) := by decide +kernel
theorem dX8_shutByLots_72 : decode cX8_shutByLots 72 = .ok (.aload 8, 2) := by decide +kernel
theorem dX8_shutByLots_74 : decode cX8_shutByLots 74 = .ok (.ifnull 30, 3) := by decide +kernel
theorem dX8_shutByLots_77 : decode cX8_shutByLots 77 = .ok (.aload_n 0, 1) := by decide +kernel
theorem dX8_shutByLots_78 : decode cX8_shutByLots 78 = .ok (.iload 7, 2) := by decide +kernel
theorem dX8_shutByLots_80 : decode cX8_shutByLots 80 = .ok (.aload_n 0, 1) := by decide +kernel
theorem dX8_shutByLots_81 : decode cX8_shutByLots 81 = .ok (.aload 8, 2) := by decide +kernel
theorem dX8_shutByLots_83 : decode cX8_shutByLots 83 = .ok (.iload 5, 2) := by decide +kernel
theorem dX8_shutByLots_85 : decode cX8_shutByLots 85 = .ok (.lload_n 3, 1) := by decide +kernel
theorem dX8_shutByLots_86 : decode cX8_shutByLots 86 = .ok (.ldc2_w 233, 3) := by decide +kernel
theorem dX8_shutByLots_89 : decode cX8_shutByLots 89 = .ok (.ldiv, 1) := by decide +kernel
theorem dX8_shutByLots_90 : decode cX8_shutByLots 90 = .ok (.aload 8, 2) := by decide +kernel
theorem dX8_shutByLots_92 : decode cX8_shutByLots 92 = .ok (.getfield 214, 3) := by decide +kernel
theorem dX8_shutByLots_95 : decode cX8_shutByLots 95 = .ok (.invokestatic 227, 3) := by decide +kernel
theorem dX8_shutByLots_98 : decode cX8_shutByLots 98 = .ok (.invokevirtual 235, 3) := by decide +kernel
theorem dX8_shutByLots_101 : decode cX8_shutByLots 101 = .ok (.invokevirtual 239, 3) := by decide +kernel
theorem dX8_shutByLots_104 : decode cX8_shutByLots 104 = .ok (.iinc 6 1, 3) := by decide +kernel
theorem dX8_shutByLots_107 : decode cX8_shutByLots 107 = .ok (.goto (-73), 3) := by decide +kernel
theorem dX8_shutByLots_110 : decode cX8_shutByLots 110 = .ok (.iload 5, 2) := by decide +kernel
theorem dX8_shutByLots_112 : decode cX8_shutByLots 112 = .ok (.ireturn, 1) := by decide +kernel
theorem dX8_nextLot_0 : decode cX8_nextLot 0 = .ok (.ldc2_w 242, 3) := by decide +kernel
theorem dX8_nextLot_3 : decode cX8_nextLot 3 = .ok (.lload_n 0, 1) := by decide +kernel
theorem dX8_nextLot_4 : decode cX8_nextLot 4 = .ok (.lmul, 1) := by decide +kernel
theorem dX8_nextLot_5 : decode cX8_nextLot 5 = .ok (.ldc2_w 244, 3) := by decide +kernel
theorem dX8_nextLot_8 : decode cX8_nextLot 8 = .ok (.lrem, 1) := by decide +kernel
theorem dX8_nextLot_9 : decode cX8_nextLot 9 = .ok (.lreturn, 1) := by decide +kernel
theorem dX8_lotAmong_0 : decode cX8_lotAmong 0 = .ok (.iload_n 2, 1) := by decide +kernel
theorem dX8_lotAmong_1 : decode cX8_lotAmong 1 = .ok (.ifCond .gt 7, 3) := by decide +kernel
theorem dX8_lotAmong_4 : decode cX8_lotAmong 4 = .ok (.iconst 0, 1) := by decide +kernel
theorem dX8_lotAmong_5 : decode cX8_lotAmong 5 = .ok (.goto 8, 3) := by decide +kernel
theorem dX8_lotAmong_8 : decode cX8_lotAmong 8 = .ok (.lload_n 0, 1) := by decide +kernel
theorem dX8_lotAmong_9 : decode cX8_lotAmong 9 = .ok (.iload_n 2, 1) := by decide +kernel
theorem dX8_lotAmong_10 : decode cX8_lotAmong 10 = .ok (.i2l, 1) := by decide +kernel
theorem dX8_lotAmong_11 : decode cX8_lotAmong 11 = .ok (.lrem, 1) := by decide +kernel
theorem dX8_lotAmong_12 : decode cX8_lotAmong 12 = .ok (.l2i, 1) := by decide +kernel
theorem dX8_lotAmong_13 : decode cX8_lotAmong 13 = .ok (.ireturn, 1) := by decide +kernel
theorem dX8_sightOf_0 : decode cX8_sightOf 0 = .ok (.iload_n 3, 1) := by decide +kernel
theorem dX8_sightOf_1 : decode cX8_sightOf 1 = .ok (.istore 4, 2) := by decide +kernel
theorem dX8_sightOf_3 : decode cX8_sightOf 3 = .ok (.iconst 0, 1) := by decide +kernel
theorem dX8_sightOf_4 : decode cX8_sightOf 4 = .ok (.istore 5, 2) := by decide +kernel
theorem dX8_sightOf_6 : decode cX8_sightOf 6 = .ok (.iload 5, 2) := by decide +kernel
theorem dX8_sightOf_8 : decode cX8_sightOf 8 = .ok (.aload_n 0, 1) := by decide +kernel
theorem dX8_sightOf_9 : decode cX8_sightOf 9 = .ok (.getfield 18, 3) := by decide +kernel
theorem dX8_sightOf_12 : decode cX8_sightOf 12 = .ok (.getfield 144, 3) := by decide +kernel
theorem dX8_sightOf_15 : decode cX8_sightOf 15 = .ok (.if_icmp .ge 36, 3) := by decide +kernel
theorem dX8_sightOf_18 : decode cX8_sightOf 18 = .ok (.iload 4, 2) := by decide +kernel
theorem dX8_sightOf_20 : decode cX8_sightOf 20 = .ok (.aload_n 1, 1) := by decide +kernel
theorem dX8_sightOf_21 : decode cX8_sightOf 21 = .ok (.aload_n 0, 1) := by decide +kernel
theorem dX8_sightOf_22 : decode cX8_sightOf 22 = .ok (.getfield 18, 3) := by decide +kernel
theorem dX8_sightOf_25 : decode cX8_sightOf 25 = .ok (.iload_n 2, 1) := by decide +kernel
theorem dX8_sightOf_26 : decode cX8_sightOf 26 = .ok (.iload 5, 2) := by decide +kernel
theorem dX8_sightOf_28 : decode cX8_sightOf 28 = .ok (.invokevirtual 146, 3) := by decide +kernel
theorem dX8_sightOf_31 : decode cX8_sightOf 31 = .ok (.invokevirtual 150, 3) := by decide +kernel
theorem dX8_sightOf_34 : decode cX8_sightOf 34 = .ok (.isub, 1) := by decide +kernel
theorem dX8_sightOf_35 : decode cX8_sightOf 35 = .ok (.istore 4, 2) := by decide +kernel
theorem dX8_sightOf_37 : decode cX8_sightOf 37 = .ok (.iload 4, 2) := by decide +kernel
theorem dX8_sightOf_39 : decode cX8_sightOf 39 = .ok (.ifCond .ge 6, 3) := by decide +kernel
theorem dX8_sightOf_42 : decode cX8_sightOf 42 = .ok (.iload 5, 2) := by decide +kernel
theorem dX8_sightOf_44 : decode cX8_sightOf 44 = .ok (.ireturn, 1) := by decide +kernel
theorem dX8_sightOf_45 : decode cX8_sightOf 45 = .ok (.iinc 5 1, 3) := by decide +kernel
theorem dX8_sightOf_48 : decode cX8_sightOf 48 = .ok (.goto (-42), 3) := by decide +kernel
theorem dX8_sightOf_51 : decode cX8_sightOf 51 = .ok (.iload_n 2, 1) := by decide +kernel
theorem dX8_sightOf_52 : decode cX8_sightOf 52 = .ok (.ireturn, 1) := by decide +kernel
end
section
theorem dX11_init_0 : decode cX11_init 0 = .ok (.aload_n 0, 1) := by decide +kernel
theorem dX11_init_1 : decode cX11_init 1 = .ok (.invokespecial 1, 3) := by decide +kernel
theorem dX11_init_4 : decode cX11_init 4 = .ok (.aload_n 0, 1) := by decide +kernel
theorem dX11_init_5 : decode cX11_init 5 = .ok (.bipush 6, 2) := by decide +kernel
theorem dX11_init_7 : decode cX11_init 7 = .ok (.anewarray 9, 3) := by decide +kernel
theorem dX11_init_10 : decode cX11_init 10 = .ok (.putfield 11, 3) := by decide +kernel
theorem dX11_init_13 : decode cX11_init 13 = .ok (.aload_n 0, 1) := by decide +kernel
theorem dX11_init_14 : decode cX11_init 14 = .ok (.iconst 4, 1) := by decide +kernel
theorem dX11_init_15 : decode cX11_init 15 = .ok (.anewarray 9, 3) := by decide +kernel
theorem dX11_init_18 : decode cX11_init 18 = .ok (.putfield 15, 3) := by decide +kernel
theorem dX11_init_21 : decode cX11_init 21 = .ok (.aload_n 0, 1) := by decide +kernel
theorem dX11_init_22 : decode cX11_init 22 = .ok (.iconst 3, 1) := by decide +kernel
theorem dX11_init_23 : decode cX11_init 23 = .ok (.anewarray 18, 3) := by decide +kernel
theorem dX11_init_26 : decode cX11_init 26 = .ok (.putfield 20, 3) := by decide +kernel
theorem dX11_init_29 : decode cX11_init 29 = .ok (.aload_n 0, 1) := by decide +kernel
theorem dX11_init_30 : decode cX11_init 30 = .ok (.new 24, 3) := by decide +kernel
theorem dX11_init_33 : decode cX11_init 33 = .ok (.dup, 1) := by decide +kernel
theorem dX11_init_34 : decode cX11_init 34 = .ok (.invokespecial 26, 3) := by decide +kernel
theorem dX11_init_37 : decode cX11_init 37 = .ok (.putfield 27, 3) := by decide +kernel
theorem dX11_init_40 : decode cX11_init 40 = .ok (.aload_n 0, 1) := by decide +kernel
theorem dX11_init_41 : decode cX11_init 41 = .ok (.new 31, 3) := by decide +kernel
theorem dX11_init_44 : decode cX11_init 44 = .ok (.dup, 1) := by decide +kernel
theorem dX11_init_45 : decode cX11_init 45 = .ok (.invokespecial 33, 3) := by decide +kernel
theorem dX11_init_48 : decode cX11_init 48 = .ok (.putfield 34, 3) := by decide +kernel
theorem dX11_init_51 : decode cX11_init 51 = .ok (.aload_n 0, 1) := by decide +kernel
theorem dX11_init_52 : decode cX11_init 52 = .ok (.bipush 6, 2) := by decide +kernel
theorem dX11_init_54 : decode cX11_init 54 = .ok (.newarray .int, 2) := by decide +kernel
theorem dX11_init_56 : decode cX11_init 56 = .ok (.putfield 38, 3) := by decide +kernel
theorem dX11_init_59 : decode cX11_init 59 = .ok (.aload_n 0, 1) := by decide +kernel
theorem dX11_init_60 : decode cX11_init 60 = .ok (.iconst 0, 1) := by decide +kernel
theorem dX11_init_61 : decode cX11_init 61 = .ok (.putfield 42, 3) := by decide +kernel
theorem dX11_init_64 : decode cX11_init 64 = .ok (.aload_n 0, 1) := by decide +kernel
theorem dX11_init_65 : decode cX11_init 65 = .ok (.iconst 0, 1) := by decide +kernel
theorem dX11_init_66 : decode cX11_init 66 = .ok (.putfield 46, 3) := by decide +kernel
theorem dX11_init_69 : decode cX11_init 69 = .ok (.aload_n 0, 1) := by decide +kernel
theorem dX11_init_70 : decode cX11_init 70 = .ok (.lconst 0, 1) := by decide +kernel
theorem dX11_init_71 : decode cX11_init 71 = .ok (.putfield 49, 3) := by decide +kernel
theorem dX11_init_74 : decode cX11_init 74 = .ok (.aload_n 0, 1) := by decide +kernel
theorem dX11_init_75 : decode cX11_init 75 = .ok (.lconst 1, 1) := by decide +kernel
theorem dX11_init_76 : decode cX11_init 76 = .ok (.putfield 53, 3) := by decide +kernel
theorem dX11_init_79 : decode cX11_init 79 = .ok (.iconst 0, 1) := by decide +kernel
theorem dX11_init_80 : decode cX11_init 80 = .ok (.istore_n 1, 1) := by decide +kernel
theorem dX11_init_81 : decode cX11_init 81 = .ok (.iload_n 1, 1) := by decide +kernel
theorem dX11_init_82 : decode cX11_init 82 = .ok (.aload_n 0, 1) := by decide +kernel
theorem dX11_init_83 : decode cX11_init 83 = .ok (.getfield 11, 3) := by decide +kernel
theorem dX11_init_86 : decode cX11_init 86 = .ok (.arraylength, 1) := by decide +kernel
theorem dX11_init_87 : decode cX11_init 87 = .ok (.if_icmp .ge 24, 3) := by decide +kernel
theorem dX11_init_90 : decode cX11_init 90 = .ok (.aload_n 0, 1) := by decide +kernel
theorem dX11_init_91 : decode cX11_init 91 = .ok (.getfield 11, 3) := by decide +kernel
theorem dX11_init_94 : decode cX11_init 94 = .ok (.iload_n 1, 1) := by decide +kernel
theorem dX11_init_95 : decode cX11_init 95 = .ok (.new 9, 3) := by decide +kernel
theorem dX11_init_98 : decode cX11_init 98 = .ok (.dup, 1) := by decide +kernel
theorem dX11_init_99 : decode cX11_init 99 = .ok (.bipush 40, 2) := by decide +kernel
theorem dX11_init_101 : decode cX11_init 101 = .ok (.invokespecial 56, 3) := by decide +kernel
theorem dX11_init_104 : decode cX11_init 104 = .ok (.aastore, 1) := by decide +kernel
theorem dX11_init_105 : decode cX11_init 105 = .ok (.iinc 1 1, 3) := by decide +kernel
theorem dX11_init_108 : decode cX11_init 108 = .ok (.goto (-27), 3) := by decide +kernel
theorem dX11_init_111 : decode cX11_init 111 = .ok (.iconst 0, 1) := by decide +kernel
theorem dX11_init_112 : decode cX11_init 112 = .ok (.istore_n 1, 1) := by decide +kernel
theorem dX11_init_113 : decode cX11_init 113 = .ok (.iload_n 1, 1) := by decide +kernel
theorem dX11_init_114 : decode cX11_init 114 = .ok (.aload_n 0, 1) := by decide +kernel
theorem dX11_init_115 : decode cX11_init 115 = .ok (.getfield 15, 3) := by decide +kernel
theorem dX11_init_118 : decode cX11_init 118 = .ok (.arraylength, 1) := by decide +kernel
theorem dX11_init_119 : decode cX11_init 119 = .ok (.if_icmp .ge 24, 3) := by decide +kernel
theorem dX11_init_122 : decode cX11_init 122 = .ok (.aload_n 0, 1) := by decide +kernel
theorem dX11_init_123 : decode cX11_init 123 = .ok (.getfield 15, 3) := by decide +kernel
theorem dX11_init_126 : decode cX11_init 126 = .ok (.iload_n 1, 1) := by decide +kernel
theorem dX11_init_127 : decode cX11_init 127 = .ok (.new 9, 3) := by decide +kernel
theorem dX11_init_130 : decode cX11_init 130 = .ok (.dup, 1) := by decide +kernel
theorem dX11_init_131 : decode cX11_init 131 = .ok (.bipush 60, 2) := by decide +kernel
theorem dX11_init_133 : decode cX11_init 133 = .ok (.invokespecial 56, 3) := by decide +kernel
theorem dX11_init_136 : decode cX11_init 136 = .ok (.aastore, 1) := by decide +kernel
theorem dX11_init_137 : decode cX11_init 137 = .ok (.iinc 1 1, 3) := by decide +kernel
theorem dX11_init_140 : decode cX11_init 140 = .ok (.goto (-27), 3) := by decide +kernel
theorem dX11_init_143 : decode cX11_init 143 = .ok (.iconst 0, 1) := by decide +kernel
theorem dX11_init_144 : decode cX11_init 144 = .ok (.istore_n 1, 1) := by decide +kernel
theorem dX11_init_145 : decode cX11_init 145 = .ok (.iload_n 1, 1) := by decide +kernel
theorem dX11_init_146 : decode cX11_init 146 = .ok (.aload_n 0, 1) := by decide +kernel
theorem dX11_init_147 : decode cX11_init 147 = .ok (.getfield 20, 3) := by decide +kernel
theorem dX11_init_150 : decode cX11_init 150 = .ok (.arraylength, 1) := by decide +kernel
theorem dX11_init_151 : decode cX11_init 151 = .ok (.if_icmp .ge 23, 3) := by decide +kernel
theorem dX11_init_154 : decode cX11_init 154 = .ok (.aload_n 0, 1) := by decide +kernel
theorem dX11_init_155 : decode cX11_init 155 = .ok (.getfield 20, 3) := by decide +kernel
theorem dX11_init_158 : decode cX11_init 158 = .ok (.iload_n 1, 1) := by decide +kernel
theorem dX11_init_159 : decode cX11_init 159 = .ok (.new 18, 3) := by decide +kernel
theorem dX11_init_162 : decode cX11_init 162 = .ok (.dup, 1) := by decide +kernel
theorem dX11_init_163 : decode cX11_init 163 = .ok (.iconst (-1), 1) := by decide +kernel
theorem dX11_init_164 : decode cX11_init 164 = .ok (.invokespecial 59, 3) := by decide +kernel
theorem dX11_init_167 : decode cX11_init 167 = .ok (.aastore, 1) := by decide +kernel
theorem dX11_init_168 : decode cX11_init 168 = .ok (.iinc 1 1, 3) := by decide +kernel
theorem dX11_init_171 : decode cX11_init 171 = .ok (.goto (-26), 3) := by decide +kernel
theorem dX11_init_174 : decode cX11_init 174 = .ok (.return_, 1) := by decide +kernel
theorem dX11_row_0 : decode cX11_row 0 = .ok (.aload_n 0, 1) := by decide +kernel
theorem dX11_row_1 : decode cX11_row 1 = .ok (.aload_n 0, 1) := by decide +kernel
theorem dX11_row_2 : decode cX11_row 2 = .ok (.getfield 11, 3) := by decide +kernel
theorem dX11_row_5 : decode cX11_row 5 = .ok (.iload_n 1, 1) := by decide +kernel
theorem dX11_row_6 : decode cX11_row 6 = .ok (.invokestatic 60, 3) := by decide +kernel
theorem dX11_row_9 : decode cX11_row 9 = .ok (.iload_n 2, 1) := by decide +kernel
theorem dX11_row_10 : decode cX11_row 10 = .ok (.iconst 0, 1) := by decide +kernel
theorem dX11_row_11 : decode cX11_row 11 = .ok (.invokevirtual 64, 3) := by decide +kernel
theorem dX11_row_14 : decode cX11_row 14 = .ok (.ireturn, 1) := by decide +kernel
theorem dX11_lay_0 : decode cX11_lay 0 = .ok (.aload_n 0, 1) := by decide +kernel
theorem dX11_lay_1 : decode cX11_lay 1 = .ok (.getfield 11, 3) := by decide +kernel
theorem dX11_lay_4 : decode cX11_lay 4 = .ok (.iload_n 1, 1) := by decide +kernel
theorem dX11_lay_5 : decode cX11_lay 5 = .ok (.invokestatic 60, 3) := by decide +kernel
theorem dX11_lay_8 : decode cX11_lay 8 = .ok (.astore 4, 2) := by decide +kernel
theorem dX11_lay_10 : decode cX11_lay 10 = .ok (.aload_n 0, 1) := by decide +kernel
theorem dX11_lay_11 : decode cX11_lay 11 = .ok (.aload 4, 2) := by decide +kernel
theorem dX11_lay_13 : decode cX11_lay 13 = .ok (.iload_n 2, 1) := by decide +kernel
theorem dX11_lay_14 : decode cX11_lay 14 = .ok (.invokevirtual 68, 3) := by decide +kernel
theorem dX11_lay_17 : decode cX11_lay 17 = .ok (.istore 5, 2) := by decide +kernel
theorem dX11_lay_19 : decode cX11_lay 19 = .ok (.iload 5, 2) := by decide +kernel
theorem dX11_lay_21 : decode cX11_lay 21 = .ok (.ifCond .eq 6, 3) := by decide +kernel
theorem dX11_lay_24 : decode cX11_lay 24 = .ok (.iload 5, 2) := by decide +kernel
theorem dX11_lay_26 : decode cX11_lay 26 = .ok (.ireturn, 1) := by decide +kernel
theorem dX11_lay_27 : decode cX11_lay 27 = .ok (.aload_n 0, 1) := by decide +kernel
theorem dX11_lay_28 : decode cX11_lay 28 = .ok (.aload 4, 2) := by decide +kernel
theorem dX11_lay_30 : decode cX11_lay 30 = .ok (.getfield 72, 3) := by decide +kernel
theorem dX11_lay_33 : decode cX11_lay 33 = .ok (.iload_n 2, 1) := by decide +kernel
theorem dX11_lay_34 : decode cX11_lay 34 = .ok (.iaload, 1) := by decide +kernel
theorem dX11_lay_35 : decode cX11_lay 35 = .ok (.invokevirtual 75, 3) := by decide +kernel
theorem dX11_lay_38 : decode cX11_lay 38 = .ok (.aload 4, 2) := by decide +kernel
theorem dX11_lay_40 : decode cX11_lay 40 = .ok (.getfield 72, 3) := by decide +kernel
theorem dX11_lay_43 : decode cX11_lay 43 = .ok (.iload_n 2, 1) := by decide +kernel
theorem dX11_lay_44 : decode cX11_lay 44 = .ok (.iload_n 3, 1) := by decide +kernel
theorem dX11_lay_45 : decode cX11_lay 45 = .ok (.iastore, 1) := by decide +kernel
theorem dX11_lay_46 : decode cX11_lay 46 = .ok (.iconst 1, 1) := by decide +kernel
theorem dX11_lay_47 : decode cX11_lay 47 = .ok (.ireturn, 1) := by decide +kernel
theorem dX11_at_0 : decode cX11_at 0 = .ok (.aload_n 0, 1) := by decide +kernel
theorem dX11_at_1 : decode cX11_at 1 = .ok (.getfield 11, 3) := by decide +kernel
theorem dX11_at_4 : decode cX11_at 4 = .ok (.iload_n 1, 1) := by decide +kernel
theorem dX11_at_5 : decode cX11_at 5 = .ok (.invokestatic 60, 3) := by decide +kernel
theorem dX11_at_8 : decode cX11_at 8 = .ok (.astore_n 3, 1) := by decide +kernel
theorem dX11_at_9 : decode cX11_at 9 = .ok (.aload_n 0, 1) := by decide +kernel
theorem dX11_at_10 : decode cX11_at 10 = .ok (.aload_n 3, 1) := by decide +kernel
theorem dX11_at_11 : decode cX11_at 11 = .ok (.iload_n 2, 1) := by decide +kernel
theorem dX11_at_12 : decode cX11_at 12 = .ok (.invokevirtual 68, 3) := by decide +kernel
theorem dX11_at_15 : decode cX11_at 15 = .ok (.istore 4, 2) := by decide +kernel
theorem dX11_at_17 : decode cX11_at 17 = .ok (.iload 4, 2) := by decide +kernel
theorem dX11_at_19 : decode cX11_at 19 = .ok (.ifCond .eq 6, 3) := by decide +kernel
theorem dX11_at_22 : decode cX11_at 22 = .ok (.iload 4, 2) := by decide +kernel
theorem dX11_at_24 : decode cX11_at 24 = .ok (.ireturn, 1) := by decide +kernel
theorem dX11_at_25 : decode cX11_at 25 = .ok (.aload_n 0, 1) := by decide +kernel
theorem dX11_at_26 : decode cX11_at 26 = .ok (.aload_n 3, 1) := by decide +kernel
theorem dX11_at_27 : decode cX11_at 27 = .ok (.getfield 72, 3) := by decide +kernel
theorem dX11_at_30 : decode cX11_at 30 = .ok (.iload_n 2, 1) := by decide +kernel
theorem dX11_at_31 : decode cX11_at 31 = .ok (.iaload, 1) := by decide +kernel
theorem dX11_at_32 : decode cX11_at 32 = .ok (.invokevirtual 75, 3) := by decide +kernel
theorem dX11_at_35 : decode cX11_at 35 = .ok (.iconst 1, 1) := by decide +kernel
theorem dX11_at_36 : decode cX11_at 36 = .ok (.ireturn, 1) := by decide +kernel
theorem dX11_tear_0 : decode cX11_tear 0 = .ok (.aload_n 0, 1) := by decide +kernel
theorem dX11_tear_1 : decode cX11_tear 1 = .ok (.getfield 11, 3) := by decide +kernel
theorem dX11_tear_4 : decode cX11_tear 4 = .ok (.iload_n 1, 1) := by decide +kernel
theorem dX11_tear_5 : decode cX11_tear 5 = .ok (.invokestatic 60, 3) := by decide +kernel
theorem dX11_tear_8 : decode cX11_tear 8 = .ok (.astore_n 2, 1) := by decide +kernel
theorem dX11_tear_9 : decode cX11_tear 9 = .ok (.aload_n 0, 1) := by decide +kernel
theorem dX11_tear_10 : decode cX11_tear 10 = .ok (.aload_n 2, 1) := by decide +kernel
theorem dX11_tear_11 : decode cX11_tear 11 = .ok (.invokevirtual 78, 3) := by decide +kernel
theorem dX11_tear_14 : decode cX11_tear 14 = .ok (.istore_n 3, 1) := by decide +kernel
theorem dX11_tear_15 : decode cX11_tear 15 = .ok (.iload_n 3, 1) := by decide +kernel
theorem dX11_tear_16 : decode cX11_tear 16 = .ok (.ifCond .eq 5, 3) := by decide +kernel
theorem dX11_tear_19 : decode cX11_tear 19 = .ok (.iload_n 3, 1) := by decide +kernel
theorem dX11_tear_20 : decode cX11_tear 20 = .ok (.ireturn, 1) := by decide +kernel
theorem dX11_tear_21 : decode cX11_tear 21 = .ok (.aload_n 2, 1) := by decide +kernel
theorem dX11_tear_22 : decode cX11_tear 22 = .ok (.iconst (-1), 1) := by decide +kernel
theorem dX11_tear_23 : decode cX11_tear 23 = .ok (.putfield 82, 3) := by decide +kernel
theorem dX11_tear_26 : decode cX11_tear 26 = .ok (.iconst 1, 1) := by decide +kernel
theorem dX11_tear_27 : decode cX11_tear 27 = .ok (.ireturn, 1) := by decide +kernel
theorem dX11_copy_0 : decode cX11_copy 0 = .ok (.aload_n 0, 1) := by decide +kernel
theorem dX11_copy_1 : decode cX11_copy 1 = .ok (.getfield 11, 3) := by decide +kernel
theorem dX11_copy_4 : decode cX11_copy 4 = .ok (.iload_n 1, 1) := by decide +kernel
theorem dX11_copy_5 : decode cX11_copy 5 = .ok (.invokestatic 60, 3) := by decide +kernel
theorem dX11_copy_8 : decode cX11_copy 8 = .ok (.astore 6, 2) := by decide +kernel
theorem dX11_copy_10 : decode cX11_copy 10 = .ok (.aload_n 0, 1) := by decide +kernel
theorem dX11_copy_11 : decode cX11_copy 11 = .ok (.getfield 11, 3) := by decide +kernel
theorem dX11_copy_14 : decode cX11_copy 14 = .ok (.iload_n 3, 1) := by decide +kernel
theorem dX11_copy_15 : decode cX11_copy 15 = .ok (.invokestatic 60, 3) := by decide +kernel
theorem dX11_copy_18 : decode cX11_copy 18 = .ok (.astore 7, 2) := by decide +kernel
theorem dX11_copy_20 : decode cX11_copy 20 = .ok (.aload 6, 2) := by decide +kernel
theorem dX11_copy_22 : decode cX11_copy 22 = .ok (.ifnull 8, 3) := by decide +kernel
theorem dX11_copy_25 : decode cX11_copy 25 = .ok (.aload 7, 2) := by decide +kernel
theorem dX11_copy_27 : decode cX11_copy 27 = .ok (.ifnonnull 5, 3) := by decide +kernel
theorem dX11_copy_30 : decode cX11_copy 30 = .ok (.iconst (-1), 1) := by decide +kernel
theorem dX11_copy_31 : decode cX11_copy 31 = .ok (.ireturn, 1) := by decide +kernel
theorem dX11_copy_32 : decode cX11_copy 32 = .ok (.iload 5, 2) := by decide +kernel
theorem dX11_copy_34 : decode cX11_copy 34 = .ok (.ifCond .ge 9, 3) := by decide +kernel
theorem dX11_copy_37 : decode cX11_copy 37 = .ok (.aload_n 0, 1) := by decide +kernel
theorem dX11_copy_38 : decode cX11_copy 38 = .ok (.iconst 5, 1) := by decide +kernel
theorem dX11_copy_39 : decode cX11_copy 39 = .ok (.invokevirtual 85, 3) := by decide +kernel
theorem dX11_copy_42 : decode cX11_copy 42 = .ok (.ireturn, 1) := by decide +kernel
theorem dX11_copy_43 : decode cX11_copy 43 = .ok (.aload 6, 2) := by decide +kernel
theorem dX11_copy_45 : decode cX11_copy 45 = .ok (.invokevirtual 89, 3) := by decide +kernel
theorem dX11_copy_48 : decode cX11_copy 48 = .ok (.ifCond .ne 11, 3) := by decide +kernel
theorem dX11_copy_51 : decode cX11_copy 51 = .ok (.aload 7, 2) := by decide +kernel
theorem dX11_copy_53 : decode cX11_copy 53 = .ok (.invokevirtual 89, 3) := by decide +kernel
theorem dX11_copy_56 : decode cX11_copy 56 = .ok (.ifCond .eq 9, 3) := by decide +kernel
theorem dX11_copy_59 : decode cX11_copy 59 = .ok (.aload_n 0, 1) := by decide +kernel
theorem dX11_copy_60 : decode cX11_copy 60 = .ok (.iconst 1, 1) := by decide +kernel
theorem dX11_copy_61 : decode cX11_copy 61 = .ok (.invokevirtual 85, 3) := by decide +kernel
theorem dX11_copy_64 : decode cX11_copy 64 = .ok (.ireturn, 1) := by decide +kernel
theorem dX11_copy_65 : decode cX11_copy 65 = .ok (.aload 6, 2) := by decide +kernel
theorem dX11_copy_67 : decode cX11_copy 67 = .ok (.iload_n 2, 1) := by decide +kernel
theorem dX11_copy_68 : decode cX11_copy 68 = .ok (.iload 5, 2) := by decide +kernel
theorem dX11_copy_70 : decode cX11_copy 70 = .ok (.invokevirtual 93, 3) := by decide +kernel
theorem dX11_copy_73 : decode cX11_copy 73 = .ok (.ifCond .eq 15, 3) := by decide +kernel
theorem dX11_copy_76 : decode cX11_copy 76 = .ok (.aload 7, 2) := by decide +kernel
theorem dX11_copy_78 : decode cX11_copy 78 = .ok (.iload 4, 2) := by decide +kernel
theorem dX11_copy_80 : decode cX11_copy 80 = .ok (.iload 5, 2) := by decide +kernel
theorem dX11_copy_82 : decode cX11_copy 82 = .ok (.invokevirtual 93, 3) := by decide +kernel
theorem dX11_copy_85 : decode cX11_copy 85 = .ok (.ifCond .ne 9, 3) := by decide +kernel
theorem dX11_copy_88 : decode cX11_copy 88 = .ok (.aload_n 0, 1) := by decide +kernel
theorem dX11_copy_89 : decode cX11_copy 89 = .ok (.iconst 2, 1) := by decide +kernel
theorem dX11_copy_90 : decode cX11_copy 90 = .ok (.invokevirtual 85, 3) := by decide +kernel
theorem dX11_copy_93 : decode cX11_copy 93 = .ok (.ireturn, 1) := by decide +kernel
theorem dX11_copy_94 : decode cX11_copy 94 = .ok (.aload 6, 2) := by decide +kernel
theorem dX11_copy_96 : decode cX11_copy 96 = .ok (.getfield 72, 3) := by decide +kernel
theorem dX11_copy_99 : decode cX11_copy 99 = .ok (.iload_n 2, 1) := by decide +kernel
theorem dX11_copy_100 : decode cX11_copy 100 = .ok (.aload 7, 2) := by decide +kernel
theorem dX11_copy_102 : decode cX11_copy 102 = .ok (.getfield 72, 3) := by decide +kernel
theorem dX11_copy_105 : decode cX11_copy 105 = .ok (.iload 4, 2) := by decide +kernel
theorem dX11_copy_107 : decode cX11_copy 107 = .ok (.iload 5, 2) := by decide +kernel
theorem dX11_copy_109 : decode cX11_copy 109 = .ok (.invokestatic 97, 3) := by decide +kernel
theorem dX11_copy_112 : decode cX11_copy 112 = .ok (.iconst 1, 1) := by decide +kernel
theorem dX11_copy_113 : decode cX11_copy 113 = .ok (.ireturn, 1) := by decide +kernel
theorem dX11_mean_0 : decode cX11_mean 0 = .ok (.aload_n 0, 1) := by decide +kernel
theorem dX11_mean_1 : decode cX11_mean 1 = .ok (.getfield 11, 3) := by decide +kernel
theorem dX11_mean_4 : decode cX11_mean 4 = .ok (.iload_n 1, 1) := by decide +kernel
theorem dX11_mean_5 : decode cX11_mean 5 = .ok (.invokestatic 60, 3) := by decide +kernel
theorem dX11_mean_8 : decode cX11_mean 8 = .ok (.astore_n 2, 1) := by decide +kernel
theorem dX11_mean_9 : decode cX11_mean 9 = .ok (.aload_n 0, 1) := by decide +kernel
theorem dX11_mean_10 : decode cX11_mean 10 = .ok (.aload_n 2, 1) := by decide +kernel
theorem dX11_mean_11 : decode cX11_mean 11 = .ok (.invokevirtual 78, 3) := by decide +kernel
theorem dX11_mean_14 : decode cX11_mean 14 = .ok (.istore_n 3, 1) := by decide +kernel
theorem dX11_mean_15 : decode cX11_mean 15 = .ok (.iload_n 3, 1) := by decide +kernel
theorem dX11_mean_16 : decode cX11_mean 16 = .ok (.ifCond .eq 5, 3) := by decide +kernel
theorem dX11_mean_19 : decode cX11_mean 19 = .ok (.iload_n 3, 1) := by decide +kernel
theorem dX11_mean_20 : decode cX11_mean 20 = .ok (.ireturn, 1) := by decide +kernel
theorem dX11_mean_21 : decode cX11_mean 21 = .ok (.aload_n 2, 1) := by decide +kernel
theorem dX11_mean_22 : decode cX11_mean 22 = .ok (.getfield 82, 3) := by decide +kernel
theorem dX11_mean_25 : decode cX11_mean 25 = .ok (.ifCond .ne 9, 3) := by decide +kernel
theorem dX11_mean_28 : decode cX11_mean 28 = .ok (.aload_n 0, 1) := by decide +kernel
theorem dX11_mean_29 : decode cX11_mean 29 = .ok (.iconst 4, 1) := by decide +kernel
theorem dX11_mean_30 : decode cX11_mean 30 = .ok (.invokevirtual 85, 3) := by decide +kernel
theorem dX11_mean_33 : decode cX11_mean 33 = .ok (.ireturn, 1) := by decide +kernel
theorem dX11_mean_34 : decode cX11_mean 34 = .ok (.aload_n 0, 1) := by decide +kernel
theorem dX11_mean_35 : decode cX11_mean 35 = .ok (.aload_n 2, 1) := by decide +kernel
theorem dX11_mean_36 : decode cX11_mean 36 = .ok (.invokevirtual 103, 3) := by decide +kernel
theorem dX11_mean_39 : decode cX11_mean 39 = .ok (.aload_n 2, 1) := by decide +kernel
theorem dX11_mean_40 : decode cX11_mean 40 = .ok (.getfield 82, 3) := by decide +kernel
theorem dX11_mean_43 : decode cX11_mean 43 = .ok (.i2l, 1) := by decide +kernel
theorem dX11_mean_44 : decode cX11_mean 44 = .ok (.ldiv, 1) := by decide +kernel
theorem dX11_mean_45 : decode cX11_mean 45 = .ok (.l2i, 1) := by decide +kernel
theorem dX11_mean_46 : decode cX11_mean 46 = .ok (.invokevirtual 75, 3) := by decide +kernel
theorem dX11_mean_49 : decode cX11_mean 49 = .ok (.iconst 1, 1) := by decide +kernel
theorem dX11_mean_50 : decode cX11_mean 50 = .ok (.ireturn, 1) := by decide +kernel
theorem dX11_text_0 : decode cX11_text 0 = .ok (.aload_n 0, 1) := by decide +kernel
theorem dX11_text_1 : decode cX11_text 1 = .ok (.aload_n 0, 1) := by decide +kernel
theorem dX11_text_2 : decode cX11_text 2 = .ok (.getfield 15, 3) := by decide +kernel
theorem dX11_text_5 : decode cX11_text 5 = .ok (.iload_n 1, 1) := by decide +kernel
theorem dX11_text_6 : decode cX11_text 6 = .ok (.invokestatic 60, 3) := by decide +kernel
theorem dX11_text_9 : decode cX11_text 9 = .ok (.iload_n 2, 1) := by decide +kernel
theorem dX11_text_10 : decode cX11_text 10 = .ok (.bipush 32, 2) := by decide +kernel
theorem dX11_text_12 : decode cX11_text 12 = .ok (.invokevirtual 64, 3) := by decide +kernel
theorem dX11_text_15 : decode cX11_text 15 = .ok (.ireturn, 1) := by decide +kernel
theorem dX11_put_0 : decode cX11_put 0 = .ok (.aload_n 0, 1) := by decide +kernel
theorem dX11_put_1 : decode cX11_put 1 = .ok (.getfield 15, 3) := by decide +kernel
theorem dX11_put_4 : decode cX11_put 4 = .ok (.iload_n 1, 1) := by decide +kernel
theorem dX11_put_5 : decode cX11_put 5 = .ok (.invokestatic 60, 3) := by decide +kernel
theorem dX11_put_8 : decode cX11_put 8 = .ok (.astore 4, 2) := by decide +kernel
theorem dX11_put_10 : decode cX11_put 10 = .ok (.aload_n 0, 1) := by decide +kernel
theorem dX11_put_11 : decode cX11_put 11 = .ok (.aload 4, 2) := by decide +kernel
theorem dX11_put_13 : decode cX11_put 13 = .ok (.iload_n 2, 1) := by decide +kernel
theorem dX11_put_14 : decode cX11_put 14 = .ok (.invokevirtual 68, 3) := by decide +kernel
theorem dX11_put_17 : decode cX11_put 17 = .ok (.istore 5, 2) := by decide +kernel
theorem dX11_put_19 : decode cX11_put 19 = .ok (.iload 5, 2) := by decide +kernel
theorem dX11_put_21 : decode cX11_put 21 = .ok (.ifCond .eq 6, 3) := by decide +kernel
theorem dX11_put_24 : decode cX11_put 24 = .ok (.iload 5, 2) := by decide +kernel
theorem dX11_put_26 : decode cX11_put 26 = .ok (.ireturn, 1) := by decide +kernel
theorem dX11_put_27 : decode cX11_put 27 = .ok (.aload 4, 2) := by decide +kernel
theorem dX11_put_29 : decode cX11_put 29 = .ok (.getfield 72, 3) := by decide +kernel
theorem dX11_put_32 : decode cX11_put 32 = .ok (.iload_n 2, 1) := by decide +kernel
theorem dX11_put_33 : decode cX11_put 33 = .ok (.iaload, 1) := by decide +kernel
theorem dX11_put_34 : decode cX11_put 34 = .ok (.istore 6, 2) := by decide +kernel
theorem dX11_put_36 : decode cX11_put 36 = .ok (.aload 4, 2) := by decide +kernel
theorem dX11_put_38 : decode cX11_put 38 = .ok (.getfield 72, 3) := by decide +kernel
theorem dX11_put_41 : decode cX11_put 41 = .ok (.iload_n 2, 1) := by decide +kernel
theorem dX11_put_42 : decode cX11_put 42 = .ok (.iload_n 3, 1) := by decide +kernel
theorem dX11_put_43 : decode cX11_put 43 = .ok (.i2b, 1) := by decide +kernel
theorem dX11_put_44 : decode cX11_put 44 = .ok (.iastore, 1) := by decide +kernel
theorem dX11_put_45 : decode cX11_put 45 = .ok (.iload 6, 2) := by decide +kernel
theorem dX11_put_47 : decode cX11_put 47 = .ok (.sipush 1000, 3) := by decide +kernel
theorem dX11_put_50 : decode cX11_put 50 = .ok (.iadd, 1) := by decide +kernel
theorem dX11_put_51 : decode cX11_put 51 = .ok (.ireturn, 1) := by decide +kernel
theorem dX11_fault_0 : decode cX11_fault 0 = .ok (.aload_n 0, 1) := by decide +kernel
theorem dX11_fault_1 : decode cX11_fault 1 = .ok (.getfield 15, 3) := by decide +kernel
theorem dX11_fault_4 : decode cX11_fault 4 = .ok (.iload_n 1, 1) := by decide +kernel
theorem dX11_fault_5 : decode cX11_fault 5 = .ok (.invokestatic 60, 3) := by decide +kernel
theorem dX11_fault_8 : decode cX11_fault 8 = .ok (.astore_n 2, 1) := by decide +kernel
theorem dX11_fault_9 : decode cX11_fault 9 = .ok (.aload_n 0, 1) := by decide +kernel
theorem dX11_fault_10 : decode cX11_fault 10 = .ok (.aload_n 2, 1) := by decide +kernel
theorem dX11_fault_11 : decode cX11_fault 11 = .ok (.invokevirtual 78, 3) := by decide +kernel
theorem dX11_fault_14 : decode cX11_fault 14 = .ok (.istore_n 3, 1) := by decide +kernel
theorem dX11_fault_15 : decode cX11_fault 15 = .ok (.iload_n 3, 1) := by decide +kernel
theorem dX11_fault_16 : decode cX11_fault 16 = .ok (.ifCond .eq 7, 3) := by decide +kernel
theorem dX11_fault_19 : decode cX11_fault 19 = .ok (.iload_n 3, 1) := by decide +kernel
theorem dX11_fault_20 : decode cX11_fault 20 = .ok (.goto 11, 3) := by decide +kernel
theorem dX11_fault_23 : decode cX11_fault 23 = .ok (.aload_n 0, 1) := by decide +kernel
theorem dX11_fault_24 : decode cX11_fault 24 = .ok (.getfield 27, 3) := by decide +kernel
theorem dX11_fault_27 : decode cX11_fault 27 = .ok (.aload_n 2, 1) := by decide +kernel
theorem dX11_fault_28 : decode cX11_fault 28 = .ok (.invokevirtual 107, 3) := by decide +kernel
theorem dX11_fault_31 : decode cX11_fault 31 = .ok (.ireturn, 1) := by decide +kernel
theorem dX11_shed_0 : decode cX11_shed 0 = .ok (.aload_n 0, 1) := by decide +kernel
theorem dX11_shed_1 : decode cX11_shed 1 = .ok (.getfield 15, 3) := by decide +kernel
theorem dX11_shed_4 : decode cX11_shed 4 = .ok (.iload_n 1, 1) := by decide +kernel
theorem dX11_shed_5 : decode cX11_shed 5 = .ok (.invokestatic 60, 3) := by decide +kernel
theorem dX11_shed_8 : decode cX11_shed 8 = .ok (.astore_n 2, 1) := by decide +kernel
theorem dX11_shed_9 : decode cX11_shed 9 = .ok (.aload_n 0, 1) := by decide +kernel
theorem dX11_shed_10 : decode cX11_shed 10 = .ok (.aload_n 2, 1) := by decide +kernel
theorem dX11_shed_11 : decode cX11_shed 11 = .ok (.invokevirtual 78, 3) := by decide +kernel
theorem dX11_shed_14 : decode cX11_shed 14 = .ok (.istore_n 3, 1) := by decide +kernel
theorem dX11_shed_15 : decode cX11_shed 15 = .ok (.iload_n 3, 1) := by decide +kernel
theorem dX11_shed_16 : decode cX11_shed 16 = .ok (.ifCond .eq 5, 3) := by decide +kernel
theorem dX11_shed_19 : decode cX11_shed 19 = .ok (.iload_n 3, 1) := by decide +kernel
theorem dX11_shed_20 : decode cX11_shed 20 = .ok (.ireturn, 1) := by decide +kernel
theorem dX11_shed_21 : decode cX11_shed 21 = .ok (.aload_n 0, 1) := by decide +kernel
theorem dX11_shed_22 : decode cX11_shed 22 = .ok (.getfield 27, 3) := by decide +kernel
theorem dX11_shed_25 : decode cX11_shed 25 = .ok (.aload_n 2, 1) := by decide +kernel
theorem dX11_shed_26 : decode cX11_shed 26 = .ok (.invokevirtual 107, 3) := by decide +kernel
theorem dX11_shed_29 : decode cX11_shed 29 = .ok (.bipush (-9), 2) := by decide +kernel
theorem dX11_shed_31 : decode cX11_shed 31 = .ok (.if_icmp .eq 6, 3) := by decide +kernel
theorem dX11_shed_34 : decode cX11_shed 34 = .ok (.bipush (-4), 2) := by decide +kernel
theorem dX11_shed_36 : decode cX11_shed 36 = .ok (.ireturn, 1) := by decide +kernel
theorem dX11_shed_37 : decode cX11_shed 37 = .ok (.aload_n 0, 1) := by decide +kernel
theorem dX11_shed_38 : decode cX11_shed 38 = .ok (.getfield 34, 3) := by decide +kernel
theorem dX11_shed_41 : decode cX11_shed 41 = .ok (.aload_n 0, 1) := by decide +kernel
theorem dX11_shed_42 : decode cX11_shed 42 = .ok (.getfield 27, 3) := by decide +kernel
theorem dX11_shed_45 : decode cX11_shed 45 = .ok (.invokevirtual 110, 3) := by decide +kernel
theorem dX11_shed_48 : decode cX11_shed 48 = .ok (.iconst 0, 1) := by decide +kernel
theorem dX11_shed_49 : decode cX11_shed 49 = .ok (.istore 4, 2) := by decide +kernel
theorem dX11_shed_51 : decode cX11_shed 51 = .ok (.iload 4, 2) := by decide +kernel
theorem dX11_shed_53 : decode cX11_shed 53 = .ok (.aload_n 0, 1) := by decide +kernel
theorem dX11_shed_54 : decode cX11_shed 54 = .ok (.getfield 20, 3) := by decide +kernel
theorem dX11_shed_57 : decode cX11_shed 57 = .ok (.arraylength, 1) := by decide +kernel
theorem dX11_shed_58 : decode cX11_shed 58 = .ok (.if_icmp .ge 20, 3) := by decide +kernel
theorem dX11_shed_61 : decode cX11_shed 61 = .ok (.aload_n 0, 1) := by decide +kernel
theorem dX11_shed_62 : decode cX11_shed 62 = .ok (.getfield 20, 3) := by decide +kernel
theorem dX11_shed_65 : decode cX11_shed 65 = .ok (.iload 4, 2) := by decide +kernel
theorem dX11_shed_67 : decode cX11_shed 67 = .ok (.aaload, 1) := by decide +kernel
theorem dX11_shed_68 : decode cX11_shed 68 = .ok (.iconst (-1), 1) := by decide +kernel
theorem dX11_shed_69 : decode cX11_shed 69 = .ok (.putfield 114, 3) := by decide +kernel
theorem dX11_shed_72 : decode cX11_shed 72 = .ok (.iinc 4 1, 3) := by decide +kernel
theorem dX11_shed_75 : decode cX11_shed 75 = .ok (.goto (-24), 3) := by decide +kernel
theorem dX11_shed_78 : decode cX11_shed 78 = .ok (.aload_n 0, 1) := by decide +kernel
theorem dX11_shed_79 : decode cX11_shed 79 = .ok (.getfield 34, 3) := by decide +kernel
theorem dX11_shed_82 : decode cX11_shed 82 = .ok (.getfield 115, 3) := by decide +kernel
theorem dX11_shed_85 : decode cX11_shed 85 = .ok (.ireturn, 1) := by decide +kernel
theorem dX11_person_0 : decode cX11_person 0 = .ok (.aload_n 0, 1) := by decide +kernel
theorem dX11_person_1 : decode cX11_person 1 = .ok (.getfield 34, 3) := by decide +kernel
theorem dX11_person_4 : decode cX11_person 4 = .ok (.iload_n 1, 1) := by decide +kernel
theorem dX11_person_5 : decode cX11_person 5 = .ok (.invokevirtual 118, 3) := by decide +kernel
theorem dX11_person_8 : decode cX11_person 8 = .ok (.astore_n 3, 1) := by decide +kernel
theorem dX11_person_9 : decode cX11_person 9 = .ok (.aload_n 3, 1) := by decide +kernel
theorem dX11_person_10 : decode cX11_person 10 = .ok (.ifnull 12, 3) := by decide +kernel
theorem dX11_person_13 : decode cX11_person 13 = .ok (.iload_n 2, 1) := by decide +kernel
theorem dX11_person_14 : decode cX11_person 14 = .ok (.ifCond .lt 8, 3) := by decide +kernel
theorem dX11_person_17 : decode cX11_person 17 = .ok (.iload_n 2, 1) := by decide +kernel
theorem dX11_person_18 : decode cX11_person 18 = .ok (.iconst 3, 1) := by decide +kernel
theorem dX11_person_19 : decode cX11_person 19 = .ok (.if_icmp .le 5, 3) := by decide +kernel
theorem dX11_person_22 : decode cX11_person 22 = .ok (.iconst (-1), 1) := by decide +kernel
theorem dX11_person_23 : decode cX11_person 23 = .ok (.ireturn, 1) := by decide +kernel
theorem dX11_person_24 : decode cX11_person 24 = .ok (.aload_n 0, 1) := by decide +kernel
theorem dX11_person_25 : decode cX11_person 25 = .ok (.aload_n 0, 1) := by decide +kernel
theorem dX11_person_26 : decode cX11_person 26 = .ok (.aload_n 3, 1) := by decide +kernel
theorem dX11_person_27 : decode cX11_person 27 = .ok (.iload_n 1, 1) := by decide +kernel
theorem dX11_person_28 : decode cX11_person 28 = .ok (.iload_n 2, 1) := by decide +kernel
theorem dX11_person_29 : decode cX11_person 29 = .ok (.invokevirtual 122, 3) := by decide +kernel
theorem dX11_person_32 : decode cX11_person 32 = .ok (.invokevirtual 75, 3) := by decide +kernel
theorem dX11_person_35 : decode cX11_person 35 = .ok (.iconst 1, 1) := by decide +kernel
theorem dX11_person_36 : decode cX11_person 36 = .ok (.ireturn, 1) := by decide +kernel
theorem dX11_mark_0 : decode cX11_mark 0 = .ok (.aload_n 0, 1) := by decide +kernel
theorem dX11_mark_1 : decode cX11_mark 1 = .ok (.getfield 34, 3) := by decide +kernel
theorem dX11_mark_4 : decode cX11_mark 4 = .ok (.iload_n 1, 1) := by decide +kernel
theorem dX11_mark_5 : decode cX11_mark 5 = .ok (.invokevirtual 118, 3) := by decide +kernel
theorem dX11_mark_8 : decode cX11_mark 8 = .ok (.astore_n 3, 1) := by decide +kernel
theorem dX11_mark_9 : decode cX11_mark 9 = .ok (.aload_n 3, 1) := by decide +kernel
theorem dX11_mark_10 : decode cX11_mark 10 = .ok (.ifnull 12, 3) := by decide +kernel
theorem dX11_mark_13 : decode cX11_mark 13 = .ok (.iload_n 2, 1) := by decide +kernel
theorem dX11_mark_14 : decode cX11_mark 14 = .ok (.ifCond .le 8, 3) := by decide +kernel
theorem dX11_mark_17 : decode cX11_mark 17 = .ok (.iload_n 2, 1) := by decide +kernel
theorem dX11_mark_18 : decode cX11_mark 18 = .ok (.iconst 5, 1) := by decide +kernel
theorem dX11_mark_19 : decode cX11_mark 19 = .ok (.if_icmp .le 5, 3) := by decide +kernel
theorem dX11_mark_22 : decode cX11_mark 22 = .ok (.iconst (-1), 1) := by decide +kernel
theorem dX11_mark_23 : decode cX11_mark 23 = .ok (.ireturn, 1) := by decide +kernel
theorem dX11_mark_24 : decode cX11_mark 24 = .ok (.iload_n 2, 1) := by decide +kernel
theorem dX11_mark_25 : decode cX11_mark 25 = .ok (.iconst 1, 1) := by decide +kernel
theorem dX11_mark_26 : decode cX11_mark 26 = .ok (.if_icmp .ne 22, 3) := by decide +kernel
theorem dX11_mark_29 : decode cX11_mark 29 = .ok (.aload_n 3, 1) := by decide +kernel
theorem dX11_mark_30 : decode cX11_mark 30 = .ok (.instanceof 126, 3) := by decide +kernel
theorem dX11_mark_33 : decode cX11_mark 33 = .ok (.ifCond .eq 15, 3) := by decide +kernel
theorem dX11_mark_36 : decode cX11_mark 36 = .ok (.aload_n 3, 1) := by decide +kernel
theorem dX11_mark_37 : decode cX11_mark 37 = .ok (.checkcast 126, 3) := by decide +kernel
theorem dX11_mark_40 : decode cX11_mark 40 = .ok (.astore 4, 2) := by decide +kernel
theorem dX11_mark_42 : decode cX11_mark 42 = .ok (.aload 4, 2) := by decide +kernel
theorem dX11_mark_44 : decode cX11_mark 44 = .ok (.invokevirtual 128, 3) := by decide +kernel
theorem dX11_mark_47 : decode cX11_mark 47 = .ok (.ireturn, 1) := by decide +kernel
theorem dX11_mark_48 : decode cX11_mark 48 = .ok (.iload_n 2, 1) := by decide +kernel
theorem dX11_mark_49 : decode cX11_mark 49 = .ok (.iconst 2, 1) := by decide +kernel
theorem dX11_mark_50 : decode cX11_mark 50 = .ok (.if_icmp .ne 22, 3) := by decide +kernel
theorem dX11_mark_53 : decode cX11_mark 53 = .ok (.aload_n 3, 1) := by decide +kernel
theorem dX11_mark_54 : decode cX11_mark 54 = .ok (.instanceof 132, 3) := by decide +kernel
theorem dX11_mark_57 : decode cX11_mark 57 = .ok (.ifCond .eq 15, 3) := by decide +kernel
theorem dX11_mark_60 : decode cX11_mark 60 = .ok (.aload_n 3, 1) := by decide +kernel
theorem dX11_mark_61 : decode cX11_mark 61 = .ok (.checkcast 132, 3) := by decide +kernel
theorem dX11_mark_64 : decode cX11_mark 64 = .ok (.astore 4, 2) := by decide +kernel
theorem dX11_mark_66 : decode cX11_mark 66 = .ok (.aload 4, 2) := by decide +kernel
theorem dX11_mark_68 : decode cX11_mark 68 = .ok (.invokevirtual 134, 3) := by decide +kernel
theorem dX11_mark_71 : decode cX11_mark 71 = .ok (.ireturn, 1) := by decide +kernel
theorem dX11_mark_72 : decode cX11_mark 72 = .ok (.iload_n 2, 1) := by decide +kernel
theorem dX11_mark_73 : decode cX11_mark 73 = .ok (.iconst 3, 1) := by decide +kernel
theorem dX11_mark_74 : decode cX11_mark 74 = .ok (.if_icmp .ne 18, 3) := by decide +kernel
theorem dX11_mark_77 : decode cX11_mark 77 = .ok (.aload_n 3, 1) := by decide +kernel
theorem dX11_mark_78 : decode cX11_mark 78 = .ok (.instanceof 137, 3) := by decide +kernel
theorem dX11_mark_81 : decode cX11_mark 81 = .ok (.ifCond .eq 11, 3) := by decide +kernel
theorem dX11_mark_84 : decode cX11_mark 84 = .ok (.aload_n 0, 1) := by decide +kernel
theorem dX11_mark_85 : decode cX11_mark 85 = .ok (.getfield 34, 3) := by decide +kernel
theorem dX11_mark_88 : decode cX11_mark 88 = .ok (.invokevirtual 139, 3) := by decide +kernel
theorem dX11_mark_91 : decode cX11_mark 91 = .ok (.ireturn, 1) := by decide +kernel
theorem dX11_mark_92 : decode cX11_mark 92 = .ok (.iload_n 2, 1) := by decide +kernel
theorem dX11_mark_93 : decode cX11_mark 93 = .ok (.iconst 4, 1) := by decide +kernel
theorem dX11_mark_94 : decode cX11_mark 94 = .ok (.if_icmp .ne 22, 3) := by decide +kernel
theorem dX11_mark_97 : decode cX11_mark 97 = .ok (.aload_n 3, 1) := by decide +kernel
theorem dX11_mark_98 : decode cX11_mark 98 = .ok (.instanceof 142, 3) := by decide +kernel
theorem dX11_mark_101 : decode cX11_mark 101 = .ok (.ifCond .eq 15, 3) := by decide +kernel
theorem dX11_mark_104 : decode cX11_mark 104 = .ok (.aload_n 3, 1) := by decide +kernel
theorem dX11_mark_105 : decode cX11_mark 105 = .ok (.checkcast 142, 3) := by decide +kernel
theorem dX11_mark_108 : decode cX11_mark 108 = .ok (.astore 4, 2) := by decide +kernel
theorem dX11_mark_110 : decode cX11_mark 110 = .ok (.aload 4, 2) := by decide +kernel
theorem dX11_mark_112 : decode cX11_mark 112 = .ok (.invokevirtual 144, 3) := by decide +kernel
theorem dX11_mark_115 : decode cX11_mark 115 = .ok (.ireturn, 1) := by decide +kernel
theorem dX11_mark_116 : decode cX11_mark 116 = .ok (.iload_n 2, 1) := by decide +kernel
theorem dX11_mark_117 : decode cX11_mark 117 = .ok (.iconst 5, 1) := by decide +kernel
theorem dX11_mark_118 : decode cX11_mark 118 = .ok (.if_icmp .ne 22, 3) := by decide +kernel
theorem dX11_mark_121 : decode cX11_mark 121 = .ok (.aload_n 3, 1) := by decide +kernel
theorem dX11_mark_122 : decode cX11_mark 122 = .ok (.instanceof 147, 3) := by decide +kernel
theorem dX11_mark_125 : decode cX11_mark 125 = .ok (.ifCond .eq 15, 3) := by decide +kernel
theorem dX11_mark_128 : decode cX11_mark 128 = .ok (.aload_n 3, 1) := by decide +kernel
theorem dX11_mark_129 : decode cX11_mark 129 = .ok (.checkcast 147, 3) := by decide +kernel
theorem dX11_mark_132 : decode cX11_mark 132 = .ok (.astore 4, 2) := by decide +kernel
theorem dX11_mark_134 : decode cX11_mark 134 = .ok (.aload 4, 2) := by decide +kernel
theorem dX11_mark_136 : decode cX11_mark 136 = .ok (.invokevirtual 149, 3) := by decide +kernel
theorem dX11_mark_139 : decode cX11_mark 139 = .ok (.ireturn, 1) := by decide +kernel
theorem dX11_mark_140 : decode cX11_mark 140 = .ok (.aload_n 0, 1) := by decide +kernel
theorem dX11_mark_141 : decode cX11_mark 141 = .ok (.iconst 3, 1) := by decide +kernel
theorem dX11_mark_142 : decode cX11_mark 142 = .ok (.invokevirtual 85, 3) := by decide +kernel
theorem dX11_mark_145 : decode cX11_mark 145 = .ok (.ireturn, 1) := by decide +kernel
theorem dX11_flicks_0 : decode cX11_flicks 0 = .ok (.aload_n 0, 1) := by decide +kernel
theorem dX11_flicks_1 : decode cX11_flicks 1 = .ok (.getfield 34, 3) := by decide +kernel
theorem dX11_flicks_4 : decode cX11_flicks 4 = .ok (.iload_n 1, 1) := by decide +kernel
theorem dX11_flicks_5 : decode cX11_flicks 5 = .ok (.invokevirtual 118, 3) := by decide +kernel
theorem dX11_flicks_8 : decode cX11_flicks 8 = .ok (.astore_n 3, 1) := by decide +kernel
theorem dX11_flicks_9 : decode cX11_flicks 9 = .ok (.aload_n 3, 1) := by decide +kernel
theorem dX11_flicks_10 : decode cX11_flicks 10 = .ok (.ifnull 13, 3) := by decide +kernel
theorem dX11_flicks_13 : decode cX11_flicks 13 = .ok (.iload_n 2, 1) := by decide +kernel
theorem dX11_flicks_14 : decode cX11_flicks 14 = .ok (.iconst 1, 1) := by decide +kernel
theorem dX11_flicks_15 : decode cX11_flicks 15 = .ok (.if_icmp .lt 8, 3) := by decide +kernel
theorem dX11_flicks_18 : decode cX11_flicks 18 = .ok (.iload_n 2, 1) := by decide +kernel
theorem dX11_flicks_19 : decode cX11_flicks 19 = .ok (.iconst 3, 1) := by decide +kernel
theorem dX11_flicks_20 : decode cX11_flicks 20 = .ok (.if_icmp .le 5, 3) := by decide +kernel
theorem dX11_flicks_23 : decode cX11_flicks 23 = .ok (.iconst (-1), 1) := by decide +kernel
theorem dX11_flicks_24 : decode cX11_flicks 24 = .ok (.ireturn, 1) := by decide +kernel
theorem dX11_flicks_25 : decode cX11_flicks 25 = .ok (.aload_n 0, 1) := by decide +kernel
theorem dX11_flicks_26 : decode cX11_flicks 26 = .ok (.getfield 34, 3) := by decide +kernel
theorem dX11_flicks_29 : decode cX11_flicks 29 = .ok (.getfield 152, 3) := by decide +kernel
theorem dX11_flicks_32 : decode cX11_flicks 32 = .ok (.getfield 114, 3) := by decide +kernel
theorem dX11_flicks_35 : decode cX11_flicks 35 = .ok (.ifCond .le 6, 3) := by decide +kernel
theorem dX11_flicks_38 : decode cX11_flicks 38 = .ok (.bipush (-4), 2) := by decide +kernel
theorem dX11_flicks_40 : decode cX11_flicks 40 = .ok (.ireturn, 1) := by decide +kernel
theorem dX11_flicks_41 : decode cX11_flicks 41 = .ok (.aload_n 3, 1) := by decide +kernel
theorem dX11_flicks_42 : decode cX11_flicks 42 = .ok (.getfield 156, 3) := by decide +kernel
theorem dX11_flicks_45 : decode cX11_flicks 45 = .ok (.istore 4, 2) := by decide +kernel
theorem dX11_flicks_47 : decode cX11_flicks 47 = .ok (.aload_n 0, 1) := by decide +kernel
theorem dX11_flicks_48 : decode cX11_flicks 48 = .ok (.getfield 34, 3) := by decide +kernel
theorem dX11_flicks_51 : decode cX11_flicks 51 = .ok (.iload_n 1, 1) := by decide +kernel
theorem dX11_flicks_52 : decode cX11_flicks 52 = .ok (.iload_n 2, 1) := by decide +kernel
theorem dX11_flicks_53 : decode cX11_flicks 53 = .ok (.invokevirtual 161, 3) := by decide +kernel
theorem dX11_flicks_56 : decode cX11_flicks 56 = .ok (.iload 4, 2) := by decide +kernel
theorem dX11_flicks_58 : decode cX11_flicks 58 = .ok (.ireturn, 1) := by decide +kernel
theorem dX11_look_0 : decode cX11_look 0 = .ok (.aload_n 0, 1) := by decide +kernel
theorem dX11_look_1 : decode cX11_look 1 = .ok (.getfield 34, 3) := by decide +kernel
theorem dX11_look_4 : decode cX11_look 4 = .ok (.iload_n 1, 1) := by decide +kernel
theorem dX11_look_5 : decode cX11_look 5 = .ok (.invokevirtual 118, 3) := by decide +kernel
theorem dX11_look_8 : decode cX11_look 8 = .ok (.ifnull 17, 3) := by decide +kernel
theorem dX11_look_11 : decode cX11_look 11 = .ok (.aload_n 0, 1) := by decide +kernel
theorem dX11_look_12 : decode cX11_look 12 = .ok (.getfield 34, 3) := by decide +kernel
theorem dX11_look_15 : decode cX11_look 15 = .ok (.getfield 165, 3) := by decide +kernel
theorem dX11_look_18 : decode cX11_look 18 = .ok (.iload_n 2, 1) := by decide +kernel
theorem dX11_look_19 : decode cX11_look 19 = .ok (.invokevirtual 169, 3) := by decide +kernel
theorem dX11_look_22 : decode cX11_look 22 = .ok (.ifCond .ne 5, 3) := by decide +kernel
theorem dX11_look_25 : decode cX11_look 25 = .ok (.iconst (-1), 1) := by decide +kernel
theorem dX11_look_26 : decode cX11_look 26 = .ok (.ireturn, 1) := by decide +kernel
theorem dX11_look_27 : decode cX11_look 27 = .ok (.aload_n 0, 1) := by decide +kernel
theorem dX11_look_28 : decode cX11_look 28 = .ok (.getfield 34, 3) := by decide +kernel
theorem dX11_look_31 : decode cX11_look 31 = .ok (.iload_n 1, 1) := by decide +kernel
theorem dX11_look_32 : decode cX11_look 32 = .ok (.iload_n 2, 1) := by decide +kernel
theorem dX11_look_33 : decode cX11_look 33 = .ok (.invokevirtual 175, 3) := by decide +kernel
theorem dX11_look_36 : decode cX11_look 36 = .ok (.ifCond .ne 9, 3) := by decide +kernel
theorem dX11_look_39 : decode cX11_look 39 = .ok (.aload_n 0, 1) := by decide +kernel
theorem dX11_look_40 : decode cX11_look 40 = .ok (.iconst 4, 1) := by decide +kernel
theorem dX11_look_41 : decode cX11_look 41 = .ok (.invokevirtual 85, 3) := by decide +kernel
theorem dX11_look_44 : decode cX11_look 44 = .ok (.ireturn, 1) := by decide +kernel
theorem dX11_look_45 : decode cX11_look 45 = .ok (.aload_n 0, 1) := by decide +kernel
theorem dX11_look_46 : decode cX11_look 46 = .ok (.getfield 34, 3) := by decide +kernel
theorem dX11_look_49 : decode cX11_look 49 = .ok (.getfield 152, 3) := by decide +kernel
theorem dX11_look_52 : decode cX11_look 52 = .ok (.invokevirtual 179, 3) := by decide +kernel
theorem dX11_look_55 : decode cX11_look 55 = .ok (.ifCond .eq 6, 3) := by decide +kernel
theorem dX11_look_58 : decode cX11_look 58 = .ok (.bipush (-2), 2) := by decide +kernel
theorem dX11_look_60 : decode cX11_look 60 = .ok (.ireturn, 1) := by decide +kernel
theorem dX11_look_61 : decode cX11_look 61 = .ok (.aload_n 0, 1) := by decide +kernel
theorem dX11_look_62 : decode cX11_look 62 = .ok (.getfield 34, 3) := by decide +kernel
theorem dX11_look_65 : decode cX11_look 65 = .ok (.iload_n 1, 1) := by decide +kernel
theorem dX11_look_66 : decode cX11_look 66 = .ok (.iload_n 2, 1) := by decide +kernel
theorem dX11_look_67 : decode cX11_look 67 = .ok (.invokevirtual 182, 3) := by decide +kernel
theorem dX11_look_70 : decode cX11_look 70 = .ok (.aload_n 0, 1) := by decide +kernel
theorem dX11_look_71 : decode cX11_look 71 = .ok (.getfield 34, 3) := by decide +kernel
theorem dX11_look_74 : decode cX11_look 74 = .ok (.invokevirtual 139, 3) := by decide +kernel
theorem dX11_look_77 : decode cX11_look 77 = .ok (.ireturn, 1) := by decide +kernel
theorem dX11_vain_0 : decode cX11_vain 0 = .ok (.aload_n 0, 1) := by decide +kernel
theorem dX11_vain_1 : decode cX11_vain 1 = .ok (.getfield 34, 3) := by decide +kernel
theorem dX11_vain_4 : decode cX11_vain 4 = .ok (.getfield 165, 3) := by decide +kernel
theorem dX11_vain_7 : decode cX11_vain 7 = .ok (.iload_n 1, 1) := by decide +kernel
theorem dX11_vain_8 : decode cX11_vain 8 = .ok (.invokevirtual 169, 3) := by decide +kernel
theorem dX11_vain_11 : decode cX11_vain 11 = .ok (.ifCond .ne 5, 3) := by decide +kernel
theorem dX11_vain_14 : decode cX11_vain 14 = .ok (.iconst (-1), 1) := by decide +kernel
theorem dX11_vain_15 : decode cX11_vain 15 = .ok (.ireturn, 1) := by decide +kernel
theorem dX11_vain_16 : decode cX11_vain 16 = .ok (.aload_n 0, 1) := by decide +kernel
theorem dX11_vain_17 : decode cX11_vain 17 = .ok (.getfield 34, 3) := by decide +kernel
theorem dX11_vain_20 : decode cX11_vain 20 = .ok (.iload_n 1, 1) := by decide +kernel
theorem dX11_vain_21 : decode cX11_vain 21 = .ok (.invokevirtual 185, 3) := by decide +kernel
theorem dX11_vain_24 : decode cX11_vain 24 = .ok (.ifCond .ne 9, 3) := by decide +kernel
theorem dX11_vain_27 : decode cX11_vain 27 = .ok (.aload_n 0, 1) := by decide +kernel
theorem dX11_vain_28 : decode cX11_vain 28 = .ok (.iconst 4, 1) := by decide +kernel
theorem dX11_vain_29 : decode cX11_vain 29 = .ok (.invokevirtual 85, 3) := by decide +kernel
theorem dX11_vain_32 : decode cX11_vain 32 = .ok (.ireturn, 1) := by decide +kernel
theorem dX11_vain_33 : decode cX11_vain 33 = .ok (.aload_n 0, 1) := by decide +kernel
theorem dX11_vain_34 : decode cX11_vain 34 = .ok (.getfield 34, 3) := by decide +kernel
theorem dX11_vain_37 : decode cX11_vain 37 = .ok (.getfield 152, 3) := by decide +kernel
theorem dX11_vain_40 : decode cX11_vain 40 = .ok (.invokevirtual 179, 3) := by decide +kernel
theorem dX11_vain_43 : decode cX11_vain 43 = .ok (.ifCond .eq 6, 3) := by decide +kernel
theorem dX11_vain_46 : decode cX11_vain 46 = .ok (.bipush (-2), 2) := by decide +kernel
theorem dX11_vain_48 : decode cX11_vain 48 = .ok (.ireturn, 1) := by decide +kernel
theorem dX11_vain_49 : decode cX11_vain 49 = .ok (.aload_n 0, 1) := by decide +kernel
theorem dX11_vain_50 : decode cX11_vain 50 = .ok (.getfield 34, 3) := by decide +kernel
theorem dX11_vain_53 : decode cX11_vain 53 = .ok (.iconst (-1), 1) := by decide +kernel
theorem dX11_vain_54 : decode cX11_vain 54 = .ok (.iload_n 1, 1) := by decide +kernel
theorem dX11_vain_55 : decode cX11_vain 55 = .ok (.invokevirtual 182, 3) := by decide +kernel
theorem dX11_vain_58 : decode cX11_vain 58 = .ok (.aload_n 0, 1) := by decide +kernel
theorem dX11_vain_59 : decode cX11_vain 59 = .ok (.getfield 34, 3) := by decide +kernel
theorem dX11_vain_62 : decode cX11_vain 62 = .ok (.invokevirtual 139, 3) := by decide +kernel
theorem dX11_vain_65 : decode cX11_vain 65 = .ok (.ireturn, 1) := by decide +kernel
theorem dX11_undo_0 : decode cX11_undo 0 = .ok (.aload_n 0, 1) := by decide +kernel
theorem dX11_undo_1 : decode cX11_undo 1 = .ok (.getfield 34, 3) := by decide +kernel
theorem dX11_undo_4 : decode cX11_undo 4 = .ok (.getfield 152, 3) := by decide +kernel
theorem dX11_undo_7 : decode cX11_undo 7 = .ok (.getfield 114, 3) := by decide +kernel
theorem dX11_undo_10 : decode cX11_undo 10 = .ok (.istore_n 2, 1) := by decide +kernel
theorem dX11_undo_11 : decode cX11_undo 11 = .ok (.iload_n 1, 1) := by decide +kernel
theorem dX11_undo_12 : decode cX11_undo 12 = .ok (.ifCond .lt 8, 3) := by decide +kernel
theorem dX11_undo_15 : decode cX11_undo 15 = .ok (.iload_n 1, 1) := by decide +kernel
theorem dX11_undo_16 : decode cX11_undo 16 = .ok (.iload_n 2, 1) := by decide +kernel
theorem dX11_undo_17 : decode cX11_undo 17 = .ok (.if_icmp .le 5, 3) := by decide +kernel
theorem dX11_undo_20 : decode cX11_undo 20 = .ok (.iconst (-1), 1) := by decide +kernel
theorem dX11_undo_21 : decode cX11_undo 21 = .ok (.ireturn, 1) := by decide +kernel
theorem dX11_undo_22 : decode cX11_undo 22 = .ok (.aload_n 0, 1) := by decide +kernel
theorem dX11_undo_23 : decode cX11_undo 23 = .ok (.getfield 34, 3) := by decide +kernel
theorem dX11_undo_26 : decode cX11_undo 26 = .ok (.getfield 152, 3) := by decide +kernel
theorem dX11_undo_29 : decode cX11_undo 29 = .ok (.iload_n 1, 1) := by decide +kernel
theorem dX11_undo_30 : decode cX11_undo 30 = .ok (.putfield 114, 3) := by decide +kernel
theorem dX11_undo_33 : decode cX11_undo 33 = .ok (.aload_n 0, 1) := by decide +kernel
theorem dX11_undo_34 : decode cX11_undo 34 = .ok (.getfield 34, 3) := by decide +kernel
theorem dX11_undo_37 : decode cX11_undo 37 = .ok (.invokevirtual 188, 3) := by decide +kernel
theorem dX11_undo_40 : decode cX11_undo 40 = .ok (.iload_n 2, 1) := by decide +kernel
theorem dX11_undo_41 : decode cX11_undo 41 = .ok (.iload_n 1, 1) := by decide +kernel
theorem dX11_undo_42 : decode cX11_undo 42 = .ok (.isub, 1) := by decide +kernel
theorem dX11_undo_43 : decode cX11_undo 43 = .ok (.ireturn, 1) := by decide +kernel
theorem dX11_keep_0 : decode cX11_keep 0 = .ok (.iload_n 1, 1) := by decide +kernel
theorem dX11_keep_1 : decode cX11_keep 1 = .ok (.ifCond .lt 12, 3) := by decide +kernel
theorem dX11_keep_4 : decode cX11_keep 4 = .ok (.iload_n 1, 1) := by decide +kernel
theorem dX11_keep_5 : decode cX11_keep 5 = .ok (.aload_n 0, 1) := by decide +kernel
theorem dX11_keep_6 : decode cX11_keep 6 = .ok (.getfield 20, 3) := by decide +kernel
theorem dX11_keep_9 : decode cX11_keep 9 = .ok (.arraylength, 1) := by decide +kernel
theorem dX11_keep_10 : decode cX11_keep 10 = .ok (.if_icmp .lt 5, 3) := by decide +kernel
theorem dX11_keep_13 : decode cX11_keep 13 = .ok (.iconst (-1), 1) := by decide +kernel
theorem dX11_keep_14 : decode cX11_keep 14 = .ok (.ireturn, 1) := by decide +kernel
theorem dX11_keep_15 : decode cX11_keep 15 = .ok (.aload_n 0, 1) := by decide +kernel
theorem dX11_keep_16 : decode cX11_keep 16 = .ok (.getfield 34, 3) := by decide +kernel
theorem dX11_keep_19 : decode cX11_keep 19 = .ok (.getfield 115, 3) := by decide +kernel
theorem dX11_keep_22 : decode cX11_keep 22 = .ok (.ifCond .ne 6, 3) := by decide +kernel
theorem dX11_keep_25 : decode cX11_keep 25 = .ok (.bipush (-4), 2) := by decide +kernel
theorem dX11_keep_27 : decode cX11_keep 27 = .ok (.ireturn, 1) := by decide +kernel
theorem dX11_keep_28 : decode cX11_keep 28 = .ok (.aload_n 0, 1) := by decide +kernel
theorem dX11_keep_29 : decode cX11_keep 29 = .ok (.getfield 20, 3) := by decide +kernel
theorem dX11_keep_32 : decode cX11_keep 32 = .ok (.iload_n 1, 1) := by decide +kernel
theorem dX11_keep_33 : decode cX11_keep 33 = .ok (.aaload, 1) := by decide +kernel
theorem dX11_keep_34 : decode cX11_keep 34 = .ok (.aload_n 0, 1) := by decide +kernel
theorem dX11_keep_35 : decode cX11_keep 35 = .ok (.getfield 34, 3) := by decide +kernel
theorem dX11_keep_38 : decode cX11_keep 38 = .ok (.getfield 152, 3) := by decide +kernel
theorem dX11_keep_41 : decode cX11_keep 41 = .ok (.invokevirtual 191, 3) := by decide +kernel
theorem dX11_keep_44 : decode cX11_keep 44 = .ok (.aload_n 0, 1) := by decide +kernel
theorem dX11_keep_45 : decode cX11_keep 45 = .ok (.getfield 20, 3) := by decide +kernel
theorem dX11_keep_48 : decode cX11_keep 48 = .ok (.iload_n 1, 1) := by decide +kernel
theorem dX11_keep_49 : decode cX11_keep 49 = .ok (.aaload, 1) := by decide +kernel
theorem dX11_keep_50 : decode cX11_keep 50 = .ok (.getfield 114, 3) := by decide +kernel
theorem dX11_keep_53 : decode cX11_keep 53 = .ok (.ireturn, 1) := by decide +kernel
theorem dX11_on_0 : decode cX11_on 0 = .ok (.iload_n 1, 1) := by decide +kernel
theorem dX11_on_1 : decode cX11_on 1 = .ok (.ifCond .lt 12, 3) := by decide +kernel
theorem dX11_on_4 : decode cX11_on 4 = .ok (.iload_n 1, 1) := by decide +kernel
theorem dX11_on_5 : decode cX11_on 5 = .ok (.aload_n 0, 1) := by decide +kernel
theorem dX11_on_6 : decode cX11_on 6 = .ok (.getfield 20, 3) := by decide +kernel
theorem dX11_on_9 : decode cX11_on 9 = .ok (.arraylength, 1) := by decide +kernel
theorem dX11_on_10 : decode cX11_on 10 = .ok (.if_icmp .lt 5, 3) := by decide +kernel
theorem dX11_on_13 : decode cX11_on 13 = .ok (.iconst (-1), 1) := by decide +kernel
theorem dX11_on_14 : decode cX11_on 14 = .ok (.ireturn, 1) := by decide +kernel
theorem dX11_on_15 : decode cX11_on 15 = .ok (.aload_n 0, 1) := by decide +kernel
theorem dX11_on_16 : decode cX11_on 16 = .ok (.getfield 20, 3) := by decide +kernel
theorem dX11_on_19 : decode cX11_on 19 = .ok (.iload_n 1, 1) := by decide +kernel
theorem dX11_on_20 : decode cX11_on 20 = .ok (.aaload, 1) := by decide +kernel
theorem dX11_on_21 : decode cX11_on 21 = .ok (.getfield 114, 3) := by decide +kernel
theorem dX11_on_24 : decode cX11_on 24 = .ok (.ifCond .ge 9, 3) := by decide +kernel
theorem dX11_on_27 : decode cX11_on 27 = .ok (.aload_n 0, 1) := by decide +kernel
theorem dX11_on_28 : decode cX11_on 28 = .ok (.iconst 1, 1) := by decide +kernel
theorem dX11_on_29 : decode cX11_on 29 = .ok (.invokevirtual 85, 3) := by decide +kernel
theorem dX11_on_32 : decode cX11_on 32 = .ok (.ireturn, 1) := by decide +kernel
theorem dX11_on_33 : decode cX11_on 33 = .ok (.aload_n 0, 1) := by decide +kernel
theorem dX11_on_34 : decode cX11_on 34 = .ok (.getfield 34, 3) := by decide +kernel
theorem dX11_on_37 : decode cX11_on 37 = .ok (.aload_n 0, 1) := by decide +kernel
theorem dX11_on_38 : decode cX11_on 38 = .ok (.getfield 20, 3) := by decide +kernel
theorem dX11_on_41 : decode cX11_on 41 = .ok (.iload_n 1, 1) := by decide +kernel
theorem dX11_on_42 : decode cX11_on 42 = .ok (.aaload, 1) := by decide +kernel
theorem dX11_on_43 : decode cX11_on 43 = .ok (.invokevirtual 195, 3) := by decide +kernel
theorem dX11_on_46 : decode cX11_on 46 = .ok (.aload_n 0, 1) := by decide +kernel
theorem dX11_on_47 : decode cX11_on 47 = .ok (.getfield 20, 3) := by decide +kernel
theorem dX11_on_50 : decode cX11_on 50 = .ok (.iload_n 1, 1) := by decide +kernel
theorem dX11_on_51 : decode cX11_on 51 = .ok (.aaload, 1) := by decide +kernel
theorem dX11_on_52 : decode cX11_on 52 = .ok (.getfield 114, 3) := by decide +kernel
theorem dX11_on_55 : decode cX11_on 55 = .ok (.ireturn, 1) := by decide +kernel
theorem dX11_likely_0 : decode cX11_likely 0 = .ok (.aload_n 0, 1) := by decide +kernel
theorem dX11_likely_1 : decode cX11_likely 1 = .ok (.getfield 34, 3) := by decide +kernel
theorem dX11_likely_4 : decode cX11_likely 4 = .ok (.getfield 165, 3) := by decide +kernel
theorem dX11_likely_7 : decode cX11_likely 7 = .ok (.iload_n 1, 1) := by decide +kernel
theorem dX11_likely_8 : decode cX11_likely 8 = .ok (.invokevirtual 169, 3) := by decide +kernel
theorem dX11_likely_11 : decode cX11_likely 11 = .ok (.ifCond .ne 5, 3) := by decide +kernel
theorem dX11_likely_14 : decode cX11_likely 14 = .ok (.iconst (-1), 1) := by decide +kernel
theorem dX11_likely_15 : decode cX11_likely 15 = .ok (.ireturn, 1) := by decide +kernel
theorem dX11_likely_16 : decode cX11_likely 16 = .ok (.aload_n 0, 1) := by decide +kernel
theorem dX11_likely_17 : decode cX11_likely 17 = .ok (.aload_n 0, 1) := by decide +kernel
theorem dX11_likely_18 : decode cX11_likely 18 = .ok (.getfield 34, 3) := by decide +kernel
theorem dX11_likely_21 : decode cX11_likely 21 = .ok (.getfield 198, 3) := by decide +kernel
theorem dX11_likely_24 : decode cX11_likely 24 = .ok (.iload_n 1, 1) := by decide +kernel
theorem dX11_likely_25 : decode cX11_likely 25 = .ok (.laload, 1) := by decide +kernel
theorem dX11_likely_26 : decode cX11_likely 26 = .ok (.aload_n 0, 1) := by decide +kernel
theorem dX11_likely_27 : decode cX11_likely 27 = .ok (.getfield 34, 3) := by decide +kernel
theorem dX11_likely_30 : decode cX11_likely 30 = .ok (.aload_n 0, 1) := by decide +kernel
theorem dX11_likely_31 : decode cX11_likely 31 = .ok (.getfield 34, 3) := by decide +kernel
theorem dX11_likely_34 : decode cX11_likely 34 = .ok (.getfield 198, 3) := by decide +kernel
theorem dX11_likely_37 : decode cX11_likely 37 = .ok (.invokevirtual 202, 3) := by decide +kernel
theorem dX11_likely_40 : decode cX11_likely 40 = .ok (.invokevirtual 206, 3) := by decide +kernel
theorem dX11_likely_43 : decode cX11_likely 43 = .ok (.ireturn, 1) := by decide +kernel
theorem dX11_best_0 : decode cX11_best 0 = .ok (.aload_n 0, 1) := by decide +kernel
theorem dX11_best_1 : decode cX11_best 1 = .ok (.getfield 34, 3) := by decide +kernel
theorem dX11_best_4 : decode cX11_best 4 = .ok (.getfield 115, 3) := by decide +kernel
theorem dX11_best_7 : decode cX11_best 7 = .ok (.ifCond .ne 6, 3) := by decide +kernel
theorem dX11_best_10 : decode cX11_best 10 = .ok (.bipush (-4), 2) := by decide +kernel
theorem dX11_best_12 : decode cX11_best 12 = .ok (.ireturn, 1) := by decide +kernel
theorem dX11_best_13 : decode cX11_best 13 = .ok (.aload_n 0, 1) := by decide +kernel
theorem dX11_best_14 : decode cX11_best 14 = .ok (.getfield 34, 3) := by decide +kernel
theorem dX11_best_17 : decode cX11_best 17 = .ok (.aload_n 0, 1) := by decide +kernel
theorem dX11_best_18 : decode cX11_best 18 = .ok (.getfield 34, 3) := by decide +kernel
theorem dX11_best_21 : decode cX11_best 21 = .ok (.getfield 198, 3) := by decide +kernel
theorem dX11_best_24 : decode cX11_best 24 = .ok (.invokevirtual 210, 3) := by decide +kernel
theorem dX11_best_27 : decode cX11_best 27 = .ok (.istore_n 1, 1) := by decide +kernel
theorem dX11_best_28 : decode cX11_best 28 = .ok (.aload_n 0, 1) := by decide +kernel
theorem dX11_best_29 : decode cX11_best 29 = .ok (.aload_n 0, 1) := by decide +kernel
theorem dX11_best_30 : decode cX11_best 30 = .ok (.getfield 34, 3) := by decide +kernel
theorem dX11_best_33 : decode cX11_best 33 = .ok (.aload_n 0, 1) := by decide +kernel
theorem dX11_best_34 : decode cX11_best 34 = .ok (.getfield 34, 3) := by decide +kernel
theorem dX11_best_37 : decode cX11_best 37 = .ok (.getfield 198, 3) := by decide +kernel
theorem dX11_best_40 : decode cX11_best 40 = .ok (.aload_n 0, 1) := by decide +kernel
theorem dX11_best_41 : decode cX11_best 41 = .ok (.getfield 34, 3) := by decide +kernel
theorem dX11_best_44 : decode cX11_best 44 = .ok (.getfield 198, 3) := by decide +kernel
theorem dX11_best_47 : decode cX11_best 47 = .ok (.iload_n 1, 1) := by decide +kernel
theorem dX11_best_48 : decode cX11_best 48 = .ok (.laload, 1) := by decide +kernel
theorem dX11_best_49 : decode cX11_best 49 = .ok (.invokevirtual 214, 3) := by decide +kernel
theorem dX11_best_52 : decode cX11_best 52 = .ok (.invokevirtual 75, 3) := by decide +kernel
theorem dX11_best_55 : decode cX11_best 55 = .ok (.iload_n 1, 1) := by decide +kernel
theorem dX11_best_56 : decode cX11_best 56 = .ok (.ireturn, 1) := by decide +kernel
theorem dX11_wheel_0 : decode cX11_wheel 0 = .ok (.aload_n 0, 1) := by decide +kernel
theorem dX11_wheel_1 : decode cX11_wheel 1 = .ok (.getfield 34, 3) := by decide +kernel
theorem dX11_wheel_4 : decode cX11_wheel 4 = .ok (.getfield 165, 3) := by decide +kernel
theorem dX11_wheel_7 : decode cX11_wheel 7 = .ok (.iload_n 1, 1) := by decide +kernel
theorem dX11_wheel_8 : decode cX11_wheel 8 = .ok (.invokevirtual 218, 3) := by decide +kernel
theorem dX11_wheel_11 : decode cX11_wheel 11 = .ok (.ifCond .eq 21, 3) := by decide +kernel
theorem dX11_wheel_14 : decode cX11_wheel 14 = .ok (.iload_n 2, 1) := by decide +kernel
theorem dX11_wheel_15 : decode cX11_wheel 15 = .ok (.ifCond .lt 17, 3) := by decide +kernel
theorem dX11_wheel_18 : decode cX11_wheel 18 = .ok (.iload_n 2, 1) := by decide +kernel
theorem dX11_wheel_19 : decode cX11_wheel 19 = .ok (.aload_n 0, 1) := by decide +kernel
theorem dX11_wheel_20 : decode cX11_wheel 20 = .ok (.getfield 34, 3) := by decide +kernel
theorem dX11_wheel_23 : decode cX11_wheel 23 = .ok (.getfield 165, 3) := by decide +kernel
theorem dX11_wheel_26 : decode cX11_wheel 26 = .ok (.getfield 221, 3) := by decide +kernel
theorem dX11_wheel_29 : decode cX11_wheel 29 = .ok (.if_icmp .lt 5, 3) := by decide +kernel
theorem dX11_wheel_32 : decode cX11_wheel 32 = .ok (.iconst (-1), 1) := by decide +kernel
theorem dX11_wheel_33 : decode cX11_wheel 33 = .ok (.ireturn, 1) := by decide +kernel
theorem dX11_wheel_34 : decode cX11_wheel 34 = .ok (.aload_n 0, 1) := by decide +kernel
theorem dX11_wheel_35 : decode cX11_wheel 35 = .ok (.aload_n 0, 1) := by decide +kernel
theorem dX11_wheel_36 : decode cX11_wheel 36 = .ok (.getfield 34, 3) := by decide +kernel
theorem dX11_wheel_39 : decode cX11_wheel 39 = .ok (.iload_n 1, 1) := by decide +kernel
theorem dX11_wheel_40 : decode cX11_wheel 40 = .ok (.iload_n 2, 1) := by decide +kernel
theorem dX11_wheel_41 : decode cX11_wheel 41 = .ok (.invokevirtual 224, 3) := by decide +kernel
theorem dX11_wheel_44 : decode cX11_wheel 44 = .ok (.aload_n 0, 1) := by decide +kernel
theorem dX11_wheel_45 : decode cX11_wheel 45 = .ok (.getfield 34, 3) := by decide +kernel
theorem dX11_wheel_48 : decode cX11_wheel 48 = .ok (.aload_n 0, 1) := by decide +kernel
theorem dX11_wheel_49 : decode cX11_wheel 49 = .ok (.getfield 34, 3) := by decide +kernel
theorem dX11_wheel_52 : decode cX11_wheel 52 = .ok (.getfield 198, 3) := by decide +kernel
theorem dX11_wheel_55 : decode cX11_wheel 55 = .ok (.invokevirtual 202, 3) := by decide +kernel
theorem dX11_wheel_58 : decode cX11_wheel 58 = .ok (.invokevirtual 206, 3) := by decide +kernel
theorem dX11_wheel_61 : decode cX11_wheel 61 = .ok (.ireturn, 1) := by decide +kernel
theorem dX11_certain_0 : decode cX11_certain 0 = .ok (.aload_n 0, 1) := by decide +kernel
theorem dX11_certain_1 : decode cX11_certain 1 = .ok (.getfield 34, 3) := by decide +kernel
theorem dX11_certain_4 : decode cX11_certain 4 = .ok (.getfield 115, 3) := by decide +kernel
theorem dX11_certain_7 : decode cX11_certain 7 = .ok (.ifCond .ne 6, 3) := by decide +kernel
theorem dX11_certain_10 : decode cX11_certain 10 = .ok (.bipush (-4), 2) := by decide +kernel
theorem dX11_certain_12 : decode cX11_certain 12 = .ok (.ireturn, 1) := by decide +kernel
theorem dX11_certain_13 : decode cX11_certain 13 = .ok (.iconst 0, 1) := by decide +kernel
theorem dX11_certain_14 : decode cX11_certain 14 = .ok (.istore_n 1, 1) := by decide +kernel
theorem dX11_certain_15 : decode cX11_certain 15 = .ok (.iconst 0, 1) := by decide +kernel
theorem dX11_certain_16 : decode cX11_certain 16 = .ok (.istore_n 2, 1) := by decide +kernel
theorem dX11_certain_17 : decode cX11_certain 17 = .ok (.iconst 0, 1) := by decide +kernel
theorem dX11_certain_18 : decode cX11_certain 18 = .ok (.istore_n 3, 1) := by decide +kernel
theorem dX11_certain_19 : decode cX11_certain 19 = .ok (.iload_n 3, 1) := by decide +kernel
theorem dX11_certain_20 : decode cX11_certain 20 = .ok (.aload_n 0, 1) := by decide +kernel
theorem dX11_certain_21 : decode cX11_certain 21 = .ok (.getfield 34, 3) := by decide +kernel
theorem dX11_certain_24 : decode cX11_certain 24 = .ok (.getfield 165, 3) := by decide +kernel
theorem dX11_certain_27 : decode cX11_certain 27 = .ok (.getfield 228, 3) := by decide +kernel
theorem dX11_certain_30 : decode cX11_certain 30 = .ok (.if_icmp .ge 52, 3) := by decide +kernel
theorem dX11_certain_33 : decode cX11_certain 33 = .ok (.aload_n 0, 1) := by decide +kernel
theorem dX11_certain_34 : decode cX11_certain 34 = .ok (.getfield 34, 3) := by decide +kernel
theorem dX11_certain_37 : decode cX11_certain 37 = .ok (.iload_n 3, 1) := by decide +kernel
theorem dX11_certain_38 : decode cX11_certain 38 = .ok (.invokevirtual 229, 3) := by decide +kernel
theorem dX11_certain_41 : decode cX11_certain 41 = .ok (.istore 4, 2) := by decide +kernel
theorem dX11_certain_43 : decode cX11_certain 43 = .ok (.iload_n 1, 1) := by decide +kernel
theorem dX11_certain_44 : decode cX11_certain 44 = .ok (.iload 4, 2) := by decide +kernel
theorem dX11_certain_46 : decode cX11_certain 46 = .ok (.ifCond .lt 9, 3) := by decide +kernel
theorem dX11_certain_49 : decode cX11_certain 49 = .ok (.iconst 1, 1) := by decide +kernel
theorem dX11_certain_50 : decode cX11_certain 50 = .ok (.iload_n 3, 1) := by decide +kernel
theorem dX11_certain_51 : decode cX11_certain 51 = .ok (.ishl, 1) := by decide +kernel
theorem dX11_certain_52 : decode cX11_certain 52 = .ok (.goto 4, 3) := by decide +kernel
theorem dX11_certain_55 : decode cX11_certain 55 = .ok (.iconst 0, 1) := by decide +kernel
theorem dX11_certain_56 : decode cX11_certain 56 = .ok (.ior, 1) := by decide +kernel
theorem dX11_certain_57 : decode cX11_certain 57 = .ok (.istore_n 1, 1) := by decide +kernel
theorem dX11_certain_58 : decode cX11_certain 58 = .ok (.bipush 10, 2) := by decide +kernel
theorem dX11_certain_60 : decode cX11_certain 60 = .ok (.iload_n 2, 1) := by decide +kernel
theorem dX11_certain_61 : decode cX11_certain 61 = .ok (.imul, 1) := by decide +kernel
theorem dX11_certain_62 : decode cX11_certain 62 = .ok (.iload 4, 2) := by decide +kernel
theorem dX11_certain_64 : decode cX11_certain 64 = .ok (.ifCond .lt 8, 3) := by decide +kernel
theorem dX11_certain_67 : decode cX11_certain 67 = .ok (.iload 4, 2) := by decide +kernel
theorem dX11_certain_69 : decode cX11_certain 69 = .ok (.goto 5, 3) := by decide +kernel
theorem dX11_certain_72 : decode cX11_certain 72 = .ok (.bipush 9, 2) := by decide +kernel
theorem dX11_certain_74 : decode cX11_certain 74 = .ok (.iadd, 1) := by decide +kernel
theorem dX11_certain_75 : decode cX11_certain 75 = .ok (.istore_n 2, 1) := by decide +kernel
theorem dX11_certain_76 : decode cX11_certain 76 = .ok (.iinc 3 1, 3) := by decide +kernel
theorem dX11_certain_79 : decode cX11_certain 79 = .ok (.goto (-60), 3) := by decide +kernel
theorem dX11_certain_82 : decode cX11_certain 82 = .ok (.aload_n 0, 1) := by decide +kernel
theorem dX11_certain_83 : decode cX11_certain 83 = .ok (.iload_n 2, 1) := by decide +kernel
theorem dX11_certain_84 : decode cX11_certain 84 = .ok (.invokevirtual 75, 3) := by decide +kernel
theorem dX11_certain_87 : decode cX11_certain 87 = .ok (.iload_n 1, 1) := by decide +kernel
theorem dX11_certain_88 : decode cX11_certain 88 = .ok (.ireturn, 1) := by decide +kernel
theorem dX11_order_0 : decode cX11_order 0 = .ok (.aload_n 0, 1) := by decide +kernel
theorem dX11_order_1 : decode cX11_order 1 = .ok (.getfield 11, 3) := by decide +kernel
theorem dX11_order_4 : decode cX11_order 4 = .ok (.iload_n 2, 1) := by decide +kernel
theorem dX11_order_5 : decode cX11_order 5 = .ok (.invokestatic 60, 3) := by decide +kernel
theorem dX11_order_8 : decode cX11_order 8 = .ok (.astore_n 3, 1) := by decide +kernel
theorem dX11_order_9 : decode cX11_order 9 = .ok (.aload_n 3, 1) := by decide +kernel
theorem dX11_order_10 : decode cX11_order 10 = .ok (.ifnull 14, 3) := by decide +kernel
theorem dX11_order_13 : decode cX11_order 13 = .ok (.iload_n 1, 1) := by decide +kernel
theorem dX11_order_14 : decode cX11_order 14 = .ok (.iconst 1, 1) := by decide +kernel
theorem dX11_order_15 : decode cX11_order 15 = .ok (.if_icmp .lt 9, 3) := by decide +kernel
theorem dX11_order_18 : decode cX11_order 18 = .ok (.iload_n 1, 1) := by decide +kernel
theorem dX11_order_19 : decode cX11_order 19 = .ok (.bipush 40, 2) := by decide +kernel
theorem dX11_order_21 : decode cX11_order 21 = .ok (.if_icmp .le 5, 3) := by decide +kernel
theorem dX11_order_24 : decode cX11_order 24 = .ok (.iconst (-1), 1) := by decide +kernel
theorem dX11_order_25 : decode cX11_order 25 = .ok (.ireturn, 1) := by decide +kernel
theorem dX11_order_26 : decode cX11_order 26 = .ok (.aload_n 0, 1) := by decide +kernel
theorem dX11_order_27 : decode cX11_order 27 = .ok (.getfield 34, 3) := by decide +kernel
theorem dX11_order_30 : decode cX11_order 30 = .ok (.getfield 115, 3) := by decide +kernel
theorem dX11_order_33 : decode cX11_order 33 = .ok (.ifCond .ne 6, 3) := by decide +kernel
theorem dX11_order_36 : decode cX11_order 36 = .ok (.bipush (-4), 2) := by decide +kernel
theorem dX11_order_38 : decode cX11_order 38 = .ok (.ireturn, 1) := by decide +kernel
theorem dX11_order_39 : decode cX11_order 39 = .ok (.iload_n 1, 1) := by decide +kernel
theorem dX11_order_40 : decode cX11_order 40 = .ok (.aload_n 0, 1) := by decide +kernel
theorem dX11_order_41 : decode cX11_order 41 = .ok (.getfield 34, 3) := by decide +kernel
theorem dX11_order_44 : decode cX11_order 44 = .ok (.invokevirtual 232, 3) := by decide +kernel
theorem dX11_order_47 : decode cX11_order 47 = .ok (.invokestatic 235, 3) := by decide +kernel
theorem dX11_order_50 : decode cX11_order 50 = .ok (.istore 4, 2) := by decide +kernel
theorem dX11_order_52 : decode cX11_order 52 = .ok (.aload_n 3, 1) := by decide +kernel
theorem dX11_order_53 : decode cX11_order 53 = .ok (.iload 4, 2) := by decide +kernel
theorem dX11_order_55 : decode cX11_order 55 = .ok (.iconst 0, 1) := by decide +kernel
theorem dX11_order_56 : decode cX11_order 56 = .ok (.invokevirtual 240, 3) := by decide +kernel
theorem dX11_order_59 : decode cX11_order 59 = .ok (.aload_n 0, 1) := by decide +kernel
theorem dX11_order_60 : decode cX11_order 60 = .ok (.getfield 34, 3) := by decide +kernel
theorem dX11_order_63 : decode cX11_order 63 = .ok (.getfield 243, 3) := by decide +kernel
theorem dX11_order_66 : decode cX11_order 66 = .ok (.iconst 0, 1) := by decide +kernel
theorem dX11_order_67 : decode cX11_order 67 = .ok (.aload_n 3, 1) := by decide +kernel
theorem dX11_order_68 : decode cX11_order 68 = .ok (.getfield 72, 3) := by decide +kernel
theorem dX11_order_71 : decode cX11_order 71 = .ok (.iconst 0, 1) := by decide +kernel
theorem dX11_order_72 : decode cX11_order 72 = .ok (.iload 4, 2) := by decide +kernel
theorem dX11_order_74 : decode cX11_order 74 = .ok (.invokestatic 97, 3) := by decide +kernel
theorem dX11_order_77 : decode cX11_order 77 = .ok (.iload 4, 2) := by decide +kernel
theorem dX11_order_79 : decode cX11_order 79 = .ok (.ireturn, 1) := by decide +kernel
theorem dX11_tries_0 : decode cX11_tries 0 = .ok (.aload_n 0, 1) := by decide +kernel
theorem dX11_tries_1 : decode cX11_tries 1 = .ok (.getfield 34, 3) := by decide +kernel
theorem dX11_tries_4 : decode cX11_tries 4 = .ok (.getfield 115, 3) := by decide +kernel
theorem dX11_tries_7 : decode cX11_tries 7 = .ok (.ifCond .ne 6, 3) := by decide +kernel
theorem dX11_tries_10 : decode cX11_tries 10 = .ok (.bipush (-4), 2) := by decide +kernel
theorem dX11_tries_12 : decode cX11_tries 12 = .ok (.ireturn, 1) := by decide +kernel
theorem dX11_tries_13 : decode cX11_tries 13 = .ok (.aload_n 0, 1) := by decide +kernel
theorem dX11_tries_14 : decode cX11_tries 14 = .ok (.aload_n 0, 1) := by decide +kernel
theorem dX11_tries_15 : decode cX11_tries 15 = .ok (.getfield 34, 3) := by decide +kernel
theorem dX11_tries_18 : decode cX11_tries 18 = .ok (.invokevirtual 246, 3) := by decide +kernel
theorem dX11_tries_21 : decode cX11_tries 21 = .ok (.aload_n 0, 1) := by decide +kernel
theorem dX11_tries_22 : decode cX11_tries 22 = .ok (.getfield 34, 3) := by decide +kernel
theorem dX11_tries_25 : decode cX11_tries 25 = .ok (.aload_n 0, 1) := by decide +kernel
theorem dX11_tries_26 : decode cX11_tries 26 = .ok (.getfield 34, 3) := by decide +kernel
theorem dX11_tries_29 : decode cX11_tries 29 = .ok (.getfield 198, 3) := by decide +kernel
theorem dX11_tries_32 : decode cX11_tries 32 = .ok (.invokevirtual 202, 3) := by decide +kernel
theorem dX11_tries_35 : decode cX11_tries 35 = .ok (.invokevirtual 206, 3) := by decide +kernel
theorem dX11_tries_38 : decode cX11_tries 38 = .ok (.ireturn, 1) := by decide +kernel
theorem dX11_within_0 : decode cX11_within 0 = .ok (.iload_n 1, 1) := by decide +kernel
theorem dX11_within_1 : decode cX11_within 1 = .ok (.ifCond .lt 10, 3) := by decide +kernel
theorem dX11_within_4 : decode cX11_within 4 = .ok (.iload_n 1, 1) := by decide +kernel
theorem dX11_within_5 : decode cX11_within 5 = .ok (.sipush 216, 3) := by decide +kernel
theorem dX11_within_8 : decode cX11_within 8 = .ok (.if_icmp .le 5, 3) := by decide +kernel
theorem dX11_within_11 : decode cX11_within 11 = .ok (.iconst (-1), 1) := by decide +kernel
theorem dX11_within_12 : decode cX11_within 12 = .ok (.ireturn, 1) := by decide +kernel
theorem dX11_within_13 : decode cX11_within 13 = .ok (.aload_n 0, 1) := by decide +kernel
theorem dX11_within_14 : decode cX11_within 14 = .ok (.getfield 34, 3) := by decide +kernel
theorem dX11_within_17 : decode cX11_within 17 = .ok (.getfield 115, 3) := by decide +kernel
theorem dX11_within_20 : decode cX11_within 20 = .ok (.ifCond .ne 6, 3) := by decide +kernel
theorem dX11_within_23 : decode cX11_within 23 = .ok (.bipush (-4), 2) := by decide +kernel
theorem dX11_within_25 : decode cX11_within 25 = .ok (.ireturn, 1) := by decide +kernel
theorem dX11_within_26 : decode cX11_within 26 = .ok (.aload_n 0, 1) := by decide +kernel
theorem dX11_within_27 : decode cX11_within 27 = .ok (.aload_n 0, 1) := by decide +kernel
theorem dX11_within_28 : decode cX11_within 28 = .ok (.getfield 34, 3) := by decide +kernel
theorem dX11_within_31 : decode cX11_within 31 = .ok (.iload_n 1, 1) := by decide +kernel
theorem dX11_within_32 : decode cX11_within 32 = .ok (.invokevirtual 249, 3) := by decide +kernel
theorem dX11_within_35 : decode cX11_within 35 = .ok (.aload_n 0, 1) := by decide +kernel
theorem dX11_within_36 : decode cX11_within 36 = .ok (.getfield 34, 3) := by decide +kernel
theorem dX11_within_39 : decode cX11_within 39 = .ok (.aload_n 0, 1) := by decide +kernel
theorem dX11_within_40 : decode cX11_within 40 = .ok (.getfield 34, 3) := by decide +kernel
theorem dX11_within_43 : decode cX11_within 43 = .ok (.getfield 198, 3) := by decide +kernel
theorem dX11_within_46 : decode cX11_within 46 = .ok (.invokevirtual 202, 3) := by decide +kernel
theorem dX11_within_49 : decode cX11_within 49 = .ok (.invokevirtual 206, 3) := by decide +kernel
theorem dX11_within_52 : decode cX11_within 52 = .ok (.ireturn, 1) := by decide +kernel
theorem dX11_worth_0 : decode cX11_worth 0 = .ok (.aload_n 0, 1) := by decide +kernel
theorem dX11_worth_1 : decode cX11_worth 1 = .ok (.getfield 34, 3) := by decide +kernel
theorem dX11_worth_4 : decode cX11_worth 4 = .ok (.iload_n 1, 1) := by decide +kernel
theorem dX11_worth_5 : decode cX11_worth 5 = .ok (.invokevirtual 118, 3) := by decide +kernel
theorem dX11_worth_8 : decode cX11_worth 8 = .ok (.astore_n 2, 1) := by decide +kernel
theorem dX11_worth_9 : decode cX11_worth 9 = .ok (.aload_n 2, 1) := by decide +kernel
theorem dX11_worth_10 : decode cX11_worth 10 = .ok (.ifnonnull 5, 3) := by decide +kernel
theorem dX11_worth_13 : decode cX11_worth 13 = .ok (.iconst (-1), 1) := by decide +kernel
theorem dX11_worth_14 : decode cX11_worth 14 = .ok (.ireturn, 1) := by decide +kernel
theorem dX11_worth_15 : decode cX11_worth 15 = .ok (.aload_n 0, 1) := by decide +kernel
theorem dX11_worth_16 : decode cX11_worth 16 = .ok (.aload_n 0, 1) := by decide +kernel
theorem dX11_worth_17 : decode cX11_worth 17 = .ok (.getfield 34, 3) := by decide +kernel
theorem dX11_worth_20 : decode cX11_worth 20 = .ok (.aload_n 2, 1) := by decide +kernel
theorem dX11_worth_21 : decode cX11_worth 21 = .ok (.invokevirtual 253, 3) := by decide +kernel
theorem dX11_worth_24 : decode cX11_worth 24 = .ok (.aload_n 0, 1) := by decide +kernel
theorem dX11_worth_25 : decode cX11_worth 25 = .ok (.getfield 34, 3) := by decide +kernel
theorem dX11_worth_28 : decode cX11_worth 28 = .ok (.aload_n 0, 1) := by decide +kernel
theorem dX11_worth_29 : decode cX11_worth 29 = .ok (.getfield 34, 3) := by decide +kernel
theorem dX11_worth_32 : decode cX11_worth 32 = .ok (.getfield 198, 3) := by decide +kernel
theorem dX11_worth_35 : decode cX11_worth 35 = .ok (.invokevirtual 202, 3) := by decide +kernel
theorem dX11_worth_38 : decode cX11_worth 38 = .ok (.aload_n 2, 1) := by decide +kernel
theorem dX11_worth_39 : decode cX11_worth 39 = .ok (.getfield 257, 3) := by decide +kernel
theorem dX11_worth_42 : decode cX11_worth 42 = .ok (.i2l, 1) := by decide +kernel
theorem dX11_worth_43 : decode cX11_worth 43 = .ok (.lmul, 1) := by decide +kernel
theorem dX11_worth_44 : decode cX11_worth 44 = .ok (.invokevirtual 206, 3) := by decide +kernel
theorem dX11_worth_47 : decode cX11_worth 47 = .ok (.ireturn, 1) := by decide +kernel
theorem dX11_whose_0 : decode cX11_whose 0 = .ok (.aload_n 0, 1) := by decide +kernel
theorem dX11_whose_1 : decode cX11_whose 1 = .ok (.getfield 34, 3) := by decide +kernel
theorem dX11_whose_4 : decode cX11_whose 4 = .ok (.getfield 115, 3) := by decide +kernel
theorem dX11_whose_7 : decode cX11_whose 7 = .ok (.ifCond .ne 6, 3) := by decide +kernel
theorem dX11_whose_10 : decode cX11_whose 10 = .ok (.bipush (-4), 2) := by decide +kernel
theorem dX11_whose_12 : decode cX11_whose 12 = .ok (.ireturn, 1) := by decide +kernel
theorem dX11_whose_13 : decode cX11_whose 13 = .ok (.aload_n 0, 1) := by decide +kernel
theorem dX11_whose_14 : decode cX11_whose 14 = .ok (.getfield 34, 3) := by decide +kernel
theorem dX11_whose_17 : decode cX11_whose 17 = .ok (.invokevirtual 260, 3) := by decide +kernel
theorem dX11_whose_20 : decode cX11_whose 20 = .ok (.aload_n 0, 1) := by decide +kernel
theorem dX11_whose_21 : decode cX11_whose 21 = .ok (.aload_n 0, 1) := by decide +kernel
theorem dX11_whose_22 : decode cX11_whose 22 = .ok (.getfield 34, 3) := by decide +kernel
theorem dX11_whose_25 : decode cX11_whose 25 = .ok (.iconst 0, 1) := by decide +kernel
theorem dX11_whose_26 : decode cX11_whose 26 = .ok (.invokevirtual 263, 3) := by decide +kernel
theorem dX11_whose_29 : decode cX11_whose 29 = .ok (.invokevirtual 75, 3) := by decide +kernel
theorem dX11_whose_32 : decode cX11_whose 32 = .ok (.aload_n 0, 1) := by decide +kernel
theorem dX11_whose_33 : decode cX11_whose 33 = .ok (.getfield 34, 3) := by decide +kernel
theorem dX11_whose_36 : decode cX11_whose 36 = .ok (.iconst 1, 1) := by decide +kernel
theorem dX11_whose_37 : decode cX11_whose 37 = .ok (.invokevirtual 263, 3) := by decide +kernel
theorem dX11_whose_40 : decode cX11_whose 40 = .ok (.ireturn, 1) := by decide +kernel
theorem dX11_seen_0 : decode cX11_seen 0 = .ok (.aload_n 0, 1) := by decide +kernel
theorem dX11_seen_1 : decode cX11_seen 1 = .ok (.getfield 34, 3) := by decide +kernel
theorem dX11_seen_4 : decode cX11_seen 4 = .ok (.iload_n 1, 1) := by decide +kernel
theorem dX11_seen_5 : decode cX11_seen 5 = .ok (.invokevirtual 118, 3) := by decide +kernel
theorem dX11_seen_8 : decode cX11_seen 8 = .ok (.astore_n 3, 1) := by decide +kernel
theorem dX11_seen_9 : decode cX11_seen 9 = .ok (.aload_n 3, 1) := by decide +kernel
theorem dX11_seen_10 : decode cX11_seen 10 = .ok (.ifnull 17, 3) := by decide +kernel
theorem dX11_seen_13 : decode cX11_seen 13 = .ok (.aload_n 0, 1) := by decide +kernel
theorem dX11_seen_14 : decode cX11_seen 14 = .ok (.getfield 34, 3) := by decide +kernel
theorem dX11_seen_17 : decode cX11_seen 17 = .ok (.getfield 165, 3) := by decide +kernel
theorem dX11_seen_20 : decode cX11_seen 20 = .ok (.iload_n 2, 1) := by decide +kernel
theorem dX11_seen_21 : decode cX11_seen 21 = .ok (.invokevirtual 169, 3) := by decide +kernel
theorem dX11_seen_24 : decode cX11_seen 24 = .ok (.ifCond .ne 5, 3) := by decide +kernel
theorem dX11_seen_27 : decode cX11_seen 27 = .ok (.iconst (-1), 1) := by decide +kernel
theorem dX11_seen_28 : decode cX11_seen 28 = .ok (.ireturn, 1) := by decide +kernel
theorem dX11_seen_29 : decode cX11_seen 29 = .ok (.aload_n 0, 1) := by decide +kernel
theorem dX11_seen_30 : decode cX11_seen 30 = .ok (.getfield 34, 3) := by decide +kernel
theorem dX11_seen_33 : decode cX11_seen 33 = .ok (.aload_n 3, 1) := by decide +kernel
theorem dX11_seen_34 : decode cX11_seen 34 = .ok (.iconst 1, 1) := by decide +kernel
theorem dX11_seen_35 : decode cX11_seen 35 = .ok (.invokevirtual 267, 3) := by decide +kernel
theorem dX11_seen_38 : decode cX11_seen 38 = .ok (.aload_n 0, 1) := by decide +kernel
theorem dX11_seen_39 : decode cX11_seen 39 = .ok (.aload_n 0, 1) := by decide +kernel
theorem dX11_seen_40 : decode cX11_seen 40 = .ok (.getfield 34, 3) := by decide +kernel
theorem dX11_seen_43 : decode cX11_seen 43 = .ok (.getfield 271, 3) := by decide +kernel
theorem dX11_seen_46 : decode cX11_seen 46 = .ok (.iload_n 2, 1) := by decide +kernel
theorem dX11_seen_47 : decode cX11_seen 47 = .ok (.laload, 1) := by decide +kernel
theorem dX11_seen_48 : decode cX11_seen 48 = .ok (.aload_n 0, 1) := by decide +kernel
theorem dX11_seen_49 : decode cX11_seen 49 = .ok (.getfield 34, 3) := by decide +kernel
theorem dX11_seen_52 : decode cX11_seen 52 = .ok (.aload_n 0, 1) := by decide +kernel
theorem dX11_seen_53 : decode cX11_seen 53 = .ok (.getfield 34, 3) := by decide +kernel
theorem dX11_seen_56 : decode cX11_seen 56 = .ok (.getfield 198, 3) := by decide +kernel
theorem dX11_seen_59 : decode cX11_seen 59 = .ok (.invokevirtual 202, 3) := by decide +kernel
theorem dX11_seen_62 : decode cX11_seen 62 = .ok (.aload_n 3, 1) := by decide +kernel
theorem dX11_seen_63 : decode cX11_seen 63 = .ok (.getfield 257, 3) := by decide +kernel
theorem dX11_seen_66 : decode cX11_seen 66 = .ok (.i2l, 1) := by decide +kernel
theorem dX11_seen_67 : decode cX11_seen 67 = .ok (.lmul, 1) := by decide +kernel
theorem dX11_seen_68 : decode cX11_seen 68 = .ok (.invokevirtual 206, 3) := by decide +kernel
theorem dX11_seen_71 : decode cX11_seen 71 = .ok (.ireturn, 1) := by decide +kernel
theorem dX11_sights_0 : decode cX11_sights 0 = .ok (.aload_n 0, 1) := by decide +kernel
theorem dX11_sights_1 : decode cX11_sights 1 = .ok (.getfield 34, 3) := by decide +kernel
theorem dX11_sights_4 : decode cX11_sights 4 = .ok (.iload_n 1, 1) := by decide +kernel
theorem dX11_sights_5 : decode cX11_sights 5 = .ok (.invokevirtual 118, 3) := by decide +kernel
theorem dX11_sights_8 : decode cX11_sights 8 = .ok (.astore_n 2, 1) := by decide +kernel
theorem dX11_sights_9 : decode cX11_sights 9 = .ok (.aload_n 2, 1) := by decide +kernel
theorem dX11_sights_10 : decode cX11_sights 10 = .ok (.ifnonnull 5, 3) := by decide +kernel
theorem dX11_sights_13 : decode cX11_sights 13 = .ok (.iconst (-1), 1) := by decide +kernel
theorem dX11_sights_14 : decode cX11_sights 14 = .ok (.ireturn, 1) := by decide +kernel
theorem dX11_sights_15 : decode cX11_sights 15 = .ok (.aload_n 0, 1) := by decide +kernel
theorem dX11_sights_16 : decode cX11_sights 16 = .ok (.getfield 34, 3) := by decide +kernel
theorem dX11_sights_19 : decode cX11_sights 19 = .ok (.aload_n 2, 1) := by decide +kernel
theorem dX11_sights_20 : decode cX11_sights 20 = .ok (.iconst 1, 1) := by decide +kernel
theorem dX11_sights_21 : decode cX11_sights 21 = .ok (.invokevirtual 267, 3) := by decide +kernel
theorem dX11_sights_24 : decode cX11_sights 24 = .ok (.aload_n 0, 1) := by decide +kernel
theorem dX11_sights_25 : decode cX11_sights 25 = .ok (.aload_n 0, 1) := by decide +kernel
theorem dX11_sights_26 : decode cX11_sights 26 = .ok (.getfield 34, 3) := by decide +kernel
theorem dX11_sights_29 : decode cX11_sights 29 = .ok (.aload_n 0, 1) := by decide +kernel
theorem dX11_sights_30 : decode cX11_sights 30 = .ok (.getfield 34, 3) := by decide +kernel
theorem dX11_sights_33 : decode cX11_sights 33 = .ok (.getfield 271, 3) := by decide +kernel
theorem dX11_sights_36 : decode cX11_sights 36 = .ok (.invokevirtual 210, 3) := by decide +kernel
theorem dX11_sights_39 : decode cX11_sights 39 = .ok (.invokevirtual 75, 3) := by decide +kernel
theorem dX11_sights_42 : decode cX11_sights 42 = .ok (.aload_n 0, 1) := by decide +kernel
theorem dX11_sights_43 : decode cX11_sights 43 = .ok (.getfield 34, 3) := by decide +kernel
theorem dX11_sights_46 : decode cX11_sights 46 = .ok (.aload_n 0, 1) := by decide +kernel
theorem dX11_sights_47 : decode cX11_sights 47 = .ok (.getfield 34, 3) := by decide +kernel
theorem dX11_sights_50 : decode cX11_sights 50 = .ok (.getfield 271, 3) := by decide +kernel
theorem dX11_sights_53 : decode cX11_sights 53 = .ok (.invokevirtual 274, 3) := by decide +kernel
theorem dX11_sights_56 : decode cX11_sights 56 = .ok (.ireturn, 1) := by decide +kernel
theorem dX11_fits_0 : decode cX11_fits 0 = .ok (.aload_n 0, 1) := by decide +kernel
theorem dX11_fits_1 : decode cX11_fits 1 = .ok (.iload_n 1, 1) := by decide +kernel
theorem dX11_fits_2 : decode cX11_fits 2 = .ok (.invokevirtual 277, 3) := by decide +kernel
theorem dX11_fits_5 : decode cX11_fits 5 = .ok (.istore_n 2, 1) := by decide +kernel
theorem dX11_fits_6 : decode cX11_fits 6 = .ok (.iload_n 2, 1) := by decide +kernel
theorem dX11_fits_7 : decode cX11_fits 7 = .ok (.ifCond .eq 5, 3) := by decide +kernel
theorem dX11_fits_10 : decode cX11_fits 10 = .ok (.iload_n 2, 1) := by decide +kernel
theorem dX11_fits_11 : decode cX11_fits 11 = .ok (.ireturn, 1) := by decide +kernel
theorem dX11_fits_12 : decode cX11_fits 12 = .ok (.aload_n 0, 1) := by decide +kernel
theorem dX11_fits_13 : decode cX11_fits 13 = .ok (.getfield 34, 3) := by decide +kernel
theorem dX11_fits_16 : decode cX11_fits 16 = .ok (.aload_n 0, 1) := by decide +kernel
theorem dX11_fits_17 : decode cX11_fits 17 = .ok (.getfield 11, 3) := by decide +kernel
theorem dX11_fits_20 : decode cX11_fits 20 = .ok (.iload_n 1, 1) := by decide +kernel
theorem dX11_fits_21 : decode cX11_fits 21 = .ok (.aaload, 1) := by decide +kernel
theorem dX11_fits_22 : decode cX11_fits 22 = .ok (.invokevirtual 280, 3) := by decide +kernel
theorem dX11_fits_25 : decode cX11_fits 25 = .ok (.aload_n 0, 1) := by decide +kernel
theorem dX11_fits_26 : decode cX11_fits 26 = .ok (.getfield 34, 3) := by decide +kernel
theorem dX11_fits_29 : decode cX11_fits 29 = .ok (.aload_n 0, 1) := by decide +kernel
theorem dX11_fits_30 : decode cX11_fits 30 = .ok (.getfield 34, 3) := by decide +kernel
theorem dX11_fits_33 : decode cX11_fits 33 = .ok (.getfield 271, 3) := by decide +kernel
theorem dX11_fits_36 : decode cX11_fits 36 = .ok (.invokevirtual 274, 3) := by decide +kernel
theorem dX11_fits_39 : decode cX11_fits 39 = .ok (.istore_n 3, 1) := by decide +kernel
theorem dX11_fits_40 : decode cX11_fits 40 = .ok (.aload_n 0, 1) := by decide +kernel
theorem dX11_fits_41 : decode cX11_fits 41 = .ok (.iload_n 3, 1) := by decide +kernel
theorem dX11_fits_42 : decode cX11_fits 42 = .ok (.ifCond .ne 8, 3) := by decide +kernel
theorem dX11_fits_45 : decode cX11_fits 45 = .ok (.bipush (-9), 2) := by decide +kernel
theorem dX11_fits_47 : decode cX11_fits 47 = .ok (.goto 17, 3) := by decide +kernel
theorem dX11_fits_50 : decode cX11_fits 50 = .ok (.aload_n 0, 1) := by decide +kernel
theorem dX11_fits_51 : decode cX11_fits 51 = .ok (.getfield 34, 3) := by decide +kernel
theorem dX11_fits_54 : decode cX11_fits 54 = .ok (.aload_n 0, 1) := by decide +kernel
theorem dX11_fits_55 : decode cX11_fits 55 = .ok (.getfield 34, 3) := by decide +kernel
theorem dX11_fits_58 : decode cX11_fits 58 = .ok (.getfield 271, 3) := by decide +kernel
theorem dX11_fits_61 : decode cX11_fits 61 = .ok (.invokevirtual 284, 3) := by decide +kernel
theorem dX11_fits_64 : decode cX11_fits 64 = .ok (.invokevirtual 75, 3) := by decide +kernel
theorem dX11_fits_67 : decode cX11_fits 67 = .ok (.iload_n 3, 1) := by decide +kernel
theorem dX11_fits_68 : decode cX11_fits 68 = .ok (.ireturn, 1) := by decide +kernel
theorem dX11_chance_0 : decode cX11_chance 0 = .ok (.aload_n 0, 1) := by decide +kernel
theorem dX11_chance_1 : decode cX11_chance 1 = .ok (.iload_n 1, 1) := by decide +kernel
theorem dX11_chance_2 : decode cX11_chance 2 = .ok (.invokevirtual 277, 3) := by decide +kernel
theorem dX11_chance_5 : decode cX11_chance 5 = .ok (.istore_n 2, 1) := by decide +kernel
theorem dX11_chance_6 : decode cX11_chance 6 = .ok (.iload_n 2, 1) := by decide +kernel
theorem dX11_chance_7 : decode cX11_chance 7 = .ok (.ifCond .eq 5, 3) := by decide +kernel
theorem dX11_chance_10 : decode cX11_chance 10 = .ok (.iload_n 2, 1) := by decide +kernel
theorem dX11_chance_11 : decode cX11_chance 11 = .ok (.ireturn, 1) := by decide +kernel
theorem dX11_chance_12 : decode cX11_chance 12 = .ok (.aload_n 0, 1) := by decide +kernel
theorem dX11_chance_13 : decode cX11_chance 13 = .ok (.getfield 34, 3) := by decide +kernel
theorem dX11_chance_16 : decode cX11_chance 16 = .ok (.aload_n 0, 1) := by decide +kernel
theorem dX11_chance_17 : decode cX11_chance 17 = .ok (.getfield 11, 3) := by decide +kernel
theorem dX11_chance_20 : decode cX11_chance 20 = .ok (.iload_n 1, 1) := by decide +kernel
theorem dX11_chance_21 : decode cX11_chance 21 = .ok (.aaload, 1) := by decide +kernel
theorem dX11_chance_22 : decode cX11_chance 22 = .ok (.invokevirtual 280, 3) := by decide +kernel
theorem dX11_chance_25 : decode cX11_chance 25 = .ok (.aload_n 0, 1) := by decide +kernel
theorem dX11_chance_26 : decode cX11_chance 26 = .ok (.aload_n 0, 1) := by decide +kernel
theorem dX11_chance_27 : decode cX11_chance 27 = .ok (.getfield 34, 3) := by decide +kernel
theorem dX11_chance_30 : decode cX11_chance 30 = .ok (.aload_n 0, 1) := by decide +kernel
theorem dX11_chance_31 : decode cX11_chance 31 = .ok (.getfield 34, 3) := by decide +kernel
theorem dX11_chance_34 : decode cX11_chance 34 = .ok (.getfield 271, 3) := by decide +kernel
theorem dX11_chance_37 : decode cX11_chance 37 = .ok (.invokevirtual 202, 3) := by decide +kernel
theorem dX11_chance_40 : decode cX11_chance 40 = .ok (.aload_n 0, 1) := by decide +kernel
theorem dX11_chance_41 : decode cX11_chance 41 = .ok (.getfield 34, 3) := by decide +kernel
theorem dX11_chance_44 : decode cX11_chance 44 = .ok (.aload_n 0, 1) := by decide +kernel
theorem dX11_chance_45 : decode cX11_chance 45 = .ok (.getfield 11, 3) := by decide +kernel
theorem dX11_chance_48 : decode cX11_chance 48 = .ok (.iload_n 1, 1) := by decide +kernel
theorem dX11_chance_49 : decode cX11_chance 49 = .ok (.aaload, 1) := by decide +kernel
theorem dX11_chance_50 : decode cX11_chance 50 = .ok (.invokevirtual 287, 3) := by decide +kernel
theorem dX11_chance_53 : decode cX11_chance 53 = .ok (.invokevirtual 206, 3) := by decide +kernel
theorem dX11_chance_56 : decode cX11_chance 56 = .ok (.ireturn, 1) := by decide +kernel
theorem dX11_read_0 : decode cX11_read 0 = .ok (.aload_n 0, 1) := by decide +kernel
theorem dX11_read_1 : decode cX11_read 1 = .ok (.iload_n 1, 1) := by decide +kernel
theorem dX11_read_2 : decode cX11_read 2 = .ok (.invokevirtual 277, 3) := by decide +kernel
theorem dX11_read_5 : decode cX11_read 5 = .ok (.istore_n 2, 1) := by decide +kernel
theorem dX11_read_6 : decode cX11_read 6 = .ok (.iload_n 2, 1) := by decide +kernel
theorem dX11_read_7 : decode cX11_read 7 = .ok (.ifCond .eq 5, 3) := by decide +kernel
theorem dX11_read_10 : decode cX11_read 10 = .ok (.iload_n 2, 1) := by decide +kernel
theorem dX11_read_11 : decode cX11_read 11 = .ok (.ireturn, 1) := by decide +kernel
theorem dX11_read_12 : decode cX11_read 12 = .ok (.aload_n 0, 1) := by decide +kernel
theorem dX11_read_13 : decode cX11_read 13 = .ok (.getfield 34, 3) := by decide +kernel
theorem dX11_read_16 : decode cX11_read 16 = .ok (.aload_n 0, 1) := by decide +kernel
theorem dX11_read_17 : decode cX11_read 17 = .ok (.getfield 11, 3) := by decide +kernel
theorem dX11_read_20 : decode cX11_read 20 = .ok (.iload_n 1, 1) := by decide +kernel
theorem dX11_read_21 : decode cX11_read 21 = .ok (.aaload, 1) := by decide +kernel
theorem dX11_read_22 : decode cX11_read 22 = .ok (.invokevirtual 280, 3) := by decide +kernel
theorem dX11_read_25 : decode cX11_read 25 = .ok (.aload_n 0, 1) := by decide +kernel
theorem dX11_read_26 : decode cX11_read 26 = .ok (.getfield 34, 3) := by decide +kernel
theorem dX11_read_29 : decode cX11_read 29 = .ok (.aload_n 0, 1) := by decide +kernel
theorem dX11_read_30 : decode cX11_read 30 = .ok (.getfield 34, 3) := by decide +kernel
theorem dX11_read_33 : decode cX11_read 33 = .ok (.getfield 271, 3) := by decide +kernel
theorem dX11_read_36 : decode cX11_read 36 = .ok (.invokevirtual 274, 3) := by decide +kernel
theorem dX11_read_39 : decode cX11_read 39 = .ok (.ifCond .ne 9, 3) := by decide +kernel
theorem dX11_read_42 : decode cX11_read 42 = .ok (.aload_n 0, 1) := by decide +kernel
theorem dX11_read_43 : decode cX11_read 43 = .ok (.iconst 4, 1) := by decide +kernel
theorem dX11_read_44 : decode cX11_read 44 = .ok (.invokevirtual 85, 3) := by decide +kernel
theorem dX11_read_47 : decode cX11_read 47 = .ok (.ireturn, 1) := by decide +kernel
theorem dX11_read_48 : decode cX11_read 48 = .ok (.aload_n 0, 1) := by decide +kernel
theorem dX11_read_49 : decode cX11_read 49 = .ok (.getfield 34, 3) := by decide +kernel
theorem dX11_read_52 : decode cX11_read 52 = .ok (.aload_n 0, 1) := by decide +kernel
theorem dX11_read_53 : decode cX11_read 53 = .ok (.getfield 34, 3) := by decide +kernel
theorem dX11_read_56 : decode cX11_read 56 = .ok (.getfield 271, 3) := by decide +kernel
theorem dX11_read_59 : decode cX11_read 59 = .ok (.invokevirtual 210, 3) := by decide +kernel
theorem dX11_read_62 : decode cX11_read 62 = .ok (.ireturn, 1) := by decide +kernel
theorem dX11_who_0 : decode cX11_who 0 = .ok (.aload_n 0, 1) := by decide +kernel
theorem dX11_who_1 : decode cX11_who 1 = .ok (.getfield 34, 3) := by decide +kernel
theorem dX11_who_4 : decode cX11_who 4 = .ok (.getfield 165, 3) := by decide +kernel
theorem dX11_who_7 : decode cX11_who 7 = .ok (.iload_n 1, 1) := by decide +kernel
theorem dX11_who_8 : decode cX11_who 8 = .ok (.invokevirtual 169, 3) := by decide +kernel
theorem dX11_who_11 : decode cX11_who 11 = .ok (.ifCond .eq 17, 3) := by decide +kernel
theorem dX11_who_14 : decode cX11_who 14 = .ok (.aload_n 0, 1) := by decide +kernel
theorem dX11_who_15 : decode cX11_who 15 = .ok (.getfield 34, 3) := by decide +kernel
theorem dX11_who_18 : decode cX11_who 18 = .ok (.getfield 165, 3) := by decide +kernel
theorem dX11_who_21 : decode cX11_who 21 = .ok (.iload_n 2, 1) := by decide +kernel
theorem dX11_who_22 : decode cX11_who 22 = .ok (.invokevirtual 169, 3) := by decide +kernel
theorem dX11_who_25 : decode cX11_who 25 = .ok (.ifCond .ne 5, 3) := by decide +kernel
theorem dX11_who_28 : decode cX11_who 28 = .ok (.iconst (-1), 1) := by decide +kernel
theorem dX11_who_29 : decode cX11_who 29 = .ok (.ireturn, 1) := by decide +kernel
theorem dX11_who_30 : decode cX11_who 30 = .ok (.aload_n 0, 1) := by decide +kernel
theorem dX11_who_31 : decode cX11_who 31 = .ok (.aload_n 0, 1) := by decide +kernel
theorem dX11_who_32 : decode cX11_who 32 = .ok (.getfield 34, 3) := by decide +kernel
theorem dX11_who_35 : decode cX11_who 35 = .ok (.iload_n 1, 1) := by decide +kernel
theorem dX11_who_36 : decode cX11_who 36 = .ok (.iload_n 2, 1) := by decide +kernel
theorem dX11_who_37 : decode cX11_who 37 = .ok (.invokevirtual 291, 3) := by decide +kernel
theorem dX11_who_40 : decode cX11_who 40 = .ok (.invokevirtual 75, 3) := by decide +kernel
theorem dX11_who_43 : decode cX11_who 43 = .ok (.aload_n 0, 1) := by decide +kernel
theorem dX11_who_44 : decode cX11_who 44 = .ok (.getfield 34, 3) := by decide +kernel
theorem dX11_who_47 : decode cX11_who 47 = .ok (.iload_n 1, 1) := by decide +kernel
theorem dX11_who_48 : decode cX11_who 48 = .ok (.iload_n 2, 1) := by decide +kernel
theorem dX11_who_49 : decode cX11_who 49 = .ok (.invokevirtual 294, 3) := by decide +kernel
theorem dX11_who_52 : decode cX11_who 52 = .ok (.ireturn, 1) := by decide +kernel
theorem dX11_ways_0 : decode cX11_ways 0 = .ok (.aload_n 0, 1) := by decide +kernel
theorem dX11_ways_1 : decode cX11_ways 1 = .ok (.getfield 34, 3) := by decide +kernel
theorem dX11_ways_4 : decode cX11_ways 4 = .ok (.iload_n 1, 1) := by decide +kernel
theorem dX11_ways_5 : decode cX11_ways 5 = .ok (.invokevirtual 118, 3) := by decide +kernel
theorem dX11_ways_8 : decode cX11_ways 8 = .ok (.astore 4, 2) := by decide +kernel
theorem dX11_ways_10 : decode cX11_ways 10 = .ok (.aload 4, 2) := by decide +kernel
theorem dX11_ways_12 : decode cX11_ways 12 = .ok (.ifnull 31, 3) := by decide +kernel
theorem dX11_ways_15 : decode cX11_ways 15 = .ok (.aload_n 0, 1) := by decide +kernel
theorem dX11_ways_16 : decode cX11_ways 16 = .ok (.getfield 34, 3) := by decide +kernel
theorem dX11_ways_19 : decode cX11_ways 19 = .ok (.getfield 165, 3) := by decide +kernel
theorem dX11_ways_22 : decode cX11_ways 22 = .ok (.iload_n 2, 1) := by decide +kernel
theorem dX11_ways_23 : decode cX11_ways 23 = .ok (.invokevirtual 169, 3) := by decide +kernel
theorem dX11_ways_26 : decode cX11_ways 26 = .ok (.ifCond .eq 17, 3) := by decide +kernel
theorem dX11_ways_29 : decode cX11_ways 29 = .ok (.aload_n 0, 1) := by decide +kernel
theorem dX11_ways_30 : decode cX11_ways 30 = .ok (.getfield 34, 3) := by decide +kernel
theorem dX11_ways_33 : decode cX11_ways 33 = .ok (.getfield 165, 3) := by decide +kernel
theorem dX11_ways_36 : decode cX11_ways 36 = .ok (.iload_n 3, 1) := by decide +kernel
theorem dX11_ways_37 : decode cX11_ways 37 = .ok (.invokevirtual 169, 3) := by decide +kernel
theorem dX11_ways_40 : decode cX11_ways 40 = .ok (.ifCond .ne 5, 3) := by decide +kernel
theorem dX11_ways_43 : decode cX11_ways 43 = .ok (.iconst (-1), 1) := by decide +kernel
theorem dX11_ways_44 : decode cX11_ways 44 = .ok (.ireturn, 1) := by decide +kernel
theorem dX11_ways_45 : decode cX11_ways 45 = .ok (.aload 4, 2) := by decide +kernel
theorem dX11_ways_47 : decode cX11_ways 47 = .ok (.aload_n 0, 1) := by decide +kernel
theorem dX11_ways_48 : decode cX11_ways 48 = .ok (.getfield 34, 3) := by decide +kernel
theorem dX11_ways_51 : decode cX11_ways 51 = .ok (.getfield 165, 3) := by decide +kernel
theorem dX11_ways_54 : decode cX11_ways 54 = .ok (.iload_n 2, 1) := by decide +kernel
theorem dX11_ways_55 : decode cX11_ways 55 = .ok (.iload_n 3, 1) := by decide +kernel
theorem dX11_ways_56 : decode cX11_ways 56 = .ok (.invokevirtual 297, 3) := by decide +kernel
theorem dX11_ways_59 : decode cX11_ways 59 = .ok (.invokevirtual 300, 3) := by decide +kernel
theorem dX11_ways_62 : decode cX11_ways 62 = .ok (.ireturn, 1) := by decide +kernel
theorem dX11_apart_0 : decode cX11_apart 0 = .ok (.aload_n 0, 1) := by decide +kernel
theorem dX11_apart_1 : decode cX11_apart 1 = .ok (.getfield 34, 3) := by decide +kernel
theorem dX11_apart_4 : decode cX11_apart 4 = .ok (.getfield 165, 3) := by decide +kernel
theorem dX11_apart_7 : decode cX11_apart 7 = .ok (.iload_n 1, 1) := by decide +kernel
theorem dX11_apart_8 : decode cX11_apart 8 = .ok (.invokevirtual 169, 3) := by decide +kernel
theorem dX11_apart_11 : decode cX11_apart 11 = .ok (.ifCond .eq 17, 3) := by decide +kernel
theorem dX11_apart_14 : decode cX11_apart 14 = .ok (.aload_n 0, 1) := by decide +kernel
theorem dX11_apart_15 : decode cX11_apart 15 = .ok (.getfield 34, 3) := by decide +kernel
theorem dX11_apart_18 : decode cX11_apart 18 = .ok (.getfield 165, 3) := by decide +kernel
theorem dX11_apart_21 : decode cX11_apart 21 = .ok (.iload_n 2, 1) := by decide +kernel
theorem dX11_apart_22 : decode cX11_apart 22 = .ok (.invokevirtual 169, 3) := by decide +kernel
theorem dX11_apart_25 : decode cX11_apart 25 = .ok (.ifCond .ne 5, 3) := by decide +kernel
theorem dX11_apart_28 : decode cX11_apart 28 = .ok (.iconst (-1), 1) := by decide +kernel
theorem dX11_apart_29 : decode cX11_apart 29 = .ok (.ireturn, 1) := by decide +kernel
theorem dX11_apart_30 : decode cX11_apart 30 = .ok (.aload_n 0, 1) := by decide +kernel
theorem dX11_apart_31 : decode cX11_apart 31 = .ok (.getfield 34, 3) := by decide +kernel
theorem dX11_apart_34 : decode cX11_apart 34 = .ok (.getfield 165, 3) := by decide +kernel
theorem dX11_apart_37 : decode cX11_apart 37 = .ok (.iload_n 1, 1) := by decide +kernel
theorem dX11_apart_38 : decode cX11_apart 38 = .ok (.iload_n 2, 1) := by decide +kernel
theorem dX11_apart_39 : decode cX11_apart 39 = .ok (.invokevirtual 297, 3) := by decide +kernel
theorem dX11_apart_42 : decode cX11_apart 42 = .ok (.istore_n 3, 1) := by decide +kernel
theorem dX11_apart_43 : decode cX11_apart 43 = .ok (.aload_n 0, 1) := by decide +kernel
theorem dX11_apart_44 : decode cX11_apart 44 = .ok (.aload_n 0, 1) := by decide +kernel
theorem dX11_apart_45 : decode cX11_apart 45 = .ok (.getfield 34, 3) := by decide +kernel
theorem dX11_apart_48 : decode cX11_apart 48 = .ok (.getfield 165, 3) := by decide +kernel
theorem dX11_apart_51 : decode cX11_apart 51 = .ok (.iload_n 3, 1) := by decide +kernel
theorem dX11_apart_52 : decode cX11_apart 52 = .ok (.invokevirtual 303, 3) := by decide +kernel
theorem dX11_apart_55 : decode cX11_apart 55 = .ok (.invokevirtual 75, 3) := by decide +kernel
theorem dX11_apart_58 : decode cX11_apart 58 = .ok (.aload_n 0, 1) := by decide +kernel
theorem dX11_apart_59 : decode cX11_apart 59 = .ok (.getfield 34, 3) := by decide +kernel
theorem dX11_apart_62 : decode cX11_apart 62 = .ok (.getfield 165, 3) := by decide +kernel
theorem dX11_apart_65 : decode cX11_apart 65 = .ok (.iload_n 3, 1) := by decide +kernel
theorem dX11_apart_66 : decode cX11_apart 66 = .ok (.invokevirtual 306, 3) := by decide +kernel
theorem dX11_apart_69 : decode cX11_apart 69 = .ok (.ireturn, 1) := by decide +kernel
theorem dX11_near_0 : decode cX11_near 0 = .ok (.aload_n 0, 1) := by decide +kernel
theorem dX11_near_1 : decode cX11_near 1 = .ok (.getfield 34, 3) := by decide +kernel
theorem dX11_near_4 : decode cX11_near 4 = .ok (.getfield 165, 3) := by decide +kernel
theorem dX11_near_7 : decode cX11_near 7 = .ok (.iload_n 1, 1) := by decide +kernel
theorem dX11_near_8 : decode cX11_near 8 = .ok (.invokevirtual 169, 3) := by decide +kernel
theorem dX11_near_11 : decode cX11_near 11 = .ok (.ifCond .eq 13, 3) := by decide +kernel
theorem dX11_near_14 : decode cX11_near 14 = .ok (.iload_n 2, 1) := by decide +kernel
theorem dX11_near_15 : decode cX11_near 15 = .ok (.ifCond .lt 9, 3) := by decide +kernel
theorem dX11_near_18 : decode cX11_near 18 = .ok (.iload_n 2, 1) := by decide +kernel
theorem dX11_near_19 : decode cX11_near 19 = .ok (.bipush 9, 2) := by decide +kernel
theorem dX11_near_21 : decode cX11_near 21 = .ok (.if_icmp .le 5, 3) := by decide +kernel
theorem dX11_near_24 : decode cX11_near 24 = .ok (.iconst (-1), 1) := by decide +kernel
theorem dX11_near_25 : decode cX11_near 25 = .ok (.ireturn, 1) := by decide +kernel
theorem dX11_near_26 : decode cX11_near 26 = .ok (.iconst 0, 1) := by decide +kernel
theorem dX11_near_27 : decode cX11_near 27 = .ok (.istore_n 3, 1) := by decide +kernel
theorem dX11_near_28 : decode cX11_near 28 = .ok (.iconst 0, 1) := by decide +kernel
theorem dX11_near_29 : decode cX11_near 29 = .ok (.istore 4, 2) := by decide +kernel
theorem dX11_near_31 : decode cX11_near 31 = .ok (.iload 4, 2) := by decide +kernel
theorem dX11_near_33 : decode cX11_near 33 = .ok (.aload_n 0, 1) := by decide +kernel
theorem dX11_near_34 : decode cX11_near 34 = .ok (.getfield 34, 3) := by decide +kernel
theorem dX11_near_37 : decode cX11_near 37 = .ok (.getfield 165, 3) := by decide +kernel
theorem dX11_near_40 : decode cX11_near 40 = .ok (.getfield 309, 3) := by decide +kernel
theorem dX11_near_43 : decode cX11_near 43 = .ok (.if_icmp .ge 44, 3) := by decide +kernel
theorem dX11_near_46 : decode cX11_near 46 = .ok (.iload_n 3, 1) := by decide +kernel
theorem dX11_near_47 : decode cX11_near 47 = .ok (.aload_n 0, 1) := by decide +kernel
theorem dX11_near_48 : decode cX11_near 48 = .ok (.getfield 34, 3) := by decide +kernel
theorem dX11_near_51 : decode cX11_near 51 = .ok (.getfield 165, 3) := by decide +kernel
theorem dX11_near_54 : decode cX11_near 54 = .ok (.aload_n 0, 1) := by decide +kernel
theorem dX11_near_55 : decode cX11_near 55 = .ok (.getfield 34, 3) := by decide +kernel
theorem dX11_near_58 : decode cX11_near 58 = .ok (.getfield 165, 3) := by decide +kernel
theorem dX11_near_61 : decode cX11_near 61 = .ok (.iload_n 1, 1) := by decide +kernel
theorem dX11_near_62 : decode cX11_near 62 = .ok (.iload 4, 2) := by decide +kernel
theorem dX11_near_64 : decode cX11_near 64 = .ok (.invokevirtual 297, 3) := by decide +kernel
theorem dX11_near_67 : decode cX11_near 67 = .ok (.invokevirtual 306, 3) := by decide +kernel
theorem dX11_near_70 : decode cX11_near 70 = .ok (.iload_n 2, 1) := by decide +kernel
theorem dX11_near_71 : decode cX11_near 71 = .ok (.if_icmp .gt 7, 3) := by decide +kernel
end
section
theorem dX11_near_74 : decode cX11_near 74 = .ok (.iconst 1, 1) := by decide +kernel
theorem dX11_near_75 : decode cX11_near 75 = .ok (.goto 4, 3) := by decide +kernel
theorem dX11_near_78 : decode cX11_near 78 = .ok (.iconst 0, 1) := by decide +kernel
theorem dX11_near_79 : decode cX11_near 79 = .ok (.iadd, 1) := by decide +kernel
theorem dX11_near_80 : decode cX11_near 80 = .ok (.istore_n 3, 1) := by decide +kernel
theorem dX11_near_81 : decode cX11_near 81 = .ok (.iinc 4 1, 3) := by decide +kernel
theorem dX11_near_84 : decode cX11_near 84 = .ok (.goto (-53), 3) := by decide +kernel
theorem dX11_near_87 : decode cX11_near 87 = .ok (.iload_n 3, 1) := by decide +kernel
theorem dX11_near_88 : decode cX11_near 88 = .ok (.ireturn, 1) := by decide +kernel
theorem dX11_lots_0 : decode cX11_lots 0 = .ok (.iload_n 1, 1) := by decide +kernel
theorem dX11_lots_1 : decode cX11_lots 1 = .ok (.iconst 1, 1) := by decide +kernel
theorem dX11_lots_2 : decode cX11_lots 2 = .ok (.if_icmp .lt 21, 3) := by decide +kernel
theorem dX11_lots_5 : decode cX11_lots 5 = .ok (.iload_n 1, 1) := by decide +kernel
theorem dX11_lots_6 : decode cX11_lots 6 = .ok (.bipush 8, 2) := by decide +kernel
theorem dX11_lots_8 : decode cX11_lots 8 = .ok (.if_icmp .gt 15, 3) := by decide +kernel
theorem dX11_lots_11 : decode cX11_lots 11 = .ok (.iload_n 2, 1) := by decide +kernel
theorem dX11_lots_12 : decode cX11_lots 12 = .ok (.iconst 1, 1) := by decide +kernel
theorem dX11_lots_13 : decode cX11_lots 13 = .ok (.if_icmp .lt 10, 3) := by decide +kernel
theorem dX11_lots_16 : decode cX11_lots 16 = .ok (.iload_n 2, 1) := by decide +kernel
theorem dX11_lots_17 : decode cX11_lots 17 = .ok (.ldc_w 312, 3) := by decide +kernel
theorem dX11_lots_20 : decode cX11_lots 20 = .ok (.if_icmp .le 5, 3) := by decide +kernel
theorem dX11_lots_23 : decode cX11_lots 23 = .ok (.iconst (-1), 1) := by decide +kernel
theorem dX11_lots_24 : decode cX11_lots 24 = .ok (.ireturn, 1) := by decide +kernel
theorem dX11_lots_25 : decode cX11_lots 25 = .ok (.aload_n 0, 1) := by decide +kernel
theorem dX11_lots_26 : decode cX11_lots 26 = .ok (.getfield 34, 3) := by decide +kernel
theorem dX11_lots_29 : decode cX11_lots 29 = .ok (.getfield 115, 3) := by decide +kernel
theorem dX11_lots_32 : decode cX11_lots 32 = .ok (.ifCond .ne 6, 3) := by decide +kernel
theorem dX11_lots_35 : decode cX11_lots 35 = .ok (.bipush (-4), 2) := by decide +kernel
theorem dX11_lots_37 : decode cX11_lots 37 = .ok (.ireturn, 1) := by decide +kernel
theorem dX11_lots_38 : decode cX11_lots 38 = .ok (.aload_n 0, 1) := by decide +kernel
theorem dX11_lots_39 : decode cX11_lots 39 = .ok (.getfield 34, 3) := by decide +kernel
theorem dX11_lots_42 : decode cX11_lots 42 = .ok (.iload_n 1, 1) := by decide +kernel
theorem dX11_lots_43 : decode cX11_lots 43 = .ok (.iload_n 2, 1) := by decide +kernel
theorem dX11_lots_44 : decode cX11_lots 44 = .ok (.invokevirtual 313, 3) := by decide +kernel
theorem dX11_lots_47 : decode cX11_lots 47 = .ok (.ireturn, 1) := by decide +kernel
theorem dX11_asked_0 : decode cX11_asked 0 = .ok (.aload_n 0, 1) := by decide +kernel
theorem dX11_asked_1 : decode cX11_asked 1 = .ok (.getfield 46, 3) := by decide +kernel
theorem dX11_asked_4 : decode cX11_asked 4 = .ok (.ireturn, 1) := by decide +kernel
theorem dX11_upper_0 : decode cX11_upper 0 = .ok (.aload_n 0, 1) := by decide +kernel
theorem dX11_upper_1 : decode cX11_upper 1 = .ok (.getfield 49, 3) := by decide +kernel
theorem dX11_upper_4 : decode cX11_upper 4 = .ok (.lreturn, 1) := by decide +kernel
theorem dX11_lower_0 : decode cX11_lower 0 = .ok (.aload_n 0, 1) := by decide +kernel
theorem dX11_lower_1 : decode cX11_lower 1 = .ok (.getfield 53, 3) := by decide +kernel
theorem dX11_lower_4 : decode cX11_lower 4 = .ok (.lreturn, 1) := by decide +kernel
theorem dX11_count_0 : decode cX11_count 0 = .ok (.iload_n 1, 1) := by decide +kernel
theorem dX11_count_1 : decode cX11_count 1 = .ok (.tableswitch 144 0 9 #[55, 63, 74, 85, 96, 104, 115, 123, 131, 139], 55) := by decide +kernel
theorem dX11_count_56 : decode cX11_count 56 = .ok (.aload_n 0, 1) := by decide +kernel
theorem dX11_count_57 : decode cX11_count 57 = .ok (.getfield 34, 3) := by decide +kernel
theorem dX11_count_60 : decode cX11_count 60 = .ok (.getfield 115, 3) := by decide +kernel
theorem dX11_count_63 : decode cX11_count 63 = .ok (.ireturn, 1) := by decide +kernel
theorem dX11_count_64 : decode cX11_count 64 = .ok (.aload_n 0, 1) := by decide +kernel
theorem dX11_count_65 : decode cX11_count 65 = .ok (.getfield 34, 3) := by decide +kernel
theorem dX11_count_68 : decode cX11_count 68 = .ok (.getfield 165, 3) := by decide +kernel
theorem dX11_count_71 : decode cX11_count 71 = .ok (.getfield 228, 3) := by decide +kernel
theorem dX11_count_74 : decode cX11_count 74 = .ok (.ireturn, 1) := by decide +kernel
theorem dX11_count_75 : decode cX11_count 75 = .ok (.aload_n 0, 1) := by decide +kernel
theorem dX11_count_76 : decode cX11_count 76 = .ok (.getfield 34, 3) := by decide +kernel
theorem dX11_count_79 : decode cX11_count 79 = .ok (.getfield 165, 3) := by decide +kernel
theorem dX11_count_82 : decode cX11_count 82 = .ok (.getfield 221, 3) := by decide +kernel
theorem dX11_count_85 : decode cX11_count 85 = .ok (.ireturn, 1) := by decide +kernel
theorem dX11_count_86 : decode cX11_count 86 = .ok (.aload_n 0, 1) := by decide +kernel
theorem dX11_count_87 : decode cX11_count 87 = .ok (.getfield 34, 3) := by decide +kernel
theorem dX11_count_90 : decode cX11_count 90 = .ok (.getfield 165, 3) := by decide +kernel
theorem dX11_count_93 : decode cX11_count 93 = .ok (.getfield 309, 3) := by decide +kernel
theorem dX11_count_96 : decode cX11_count 96 = .ok (.ireturn, 1) := by decide +kernel
theorem dX11_count_97 : decode cX11_count 97 = .ok (.aload_n 0, 1) := by decide +kernel
theorem dX11_count_98 : decode cX11_count 98 = .ok (.getfield 34, 3) := by decide +kernel
theorem dX11_count_101 : decode cX11_count 101 = .ok (.invokevirtual 139, 3) := by decide +kernel
theorem dX11_count_104 : decode cX11_count 104 = .ok (.ireturn, 1) := by decide +kernel
theorem dX11_count_105 : decode cX11_count 105 = .ok (.aload_n 0, 1) := by decide +kernel
theorem dX11_count_106 : decode cX11_count 106 = .ok (.getfield 34, 3) := by decide +kernel
theorem dX11_count_109 : decode cX11_count 109 = .ok (.getfield 152, 3) := by decide +kernel
theorem dX11_count_112 : decode cX11_count 112 = .ok (.getfield 114, 3) := by decide +kernel
theorem dX11_count_115 : decode cX11_count 115 = .ok (.ireturn, 1) := by decide +kernel
theorem dX11_count_116 : decode cX11_count 116 = .ok (.aload_n 0, 1) := by decide +kernel
theorem dX11_count_117 : decode cX11_count 117 = .ok (.getfield 34, 3) := by decide +kernel
theorem dX11_count_120 : decode cX11_count 120 = .ok (.invokevirtual 316, 3) := by decide +kernel
theorem dX11_count_123 : decode cX11_count 123 = .ok (.ireturn, 1) := by decide +kernel
theorem dX11_count_124 : decode cX11_count 124 = .ok (.aload_n 0, 1) := by decide +kernel
theorem dX11_count_125 : decode cX11_count 125 = .ok (.getfield 11, 3) := by decide +kernel
theorem dX11_count_128 : decode cX11_count 128 = .ok (.invokestatic 319, 3) := by decide +kernel
theorem dX11_count_131 : decode cX11_count 131 = .ok (.ireturn, 1) := by decide +kernel
theorem dX11_count_132 : decode cX11_count 132 = .ok (.aload_n 0, 1) := by decide +kernel
theorem dX11_count_133 : decode cX11_count 133 = .ok (.getfield 15, 3) := by decide +kernel
theorem dX11_count_136 : decode cX11_count 136 = .ok (.invokestatic 319, 3) := by decide +kernel
theorem dX11_count_139 : decode cX11_count 139 = .ok (.ireturn, 1) := by decide +kernel
theorem dX11_count_140 : decode cX11_count 140 = .ok (.aload_n 0, 1) := by decide +kernel
theorem dX11_count_141 : decode cX11_count 141 = .ok (.invokevirtual 323, 3) := by decide +kernel
theorem dX11_count_144 : decode cX11_count 144 = .ok (.ireturn, 1) := by decide +kernel
theorem dX11_count_145 : decode cX11_count 145 = .ok (.iconst (-1), 1) := by decide +kernel
theorem dX11_count_146 : decode cX11_count 146 = .ok (.ireturn, 1) := by decide +kernel
theorem dX11_finding_0 : decode cX11_finding 0 = .ok (.aload_n 0, 1) := by decide +kernel
theorem dX11_finding_1 : decode cX11_finding 1 = .ok (.getfield 42, 3) := by decide +kernel
theorem dX11_finding_4 : decode cX11_finding 4 = .ok (.ireturn, 1) := by decide +kernel
theorem dX11_findings_0 : decode cX11_findings 0 = .ok (.iload_n 1, 1) := by decide +kernel
theorem dX11_findings_1 : decode cX11_findings 1 = .ok (.iconst 1, 1) := by decide +kernel
theorem dX11_findings_2 : decode cX11_findings 2 = .ok (.if_icmp .lt 8, 3) := by decide +kernel
theorem dX11_findings_5 : decode cX11_findings 5 = .ok (.iload_n 1, 1) := by decide +kernel
theorem dX11_findings_6 : decode cX11_findings 6 = .ok (.iconst 5, 1) := by decide +kernel
theorem dX11_findings_7 : decode cX11_findings 7 = .ok (.if_icmp .le 7, 3) := by decide +kernel
theorem dX11_findings_10 : decode cX11_findings 10 = .ok (.iconst (-1), 1) := by decide +kernel
theorem dX11_findings_11 : decode cX11_findings 11 = .ok (.goto 9, 3) := by decide +kernel
theorem dX11_findings_14 : decode cX11_findings 14 = .ok (.aload_n 0, 1) := by decide +kernel
theorem dX11_findings_15 : decode cX11_findings 15 = .ok (.getfield 38, 3) := by decide +kernel
theorem dX11_findings_18 : decode cX11_findings 18 = .ok (.iload_n 1, 1) := by decide +kernel
theorem dX11_findings_19 : decode cX11_findings 19 = .ok (.iaload, 1) := by decide +kernel
theorem dX11_findings_20 : decode cX11_findings 20 = .ok (.ireturn, 1) := by decide +kernel
theorem dX11_digest_0 : decode cX11_digest 0 = .ok (.ldc2_w 326, 3) := by decide +kernel
theorem dX11_digest_3 : decode cX11_digest 3 = .ok (.lstore_n 1, 1) := by decide +kernel
theorem dX11_digest_4 : decode cX11_digest 4 = .ok (.iconst 0, 1) := by decide +kernel
theorem dX11_digest_5 : decode cX11_digest 5 = .ok (.istore_n 3, 1) := by decide +kernel
theorem dX11_digest_6 : decode cX11_digest 6 = .ok (.iload_n 3, 1) := by decide +kernel
theorem dX11_digest_7 : decode cX11_digest 7 = .ok (.bipush 10, 2) := by decide +kernel
theorem dX11_digest_9 : decode cX11_digest 9 = .ok (.if_icmp .ge 22, 3) := by decide +kernel
theorem dX11_digest_12 : decode cX11_digest 12 = .ok (.ldc2_w 328, 3) := by decide +kernel
theorem dX11_digest_15 : decode cX11_digest 15 = .ok (.lload_n 1, 1) := by decide +kernel
theorem dX11_digest_16 : decode cX11_digest 16 = .ok (.lmul, 1) := by decide +kernel
theorem dX11_digest_17 : decode cX11_digest 17 = .ok (.aload_n 0, 1) := by decide +kernel
theorem dX11_digest_18 : decode cX11_digest 18 = .ok (.iload_n 3, 1) := by decide +kernel
theorem dX11_digest_19 : decode cX11_digest 19 = .ok (.invokevirtual 330, 3) := by decide +kernel
theorem dX11_digest_22 : decode cX11_digest 22 = .ok (.i2l, 1) := by decide +kernel
theorem dX11_digest_23 : decode cX11_digest 23 = .ok (.ladd, 1) := by decide +kernel
theorem dX11_digest_24 : decode cX11_digest 24 = .ok (.lstore_n 1, 1) := by decide +kernel
theorem dX11_digest_25 : decode cX11_digest 25 = .ok (.iinc 3 1, 3) := by decide +kernel
theorem dX11_digest_28 : decode cX11_digest 28 = .ok (.goto (-22), 3) := by decide +kernel
theorem dX11_digest_31 : decode cX11_digest 31 = .ok (.iconst 0, 1) := by decide +kernel
theorem dX11_digest_32 : decode cX11_digest 32 = .ok (.istore_n 3, 1) := by decide +kernel
theorem dX11_digest_33 : decode cX11_digest 33 = .ok (.iload_n 3, 1) := by decide +kernel
theorem dX11_digest_34 : decode cX11_digest 34 = .ok (.aload_n 0, 1) := by decide +kernel
theorem dX11_digest_35 : decode cX11_digest 35 = .ok (.getfield 34, 3) := by decide +kernel
theorem dX11_digest_38 : decode cX11_digest 38 = .ok (.getfield 165, 3) := by decide +kernel
theorem dX11_digest_41 : decode cX11_digest 41 = .ok (.getfield 309, 3) := by decide +kernel
theorem dX11_digest_44 : decode cX11_digest 44 = .ok (.if_icmp .ge 25, 3) := by decide +kernel
theorem dX11_digest_47 : decode cX11_digest 47 = .ok (.ldc2_w 328, 3) := by decide +kernel
theorem dX11_digest_50 : decode cX11_digest 50 = .ok (.lload_n 1, 1) := by decide +kernel
theorem dX11_digest_51 : decode cX11_digest 51 = .ok (.lmul, 1) := by decide +kernel
theorem dX11_digest_52 : decode cX11_digest 52 = .ok (.aload_n 0, 1) := by decide +kernel
theorem dX11_digest_53 : decode cX11_digest 53 = .ok (.getfield 34, 3) := by decide +kernel
theorem dX11_digest_56 : decode cX11_digest 56 = .ok (.getfield 198, 3) := by decide +kernel
theorem dX11_digest_59 : decode cX11_digest 59 = .ok (.iload_n 3, 1) := by decide +kernel
theorem dX11_digest_60 : decode cX11_digest 60 = .ok (.laload, 1) := by decide +kernel
theorem dX11_digest_61 : decode cX11_digest 61 = .ok (.ladd, 1) := by decide +kernel
theorem dX11_digest_62 : decode cX11_digest 62 = .ok (.lstore_n 1, 1) := by decide +kernel
theorem dX11_digest_63 : decode cX11_digest 63 = .ok (.iinc 3 1, 3) := by decide +kernel
theorem dX11_digest_66 : decode cX11_digest 66 = .ok (.goto (-33), 3) := by decide +kernel
theorem dX11_digest_69 : decode cX11_digest 69 = .ok (.aload_n 0, 1) := by decide +kernel
theorem dX11_digest_70 : decode cX11_digest 70 = .ok (.lload_n 1, 1) := by decide +kernel
theorem dX11_digest_71 : decode cX11_digest 71 = .ok (.invokevirtual 333, 3) := by decide +kernel
theorem dX11_digest_74 : decode cX11_digest 74 = .ok (.lstore_n 1, 1) := by decide +kernel
theorem dX11_digest_75 : decode cX11_digest 75 = .ok (.iconst 0, 1) := by decide +kernel
theorem dX11_digest_76 : decode cX11_digest 76 = .ok (.istore_n 3, 1) := by decide +kernel
theorem dX11_digest_77 : decode cX11_digest 77 = .ok (.iload_n 3, 1) := by decide +kernel
theorem dX11_digest_78 : decode cX11_digest 78 = .ok (.aload_n 0, 1) := by decide +kernel
theorem dX11_digest_79 : decode cX11_digest 79 = .ok (.getfield 20, 3) := by decide +kernel
theorem dX11_digest_82 : decode cX11_digest 82 = .ok (.arraylength, 1) := by decide +kernel
theorem dX11_digest_83 : decode cX11_digest 83 = .ok (.if_icmp .ge 26, 3) := by decide +kernel
theorem dX11_digest_86 : decode cX11_digest 86 = .ok (.ldc2_w 328, 3) := by decide +kernel
theorem dX11_digest_89 : decode cX11_digest 89 = .ok (.lload_n 1, 1) := by decide +kernel
theorem dX11_digest_90 : decode cX11_digest 90 = .ok (.lmul, 1) := by decide +kernel
theorem dX11_digest_91 : decode cX11_digest 91 = .ok (.aload_n 0, 1) := by decide +kernel
theorem dX11_digest_92 : decode cX11_digest 92 = .ok (.getfield 20, 3) := by decide +kernel
theorem dX11_digest_95 : decode cX11_digest 95 = .ok (.iload_n 3, 1) := by decide +kernel
theorem dX11_digest_96 : decode cX11_digest 96 = .ok (.aaload, 1) := by decide +kernel
theorem dX11_digest_97 : decode cX11_digest 97 = .ok (.getfield 114, 3) := by decide +kernel
theorem dX11_digest_100 : decode cX11_digest 100 = .ok (.i2l, 1) := by decide +kernel
theorem dX11_digest_101 : decode cX11_digest 101 = .ok (.ladd, 1) := by decide +kernel
theorem dX11_digest_102 : decode cX11_digest 102 = .ok (.lstore_n 1, 1) := by decide +kernel
theorem dX11_digest_103 : decode cX11_digest 103 = .ok (.iinc 3 1, 3) := by decide +kernel
theorem dX11_digest_106 : decode cX11_digest 106 = .ok (.goto (-29), 3) := by decide +kernel
theorem dX11_digest_109 : decode cX11_digest 109 = .ok (.lload_n 1, 1) := by decide +kernel
theorem dX11_digest_110 : decode cX11_digest 110 = .ok (.aload_n 0, 1) := by decide +kernel
theorem dX11_digest_111 : decode cX11_digest 111 = .ok (.getfield 11, 3) := by decide +kernel
theorem dX11_digest_114 : decode cX11_digest 114 = .ok (.invokestatic 337, 3) := by decide +kernel
theorem dX11_digest_117 : decode cX11_digest 117 = .ok (.lstore_n 1, 1) := by decide +kernel
theorem dX11_digest_118 : decode cX11_digest 118 = .ok (.lload_n 1, 1) := by decide +kernel
theorem dX11_digest_119 : decode cX11_digest 119 = .ok (.aload_n 0, 1) := by decide +kernel
theorem dX11_digest_120 : decode cX11_digest 120 = .ok (.getfield 15, 3) := by decide +kernel
theorem dX11_digest_123 : decode cX11_digest 123 = .ok (.invokestatic 337, 3) := by decide +kernel
theorem dX11_digest_126 : decode cX11_digest 126 = .ok (.lreturn, 1) := by decide +kernel
theorem dX11_among_0 : decode cX11_among 0 = .ok (.iload_n 1, 1) := by decide +kernel
theorem dX11_among_1 : decode cX11_among 1 = .ok (.ifCond .lt 9, 3) := by decide +kernel
theorem dX11_among_4 : decode cX11_among 4 = .ok (.iload_n 1, 1) := by decide +kernel
theorem dX11_among_5 : decode cX11_among 5 = .ok (.aload_n 0, 1) := by decide +kernel
theorem dX11_among_6 : decode cX11_among 6 = .ok (.arraylength, 1) := by decide +kernel
theorem dX11_among_7 : decode cX11_among 7 = .ok (.if_icmp .lt 7, 3) := by decide +kernel
theorem dX11_among_10 : decode cX11_among 10 = .ok (.aconst_null, 1) := by decide +kernel
theorem dX11_among_11 : decode cX11_among 11 = .ok (.goto 6, 3) := by decide +kernel
theorem dX11_among_14 : decode cX11_among 14 = .ok (.aload_n 0, 1) := by decide +kernel
theorem dX11_among_15 : decode cX11_among 15 = .ok (.iload_n 1, 1) := by decide +kernel
theorem dX11_among_16 : decode cX11_among 16 = .ok (.aaload, 1) := by decide +kernel
theorem dX11_among_17 : decode cX11_among 17 = .ok (.areturn, 1) := by decide +kernel
theorem dX11_makeAnew_0 : decode cX11_makeAnew 0 = .ok (.aload_n 1, 1) := by decide +kernel
theorem dX11_makeAnew_1 : decode cX11_makeAnew 1 = .ok (.ifnull 12, 3) := by decide +kernel
theorem dX11_makeAnew_4 : decode cX11_makeAnew 4 = .ok (.iload_n 2, 1) := by decide +kernel
theorem dX11_makeAnew_5 : decode cX11_makeAnew 5 = .ok (.aload_n 1, 1) := by decide +kernel
theorem dX11_makeAnew_6 : decode cX11_makeAnew 6 = .ok (.getfield 72, 3) := by decide +kernel
theorem dX11_makeAnew_9 : decode cX11_makeAnew 9 = .ok (.arraylength, 1) := by decide +kernel
theorem dX11_makeAnew_10 : decode cX11_makeAnew 10 = .ok (.if_icmp .le 5, 3) := by decide +kernel
theorem dX11_makeAnew_13 : decode cX11_makeAnew 13 = .ok (.iconst (-1), 1) := by decide +kernel
theorem dX11_makeAnew_14 : decode cX11_makeAnew 14 = .ok (.ireturn, 1) := by decide +kernel
theorem dX11_makeAnew_15 : decode cX11_makeAnew 15 = .ok (.iload_n 2, 1) := by decide +kernel
theorem dX11_makeAnew_16 : decode cX11_makeAnew 16 = .ok (.ifCond .ge 9, 3) := by decide +kernel
theorem dX11_makeAnew_19 : decode cX11_makeAnew 19 = .ok (.aload_n 0, 1) := by decide +kernel
theorem dX11_makeAnew_20 : decode cX11_makeAnew 20 = .ok (.iconst 5, 1) := by decide +kernel
theorem dX11_makeAnew_21 : decode cX11_makeAnew 21 = .ok (.invokevirtual 85, 3) := by decide +kernel
theorem dX11_makeAnew_24 : decode cX11_makeAnew 24 = .ok (.ireturn, 1) := by decide +kernel
theorem dX11_makeAnew_25 : decode cX11_makeAnew 25 = .ok (.aload_n 1, 1) := by decide +kernel
theorem dX11_makeAnew_26 : decode cX11_makeAnew 26 = .ok (.iload_n 2, 1) := by decide +kernel
theorem dX11_makeAnew_27 : decode cX11_makeAnew 27 = .ok (.iload_n 3, 1) := by decide +kernel
theorem dX11_makeAnew_28 : decode cX11_makeAnew 28 = .ok (.invokevirtual 240, 3) := by decide +kernel
theorem dX11_makeAnew_31 : decode cX11_makeAnew 31 = .ok (.iload_n 2, 1) := by decide +kernel
theorem dX11_makeAnew_32 : decode cX11_makeAnew 32 = .ok (.ireturn, 1) := by decide +kernel
theorem dX11_refusedRow_0 : decode cX11_refusedRow 0 = .ok (.aload_n 1, 1) := by decide +kernel
theorem dX11_refusedRow_1 : decode cX11_refusedRow 1 = .ok (.ifnonnull 5, 3) := by decide +kernel
theorem dX11_refusedRow_4 : decode cX11_refusedRow 4 = .ok (.iconst (-1), 1) := by decide +kernel
theorem dX11_refusedRow_5 : decode cX11_refusedRow 5 = .ok (.ireturn, 1) := by decide +kernel
theorem dX11_refusedRow_6 : decode cX11_refusedRow 6 = .ok (.aload_n 1, 1) := by decide +kernel
theorem dX11_refusedRow_7 : decode cX11_refusedRow 7 = .ok (.invokevirtual 89, 3) := by decide +kernel
theorem dX11_refusedRow_10 : decode cX11_refusedRow 10 = .ok (.ifCond .eq 11, 3) := by decide +kernel
theorem dX11_refusedRow_13 : decode cX11_refusedRow 13 = .ok (.aload_n 0, 1) := by decide +kernel
theorem dX11_refusedRow_14 : decode cX11_refusedRow 14 = .ok (.iconst 1, 1) := by decide +kernel
theorem dX11_refusedRow_15 : decode cX11_refusedRow 15 = .ok (.invokevirtual 85, 3) := by decide +kernel
theorem dX11_refusedRow_18 : decode cX11_refusedRow 18 = .ok (.goto 4, 3) := by decide +kernel
theorem dX11_refusedRow_21 : decode cX11_refusedRow 21 = .ok (.iconst 0, 1) := by decide +kernel
theorem dX11_refusedRow_22 : decode cX11_refusedRow 22 = .ok (.ireturn, 1) := by decide +kernel
theorem dX11_refusedPlace_0 : decode cX11_refusedPlace 0 = .ok (.aload_n 0, 1) := by decide +kernel
theorem dX11_refusedPlace_1 : decode cX11_refusedPlace 1 = .ok (.aload_n 1, 1) := by decide +kernel
theorem dX11_refusedPlace_2 : decode cX11_refusedPlace 2 = .ok (.invokevirtual 78, 3) := by decide +kernel
theorem dX11_refusedPlace_5 : decode cX11_refusedPlace 5 = .ok (.istore_n 3, 1) := by decide +kernel
theorem dX11_refusedPlace_6 : decode cX11_refusedPlace 6 = .ok (.iload_n 3, 1) := by decide +kernel
theorem dX11_refusedPlace_7 : decode cX11_refusedPlace 7 = .ok (.ifCond .eq 5, 3) := by decide +kernel
theorem dX11_refusedPlace_10 : decode cX11_refusedPlace 10 = .ok (.iload_n 3, 1) := by decide +kernel
theorem dX11_refusedPlace_11 : decode cX11_refusedPlace 11 = .ok (.ireturn, 1) := by decide +kernel
theorem dX11_refusedPlace_12 : decode cX11_refusedPlace 12 = .ok (.aload_n 1, 1) := by decide +kernel
theorem dX11_refusedPlace_13 : decode cX11_refusedPlace 13 = .ok (.iload_n 2, 1) := by decide +kernel
theorem dX11_refusedPlace_14 : decode cX11_refusedPlace 14 = .ok (.invokevirtual 341, 3) := by decide +kernel
theorem dX11_refusedPlace_17 : decode cX11_refusedPlace 17 = .ok (.ifCond .eq 7, 3) := by decide +kernel
theorem dX11_refusedPlace_20 : decode cX11_refusedPlace 20 = .ok (.iconst 0, 1) := by decide +kernel
theorem dX11_refusedPlace_21 : decode cX11_refusedPlace 21 = .ok (.goto 8, 3) := by decide +kernel
theorem dX11_refusedPlace_24 : decode cX11_refusedPlace 24 = .ok (.aload_n 0, 1) := by decide +kernel
theorem dX11_refusedPlace_25 : decode cX11_refusedPlace 25 = .ok (.iconst 2, 1) := by decide +kernel
theorem dX11_refusedPlace_26 : decode cX11_refusedPlace 26 = .ok (.invokevirtual 85, 3) := by decide +kernel
theorem dX11_refusedPlace_29 : decode cX11_refusedPlace 29 = .ok (.ireturn, 1) := by decide +kernel
theorem dX11_found_0 : decode cX11_found 0 = .ok (.aload_n 0, 1) := by decide +kernel
theorem dX11_found_1 : decode cX11_found 1 = .ok (.iload_n 1, 1) := by decide +kernel
theorem dX11_found_2 : decode cX11_found 2 = .ok (.putfield 42, 3) := by decide +kernel
theorem dX11_found_5 : decode cX11_found 5 = .ok (.aload_n 0, 1) := by decide +kernel
theorem dX11_found_6 : decode cX11_found 6 = .ok (.getfield 38, 3) := by decide +kernel
theorem dX11_found_9 : decode cX11_found 9 = .ok (.iload_n 1, 1) := by decide +kernel
theorem dX11_found_10 : decode cX11_found 10 = .ok (.dup2, 1) := by decide +kernel
theorem dX11_found_11 : decode cX11_found 11 = .ok (.iaload, 1) := by decide +kernel
theorem dX11_found_12 : decode cX11_found 12 = .ok (.iconst 1, 1) := by decide +kernel
theorem dX11_found_13 : decode cX11_found 13 = .ok (.iadd, 1) := by decide +kernel
theorem dX11_found_14 : decode cX11_found 14 = .ok (.iastore, 1) := by decide +kernel
theorem dX11_found_15 : decode cX11_found 15 = .ok (.bipush (-3), 2) := by decide +kernel
theorem dX11_found_17 : decode cX11_found 17 = .ok (.ireturn, 1) := by decide +kernel
theorem dX11_tellNumber_0 : decode cX11_tellNumber 0 = .ok (.aload_n 0, 1) := by decide +kernel
theorem dX11_tellNumber_1 : decode cX11_tellNumber 1 = .ok (.iload_n 1, 1) := by decide +kernel
theorem dX11_tellNumber_2 : decode cX11_tellNumber 2 = .ok (.putfield 46, 3) := by decide +kernel
theorem dX11_tellNumber_5 : decode cX11_tellNumber 5 = .ok (.return_, 1) := by decide +kernel
theorem dX11_tellChance_0 : decode cX11_tellChance 0 = .ok (.lload_n 1, 1) := by decide +kernel
theorem dX11_tellChance_1 : decode cX11_tellChance 1 = .ok (.lload_n 3, 1) := by decide +kernel
theorem dX11_tellChance_2 : decode cX11_tellChance 2 = .ok (.invokestatic 344, 3) := by decide +kernel
theorem dX11_tellChance_5 : decode cX11_tellChance 5 = .ok (.lstore 5, 2) := by decide +kernel
theorem dX11_tellChance_7 : decode cX11_tellChance 7 = .ok (.lload 5, 2) := by decide +kernel
theorem dX11_tellChance_9 : decode cX11_tellChance 9 = .ok (.lconst 0, 1) := by decide +kernel
theorem dX11_tellChance_10 : decode cX11_tellChance 10 = .ok (.lcmp, 1) := by decide +kernel
theorem dX11_tellChance_11 : decode cX11_tellChance 11 = .ok (.ifCond .eq 19, 3) := by decide +kernel
theorem dX11_tellChance_14 : decode cX11_tellChance 14 = .ok (.aload_n 0, 1) := by decide +kernel
theorem dX11_tellChance_15 : decode cX11_tellChance 15 = .ok (.lload_n 1, 1) := by decide +kernel
theorem dX11_tellChance_16 : decode cX11_tellChance 16 = .ok (.lload 5, 2) := by decide +kernel
theorem dX11_tellChance_18 : decode cX11_tellChance 18 = .ok (.ldiv, 1) := by decide +kernel
theorem dX11_tellChance_19 : decode cX11_tellChance 19 = .ok (.putfield 49, 3) := by decide +kernel
theorem dX11_tellChance_22 : decode cX11_tellChance 22 = .ok (.aload_n 0, 1) := by decide +kernel
theorem dX11_tellChance_23 : decode cX11_tellChance 23 = .ok (.lload_n 3, 1) := by decide +kernel
theorem dX11_tellChance_24 : decode cX11_tellChance 24 = .ok (.lload 5, 2) := by decide +kernel
theorem dX11_tellChance_26 : decode cX11_tellChance 26 = .ok (.ldiv, 1) := by decide +kernel
theorem dX11_tellChance_27 : decode cX11_tellChance 27 = .ok (.putfield 53, 3) := by decide +kernel
theorem dX11_tellChance_30 : decode cX11_tellChance 30 = .ok (.iconst 1, 1) := by decide +kernel
theorem dX11_tellChance_31 : decode cX11_tellChance 31 = .ok (.ireturn, 1) := by decide +kernel
theorem dX11_greatestShared_0 : decode cX11_greatestShared 0 = .ok (.iconst 0, 1) := by decide +kernel
theorem dX11_greatestShared_1 : decode cX11_greatestShared 1 = .ok (.istore 4, 2) := by decide +kernel
theorem dX11_greatestShared_3 : decode cX11_greatestShared 3 = .ok (.iload 4, 2) := by decide +kernel
theorem dX11_greatestShared_5 : decode cX11_greatestShared 5 = .ok (.bipush 100, 2) := by decide +kernel
theorem dX11_greatestShared_7 : decode cX11_greatestShared 7 = .ok (.if_icmp .ge 25, 3) := by decide +kernel
theorem dX11_greatestShared_10 : decode cX11_greatestShared 10 = .ok (.lload_n 2, 1) := by decide +kernel
theorem dX11_greatestShared_11 : decode cX11_greatestShared 11 = .ok (.lconst 0, 1) := by decide +kernel
theorem dX11_greatestShared_12 : decode cX11_greatestShared 12 = .ok (.lcmp, 1) := by decide +kernel
theorem dX11_greatestShared_13 : decode cX11_greatestShared 13 = .ok (.ifCond .eq 19, 3) := by decide +kernel
theorem dX11_greatestShared_16 : decode cX11_greatestShared 16 = .ok (.lload_n 0, 1) := by decide +kernel
theorem dX11_greatestShared_17 : decode cX11_greatestShared 17 = .ok (.lload_n 2, 1) := by decide +kernel
theorem dX11_greatestShared_18 : decode cX11_greatestShared 18 = .ok (.lrem, 1) := by decide +kernel
theorem dX11_greatestShared_19 : decode cX11_greatestShared 19 = .ok (.lstore 5, 2) := by decide +kernel
theorem dX11_greatestShared_21 : decode cX11_greatestShared 21 = .ok (.lload_n 2, 1) := by decide +kernel
theorem dX11_greatestShared_22 : decode cX11_greatestShared 22 = .ok (.lstore_n 0, 1) := by decide +kernel
theorem dX11_greatestShared_23 : decode cX11_greatestShared 23 = .ok (.lload 5, 2) := by decide +kernel
theorem dX11_greatestShared_25 : decode cX11_greatestShared 25 = .ok (.lstore_n 2, 1) := by decide +kernel
theorem dX11_greatestShared_26 : decode cX11_greatestShared 26 = .ok (.iinc 4 1, 3) := by decide +kernel
theorem dX11_greatestShared_29 : decode cX11_greatestShared 29 = .ok (.goto (-26), 3) := by decide +kernel
theorem dX11_greatestShared_32 : decode cX11_greatestShared 32 = .ok (.lload_n 0, 1) := by decide +kernel
theorem dX11_greatestShared_33 : decode cX11_greatestShared 33 = .ok (.lreturn, 1) := by decide +kernel
theorem dX11_factOf_0 : decode cX11_factOf 0 = .ok (.iload_n 3, 1) := by decide +kernel
theorem dX11_factOf_1 : decode cX11_factOf 1 = .ok (.tableswitch 42 0 2 #[27, 32, 37], 27) := by decide +kernel
theorem dX11_factOf_28 : decode cX11_factOf 28 = .ok (.aload_n 1, 1) := by decide +kernel
theorem dX11_factOf_29 : decode cX11_factOf 29 = .ok (.invokevirtual 348, 3) := by decide +kernel
theorem dX11_factOf_32 : decode cX11_factOf 32 = .ok (.ireturn, 1) := by decide +kernel
theorem dX11_factOf_33 : decode cX11_factOf 33 = .ok (.aload_n 1, 1) := by decide +kernel
theorem dX11_factOf_34 : decode cX11_factOf 34 = .ok (.getfield 156, 3) := by decide +kernel
theorem dX11_factOf_37 : decode cX11_factOf 37 = .ok (.ireturn, 1) := by decide +kernel
theorem dX11_factOf_38 : decode cX11_factOf 38 = .ok (.aload_n 1, 1) := by decide +kernel
theorem dX11_factOf_39 : decode cX11_factOf 39 = .ok (.getfield 257, 3) := by decide +kernel
theorem dX11_factOf_42 : decode cX11_factOf 42 = .ok (.ireturn, 1) := by decide +kernel
theorem dX11_factOf_43 : decode cX11_factOf 43 = .ok (.aload_n 0, 1) := by decide +kernel
theorem dX11_factOf_44 : decode cX11_factOf 44 = .ok (.getfield 34, 3) := by decide +kernel
theorem dX11_factOf_47 : decode cX11_factOf 47 = .ok (.getfield 152, 3) := by decide +kernel
theorem dX11_factOf_50 : decode cX11_factOf 50 = .ok (.iload_n 2, 1) := by decide +kernel
theorem dX11_factOf_51 : decode cX11_factOf 51 = .ok (.invokevirtual 351, 3) := by decide +kernel
theorem dX11_factOf_54 : decode cX11_factOf 54 = .ok (.ireturn, 1) := by decide +kernel
theorem dX11_refusedTold_0 : decode cX11_refusedTold 0 = .ok (.aload_n 0, 1) := by decide +kernel
theorem dX11_refusedTold_1 : decode cX11_refusedTold 1 = .ok (.getfield 11, 3) := by decide +kernel
theorem dX11_refusedTold_4 : decode cX11_refusedTold 4 = .ok (.iload_n 1, 1) := by decide +kernel
theorem dX11_refusedTold_5 : decode cX11_refusedTold 5 = .ok (.invokestatic 60, 3) := by decide +kernel
theorem dX11_refusedTold_8 : decode cX11_refusedTold 8 = .ok (.astore_n 2, 1) := by decide +kernel
theorem dX11_refusedTold_9 : decode cX11_refusedTold 9 = .ok (.aload_n 2, 1) := by decide +kernel
theorem dX11_refusedTold_10 : decode cX11_refusedTold 10 = .ok (.ifnonnull 5, 3) := by decide +kernel
theorem dX11_refusedTold_13 : decode cX11_refusedTold 13 = .ok (.iconst (-1), 1) := by decide +kernel
theorem dX11_refusedTold_14 : decode cX11_refusedTold 14 = .ok (.ireturn, 1) := by decide +kernel
theorem dX11_refusedTold_15 : decode cX11_refusedTold 15 = .ok (.aload_n 0, 1) := by decide +kernel
theorem dX11_refusedTold_16 : decode cX11_refusedTold 16 = .ok (.getfield 34, 3) := by decide +kernel
theorem dX11_refusedTold_19 : decode cX11_refusedTold 19 = .ok (.getfield 115, 3) := by decide +kernel
theorem dX11_refusedTold_22 : decode cX11_refusedTold 22 = .ok (.ifCond .ne 6, 3) := by decide +kernel
theorem dX11_refusedTold_25 : decode cX11_refusedTold 25 = .ok (.bipush (-4), 2) := by decide +kernel
theorem dX11_refusedTold_27 : decode cX11_refusedTold 27 = .ok (.ireturn, 1) := by decide +kernel
theorem dX11_refusedTold_28 : decode cX11_refusedTold 28 = .ok (.aload_n 2, 1) := by decide +kernel
theorem dX11_refusedTold_29 : decode cX11_refusedTold 29 = .ok (.invokevirtual 89, 3) := by decide +kernel
theorem dX11_refusedTold_32 : decode cX11_refusedTold 32 = .ok (.ifCond .eq 9, 3) := by decide +kernel
theorem dX11_refusedTold_35 : decode cX11_refusedTold 35 = .ok (.aload_n 0, 1) := by decide +kernel
theorem dX11_refusedTold_36 : decode cX11_refusedTold 36 = .ok (.iconst 1, 1) := by decide +kernel
theorem dX11_refusedTold_37 : decode cX11_refusedTold 37 = .ok (.invokevirtual 85, 3) := by decide +kernel
theorem dX11_refusedTold_40 : decode cX11_refusedTold 40 = .ok (.ireturn, 1) := by decide +kernel
theorem dX11_refusedTold_41 : decode cX11_refusedTold 41 = .ok (.aload_n 2, 1) := by decide +kernel
theorem dX11_refusedTold_42 : decode cX11_refusedTold 42 = .ok (.getfield 82, 3) := by decide +kernel
theorem dX11_refusedTold_45 : decode cX11_refusedTold 45 = .ok (.bipush 12, 2) := by decide +kernel
theorem dX11_refusedTold_47 : decode cX11_refusedTold 47 = .ok (.if_icmp .gt 12, 3) := by decide +kernel
theorem dX11_refusedTold_50 : decode cX11_refusedTold 50 = .ok (.aload_n 2, 1) := by decide +kernel
theorem dX11_refusedTold_51 : decode cX11_refusedTold 51 = .ok (.getfield 82, 3) := by decide +kernel
theorem dX11_refusedTold_54 : decode cX11_refusedTold 54 = .ok (.iconst 2, 1) := by decide +kernel
theorem dX11_refusedTold_55 : decode cX11_refusedTold 55 = .ok (.irem, 1) := by decide +kernel
theorem dX11_refusedTold_56 : decode cX11_refusedTold 56 = .ok (.ifCond .eq 9, 3) := by decide +kernel
theorem dX11_refusedTold_59 : decode cX11_refusedTold 59 = .ok (.aload_n 0, 1) := by decide +kernel
theorem dX11_refusedTold_60 : decode cX11_refusedTold 60 = .ok (.iconst 5, 1) := by decide +kernel
theorem dX11_refusedTold_61 : decode cX11_refusedTold 61 = .ok (.invokevirtual 85, 3) := by decide +kernel
theorem dX11_refusedTold_64 : decode cX11_refusedTold 64 = .ok (.ireturn, 1) := by decide +kernel
theorem dX11_refusedTold_65 : decode cX11_refusedTold 65 = .ok (.iconst 0, 1) := by decide +kernel
theorem dX11_refusedTold_66 : decode cX11_refusedTold 66 = .ok (.istore_n 3, 1) := by decide +kernel
theorem dX11_refusedTold_67 : decode cX11_refusedTold 67 = .ok (.iload_n 3, 1) := by decide +kernel
theorem dX11_refusedTold_68 : decode cX11_refusedTold 68 = .ok (.iconst 1, 1) := by decide +kernel
theorem dX11_refusedTold_69 : decode cX11_refusedTold 69 = .ok (.iadd, 1) := by decide +kernel
theorem dX11_refusedTold_70 : decode cX11_refusedTold 70 = .ok (.aload_n 2, 1) := by decide +kernel
theorem dX11_refusedTold_71 : decode cX11_refusedTold 71 = .ok (.getfield 82, 3) := by decide +kernel
theorem dX11_refusedTold_74 : decode cX11_refusedTold 74 = .ok (.if_icmp .ge 52, 3) := by decide +kernel
theorem dX11_refusedTold_77 : decode cX11_refusedTold 77 = .ok (.aload_n 0, 1) := by decide +kernel
theorem dX11_refusedTold_78 : decode cX11_refusedTold 78 = .ok (.getfield 34, 3) := by decide +kernel
theorem dX11_refusedTold_81 : decode cX11_refusedTold 81 = .ok (.aload_n 2, 1) := by decide +kernel
theorem dX11_refusedTold_82 : decode cX11_refusedTold 82 = .ok (.getfield 72, 3) := by decide +kernel
theorem dX11_refusedTold_85 : decode cX11_refusedTold 85 = .ok (.iload_n 3, 1) := by decide +kernel
theorem dX11_refusedTold_86 : decode cX11_refusedTold 86 = .ok (.iaload, 1) := by decide +kernel
theorem dX11_refusedTold_87 : decode cX11_refusedTold 87 = .ok (.invokevirtual 118, 3) := by decide +kernel
theorem dX11_refusedTold_90 : decode cX11_refusedTold 90 = .ok (.ifnull 24, 3) := by decide +kernel
theorem dX11_refusedTold_93 : decode cX11_refusedTold 93 = .ok (.aload_n 0, 1) := by decide +kernel
theorem dX11_refusedTold_94 : decode cX11_refusedTold 94 = .ok (.getfield 34, 3) := by decide +kernel
theorem dX11_refusedTold_97 : decode cX11_refusedTold 97 = .ok (.getfield 165, 3) := by decide +kernel
theorem dX11_refusedTold_100 : decode cX11_refusedTold 100 = .ok (.aload_n 2, 1) := by decide +kernel
theorem dX11_refusedTold_101 : decode cX11_refusedTold 101 = .ok (.getfield 72, 3) := by decide +kernel
theorem dX11_refusedTold_104 : decode cX11_refusedTold 104 = .ok (.iload_n 3, 1) := by decide +kernel
theorem dX11_refusedTold_105 : decode cX11_refusedTold 105 = .ok (.iconst 1, 1) := by decide +kernel
theorem dX11_refusedTold_106 : decode cX11_refusedTold 106 = .ok (.iadd, 1) := by decide +kernel
theorem dX11_refusedTold_107 : decode cX11_refusedTold 107 = .ok (.iaload, 1) := by decide +kernel
theorem dX11_refusedTold_108 : decode cX11_refusedTold 108 = .ok (.invokevirtual 169, 3) := by decide +kernel
theorem dX11_refusedTold_111 : decode cX11_refusedTold 111 = .ok (.ifCond .ne 9, 3) := by decide +kernel
theorem dX11_refusedTold_114 : decode cX11_refusedTold 114 = .ok (.aload_n 0, 1) := by decide +kernel
theorem dX11_refusedTold_115 : decode cX11_refusedTold 115 = .ok (.iconst 3, 1) := by decide +kernel
theorem dX11_refusedTold_116 : decode cX11_refusedTold 116 = .ok (.invokevirtual 85, 3) := by decide +kernel
theorem dX11_refusedTold_119 : decode cX11_refusedTold 119 = .ok (.ireturn, 1) := by decide +kernel
theorem dX11_refusedTold_120 : decode cX11_refusedTold 120 = .ok (.iinc 3 2, 3) := by decide +kernel
theorem dX11_refusedTold_123 : decode cX11_refusedTold 123 = .ok (.goto (-56), 3) := by decide +kernel
theorem dX11_refusedTold_126 : decode cX11_refusedTold 126 = .ok (.iconst 0, 1) := by decide +kernel
theorem dX11_refusedTold_127 : decode cX11_refusedTold 127 = .ok (.ireturn, 1) := by decide +kernel
theorem dX11_howManyThere_0 : decode cX11_howManyThere 0 = .ok (.iconst 0, 1) := by decide +kernel
theorem dX11_howManyThere_1 : decode cX11_howManyThere 1 = .ok (.istore_n 1, 1) := by decide +kernel
theorem dX11_howManyThere_2 : decode cX11_howManyThere 2 = .ok (.iconst 0, 1) := by decide +kernel
theorem dX11_howManyThere_3 : decode cX11_howManyThere 3 = .ok (.istore_n 2, 1) := by decide +kernel
theorem dX11_howManyThere_4 : decode cX11_howManyThere 4 = .ok (.iload_n 2, 1) := by decide +kernel
theorem dX11_howManyThere_5 : decode cX11_howManyThere 5 = .ok (.aload_n 0, 1) := by decide +kernel
theorem dX11_howManyThere_6 : decode cX11_howManyThere 6 = .ok (.arraylength, 1) := by decide +kernel
theorem dX11_howManyThere_7 : decode cX11_howManyThere 7 = .ok (.if_icmp .ge 26, 3) := by decide +kernel
theorem dX11_howManyThere_10 : decode cX11_howManyThere 10 = .ok (.iload_n 1, 1) := by decide +kernel
theorem dX11_howManyThere_11 : decode cX11_howManyThere 11 = .ok (.aload_n 0, 1) := by decide +kernel
theorem dX11_howManyThere_12 : decode cX11_howManyThere 12 = .ok (.iload_n 2, 1) := by decide +kernel
theorem dX11_howManyThere_13 : decode cX11_howManyThere 13 = .ok (.aaload, 1) := by decide +kernel
theorem dX11_howManyThere_14 : decode cX11_howManyThere 14 = .ok (.invokevirtual 89, 3) := by decide +kernel
theorem dX11_howManyThere_17 : decode cX11_howManyThere 17 = .ok (.ifCond .eq 7, 3) := by decide +kernel
theorem dX11_howManyThere_20 : decode cX11_howManyThere 20 = .ok (.iconst 0, 1) := by decide +kernel
theorem dX11_howManyThere_21 : decode cX11_howManyThere 21 = .ok (.goto 4, 3) := by decide +kernel
theorem dX11_howManyThere_24 : decode cX11_howManyThere 24 = .ok (.iconst 1, 1) := by decide +kernel
theorem dX11_howManyThere_25 : decode cX11_howManyThere 25 = .ok (.iadd, 1) := by decide +kernel
theorem dX11_howManyThere_26 : decode cX11_howManyThere 26 = .ok (.istore_n 1, 1) := by decide +kernel
theorem dX11_howManyThere_27 : decode cX11_howManyThere 27 = .ok (.iinc 2 1, 3) := by decide +kernel
theorem dX11_howManyThere_30 : decode cX11_howManyThere 30 = .ok (.goto (-26), 3) := by decide +kernel
theorem dX11_howManyThere_33 : decode cX11_howManyThere 33 = .ok (.iload_n 1, 1) := by decide +kernel
theorem dX11_howManyThere_34 : decode cX11_howManyThere 34 = .ok (.ireturn, 1) := by decide +kernel
theorem dX11_howManyKept_0 : decode cX11_howManyKept 0 = .ok (.iconst 0, 1) := by decide +kernel
theorem dX11_howManyKept_1 : decode cX11_howManyKept 1 = .ok (.istore_n 1, 1) := by decide +kernel
theorem dX11_howManyKept_2 : decode cX11_howManyKept 2 = .ok (.iconst 0, 1) := by decide +kernel
theorem dX11_howManyKept_3 : decode cX11_howManyKept 3 = .ok (.istore_n 2, 1) := by decide +kernel
theorem dX11_howManyKept_4 : decode cX11_howManyKept 4 = .ok (.iload_n 2, 1) := by decide +kernel
theorem dX11_howManyKept_5 : decode cX11_howManyKept 5 = .ok (.aload_n 0, 1) := by decide +kernel
theorem dX11_howManyKept_6 : decode cX11_howManyKept 6 = .ok (.getfield 20, 3) := by decide +kernel
theorem dX11_howManyKept_9 : decode cX11_howManyKept 9 = .ok (.arraylength, 1) := by decide +kernel
theorem dX11_howManyKept_10 : decode cX11_howManyKept 10 = .ok (.if_icmp .ge 29, 3) := by decide +kernel
theorem dX11_howManyKept_13 : decode cX11_howManyKept 13 = .ok (.iload_n 1, 1) := by decide +kernel
theorem dX11_howManyKept_14 : decode cX11_howManyKept 14 = .ok (.aload_n 0, 1) := by decide +kernel
theorem dX11_howManyKept_15 : decode cX11_howManyKept 15 = .ok (.getfield 20, 3) := by decide +kernel
theorem dX11_howManyKept_18 : decode cX11_howManyKept 18 = .ok (.iload_n 2, 1) := by decide +kernel
theorem dX11_howManyKept_19 : decode cX11_howManyKept 19 = .ok (.aaload, 1) := by decide +kernel
theorem dX11_howManyKept_20 : decode cX11_howManyKept 20 = .ok (.getfield 114, 3) := by decide +kernel
theorem dX11_howManyKept_23 : decode cX11_howManyKept 23 = .ok (.ifCond .ge 7, 3) := by decide +kernel
theorem dX11_howManyKept_26 : decode cX11_howManyKept 26 = .ok (.iconst 0, 1) := by decide +kernel
theorem dX11_howManyKept_27 : decode cX11_howManyKept 27 = .ok (.goto 4, 3) := by decide +kernel
theorem dX11_howManyKept_30 : decode cX11_howManyKept 30 = .ok (.iconst 1, 1) := by decide +kernel
theorem dX11_howManyKept_31 : decode cX11_howManyKept 31 = .ok (.iadd, 1) := by decide +kernel
theorem dX11_howManyKept_32 : decode cX11_howManyKept 32 = .ok (.istore_n 1, 1) := by decide +kernel
theorem dX11_howManyKept_33 : decode cX11_howManyKept 33 = .ok (.iinc 2 1, 3) := by decide +kernel
theorem dX11_howManyKept_36 : decode cX11_howManyKept 36 = .ok (.goto (-32), 3) := by decide +kernel
theorem dX11_howManyKept_39 : decode cX11_howManyKept 39 = .ok (.iload_n 1, 1) := by decide +kernel
theorem dX11_howManyKept_40 : decode cX11_howManyKept 40 = .ok (.ireturn, 1) := by decide +kernel
theorem dX11_digestPersons_0 : decode cX11_digestPersons 0 = .ok (.iconst 0, 1) := by decide +kernel
theorem dX11_digestPersons_1 : decode cX11_digestPersons 1 = .ok (.istore_n 3, 1) := by decide +kernel
theorem dX11_digestPersons_2 : decode cX11_digestPersons 2 = .ok (.iload_n 3, 1) := by decide +kernel
theorem dX11_digestPersons_3 : decode cX11_digestPersons 3 = .ok (.aload_n 0, 1) := by decide +kernel
theorem dX11_digestPersons_4 : decode cX11_digestPersons 4 = .ok (.getfield 34, 3) := by decide +kernel
theorem dX11_digestPersons_7 : decode cX11_digestPersons 7 = .ok (.getfield 115, 3) := by decide +kernel
theorem dX11_digestPersons_10 : decode cX11_digestPersons 10 = .ok (.if_icmp .ge 56, 3) := by decide +kernel
theorem dX11_digestPersons_13 : decode cX11_digestPersons 13 = .ok (.aload_n 0, 1) := by decide +kernel
theorem dX11_digestPersons_14 : decode cX11_digestPersons 14 = .ok (.getfield 34, 3) := by decide +kernel
theorem dX11_digestPersons_17 : decode cX11_digestPersons 17 = .ok (.iload_n 3, 1) := by decide +kernel
theorem dX11_digestPersons_18 : decode cX11_digestPersons 18 = .ok (.invokevirtual 118, 3) := by decide +kernel
theorem dX11_digestPersons_21 : decode cX11_digestPersons 21 = .ok (.astore 4, 2) := by decide +kernel
theorem dX11_digestPersons_23 : decode cX11_digestPersons 23 = .ok (.iconst 0, 1) := by decide +kernel
theorem dX11_digestPersons_24 : decode cX11_digestPersons 24 = .ok (.istore 5, 2) := by decide +kernel
theorem dX11_digestPersons_26 : decode cX11_digestPersons 26 = .ok (.iload 5, 2) := by decide +kernel
theorem dX11_digestPersons_28 : decode cX11_digestPersons 28 = .ok (.iconst 3, 1) := by decide +kernel
theorem dX11_digestPersons_29 : decode cX11_digestPersons 29 = .ok (.if_icmp .gt 31, 3) := by decide +kernel
theorem dX11_digestPersons_32 : decode cX11_digestPersons 32 = .ok (.aload 4, 2) := by decide +kernel
theorem dX11_digestPersons_34 : decode cX11_digestPersons 34 = .ok (.ifnull 26, 3) := by decide +kernel
theorem dX11_digestPersons_37 : decode cX11_digestPersons 37 = .ok (.ldc2_w 328, 3) := by decide +kernel
theorem dX11_digestPersons_40 : decode cX11_digestPersons 40 = .ok (.lload_n 1, 1) := by decide +kernel
theorem dX11_digestPersons_41 : decode cX11_digestPersons 41 = .ok (.lmul, 1) := by decide +kernel
theorem dX11_digestPersons_42 : decode cX11_digestPersons 42 = .ok (.aload_n 0, 1) := by decide +kernel
theorem dX11_digestPersons_43 : decode cX11_digestPersons 43 = .ok (.aload 4, 2) := by decide +kernel
theorem dX11_digestPersons_45 : decode cX11_digestPersons 45 = .ok (.iload_n 3, 1) := by decide +kernel
theorem dX11_digestPersons_46 : decode cX11_digestPersons 46 = .ok (.iload 5, 2) := by decide +kernel
theorem dX11_digestPersons_48 : decode cX11_digestPersons 48 = .ok (.invokevirtual 122, 3) := by decide +kernel
theorem dX11_digestPersons_51 : decode cX11_digestPersons 51 = .ok (.i2l, 1) := by decide +kernel
theorem dX11_digestPersons_52 : decode cX11_digestPersons 52 = .ok (.ladd, 1) := by decide +kernel
theorem dX11_digestPersons_53 : decode cX11_digestPersons 53 = .ok (.lstore_n 1, 1) := by decide +kernel
theorem dX11_digestPersons_54 : decode cX11_digestPersons 54 = .ok (.iinc 5 1, 3) := by decide +kernel
theorem dX11_digestPersons_57 : decode cX11_digestPersons 57 = .ok (.goto (-31), 3) := by decide +kernel
theorem dX11_digestPersons_60 : decode cX11_digestPersons 60 = .ok (.iinc 3 1, 3) := by decide +kernel
theorem dX11_digestPersons_63 : decode cX11_digestPersons 63 = .ok (.goto (-61), 3) := by decide +kernel
theorem dX11_digestPersons_66 : decode cX11_digestPersons 66 = .ok (.lload_n 1, 1) := by decide +kernel
theorem dX11_digestPersons_67 : decode cX11_digestPersons 67 = .ok (.lreturn, 1) := by decide +kernel
theorem dX11_digestRows_0 : decode cX11_digestRows 0 = .ok (.iconst 0, 1) := by decide +kernel
theorem dX11_digestRows_1 : decode cX11_digestRows 1 = .ok (.istore_n 3, 1) := by decide +kernel
theorem dX11_digestRows_2 : decode cX11_digestRows 2 = .ok (.iload_n 3, 1) := by decide +kernel
theorem dX11_digestRows_3 : decode cX11_digestRows 3 = .ok (.aload_n 2, 1) := by decide +kernel
theorem dX11_digestRows_4 : decode cX11_digestRows 4 = .ok (.arraylength, 1) := by decide +kernel
theorem dX11_digestRows_5 : decode cX11_digestRows 5 = .ok (.if_icmp .ge 60, 3) := by decide +kernel
theorem dX11_digestRows_8 : decode cX11_digestRows 8 = .ok (.ldc2_w 328, 3) := by decide +kernel
theorem dX11_digestRows_11 : decode cX11_digestRows 11 = .ok (.lload_n 0, 1) := by decide +kernel
theorem dX11_digestRows_12 : decode cX11_digestRows 12 = .ok (.lmul, 1) := by decide +kernel
theorem dX11_digestRows_13 : decode cX11_digestRows 13 = .ok (.aload_n 2, 1) := by decide +kernel
theorem dX11_digestRows_14 : decode cX11_digestRows 14 = .ok (.iload_n 3, 1) := by decide +kernel
theorem dX11_digestRows_15 : decode cX11_digestRows 15 = .ok (.aaload, 1) := by decide +kernel
theorem dX11_digestRows_16 : decode cX11_digestRows 16 = .ok (.getfield 82, 3) := by decide +kernel
theorem dX11_digestRows_19 : decode cX11_digestRows 19 = .ok (.i2l, 1) := by decide +kernel
theorem dX11_digestRows_20 : decode cX11_digestRows 20 = .ok (.ladd, 1) := by decide +kernel
theorem dX11_digestRows_21 : decode cX11_digestRows 21 = .ok (.lstore_n 0, 1) := by decide +kernel
theorem dX11_digestRows_22 : decode cX11_digestRows 22 = .ok (.iconst 0, 1) := by decide +kernel
theorem dX11_digestRows_23 : decode cX11_digestRows 23 = .ok (.istore 4, 2) := by decide +kernel
theorem dX11_digestRows_25 : decode cX11_digestRows 25 = .ok (.iload 4, 2) := by decide +kernel
theorem dX11_digestRows_27 : decode cX11_digestRows 27 = .ok (.aload_n 2, 1) := by decide +kernel
theorem dX11_digestRows_28 : decode cX11_digestRows 28 = .ok (.iload_n 3, 1) := by decide +kernel
theorem dX11_digestRows_29 : decode cX11_digestRows 29 = .ok (.aaload, 1) := by decide +kernel
theorem dX11_digestRows_30 : decode cX11_digestRows 30 = .ok (.getfield 82, 3) := by decide +kernel
theorem dX11_digestRows_33 : decode cX11_digestRows 33 = .ok (.if_icmp .ge 26, 3) := by decide +kernel
theorem dX11_digestRows_36 : decode cX11_digestRows 36 = .ok (.ldc2_w 328, 3) := by decide +kernel
theorem dX11_digestRows_39 : decode cX11_digestRows 39 = .ok (.lload_n 0, 1) := by decide +kernel
theorem dX11_digestRows_40 : decode cX11_digestRows 40 = .ok (.lmul, 1) := by decide +kernel
theorem dX11_digestRows_41 : decode cX11_digestRows 41 = .ok (.aload_n 2, 1) := by decide +kernel
theorem dX11_digestRows_42 : decode cX11_digestRows 42 = .ok (.iload_n 3, 1) := by decide +kernel
theorem dX11_digestRows_43 : decode cX11_digestRows 43 = .ok (.aaload, 1) := by decide +kernel
theorem dX11_digestRows_44 : decode cX11_digestRows 44 = .ok (.getfield 72, 3) := by decide +kernel
theorem dX11_digestRows_47 : decode cX11_digestRows 47 = .ok (.iload 4, 2) := by decide +kernel
theorem dX11_digestRows_49 : decode cX11_digestRows 49 = .ok (.iaload, 1) := by decide +kernel
theorem dX11_digestRows_50 : decode cX11_digestRows 50 = .ok (.i2l, 1) := by decide +kernel
theorem dX11_digestRows_51 : decode cX11_digestRows 51 = .ok (.ladd, 1) := by decide +kernel
theorem dX11_digestRows_52 : decode cX11_digestRows 52 = .ok (.lstore_n 0, 1) := by decide +kernel
theorem dX11_digestRows_53 : decode cX11_digestRows 53 = .ok (.iinc 4 1, 3) := by decide +kernel
theorem dX11_digestRows_56 : decode cX11_digestRows 56 = .ok (.goto (-31), 3) := by decide +kernel
theorem dX11_digestRows_59 : decode cX11_digestRows 59 = .ok (.iinc 3 1, 3) := by decide +kernel
theorem dX11_digestRows_62 : decode cX11_digestRows 62 = .ok (.goto (-60), 3) := by decide +kernel
theorem dX11_digestRows_65 : decode cX11_digestRows 65 = .ok (.lload_n 0, 1) := by decide +kernel
theorem dX11_digestRows_66 : decode cX11_digestRows 66 = .ok (.lreturn, 1) := by decide +kernel
end
section
theorem dX12_init_0 : decode cX12_init 0 = .ok (.aload_n 0, 1) := by decide +kernel
theorem dX12_init_1 : decode cX12_init 1 = .ok (.invokespecial 1, 3) := by decide +kernel
theorem dX12_init_4 : decode cX12_init 4 = .ok (.aload_n 0, 1) := by decide +kernel
theorem dX12_init_5 : decode cX12_init 5 = .ok (.sipush 152, 3) := by decide +kernel
theorem dX12_init_8 : decode cX12_init 8 = .ok (.newarray .int, 2) := by decide +kernel
theorem dX12_init_10 : decode cX12_init 10 = .ok (.putfield 7, 3) := by decide +kernel
theorem dX12_init_13 : decode cX12_init 13 = .ok (.aload_n 0, 1) := by decide +kernel
theorem dX12_init_14 : decode cX12_init 14 = .ok (.iconst 5, 1) := by decide +kernel
theorem dX12_init_15 : decode cX12_init 15 = .ok (.newarray .int, 2) := by decide +kernel
theorem dX12_init_17 : decode cX12_init 17 = .ok (.putfield 13, 3) := by decide +kernel
theorem dX12_init_20 : decode cX12_init 20 = .ok (.aload_n 0, 1) := by decide +kernel
theorem dX12_init_21 : decode cX12_init 21 = .ok (.sipush 216, 3) := by decide +kernel
theorem dX12_init_24 : decode cX12_init 24 = .ok (.newarray .long, 2) := by decide +kernel
theorem dX12_init_26 : decode cX12_init 26 = .ok (.putfield 16, 3) := by decide +kernel
theorem dX12_init_29 : decode cX12_init 29 = .ok (.aload_n 0, 1) := by decide +kernel
theorem dX12_init_30 : decode cX12_init 30 = .ok (.bipush 6, 2) := by decide +kernel
theorem dX12_init_32 : decode cX12_init 32 = .ok (.newarray .int, 2) := by decide +kernel
theorem dX12_init_34 : decode cX12_init 34 = .ok (.dup, 1) := by decide +kernel
theorem dX12_init_35 : decode cX12_init 35 = .ok (.iconst 0, 1) := by decide +kernel
theorem dX12_init_36 : decode cX12_init 36 = .ok (.iconst (-1), 1) := by decide +kernel
theorem dX12_init_37 : decode cX12_init 37 = .ok (.iastore, 1) := by decide +kernel
theorem dX12_init_38 : decode cX12_init 38 = .ok (.dup, 1) := by decide +kernel
theorem dX12_init_39 : decode cX12_init 39 = .ok (.iconst 1, 1) := by decide +kernel
theorem dX12_init_40 : decode cX12_init 40 = .ok (.iconst (-1), 1) := by decide +kernel
theorem dX12_init_41 : decode cX12_init 41 = .ok (.iastore, 1) := by decide +kernel
theorem dX12_init_42 : decode cX12_init 42 = .ok (.dup, 1) := by decide +kernel
theorem dX12_init_43 : decode cX12_init 43 = .ok (.iconst 2, 1) := by decide +kernel
theorem dX12_init_44 : decode cX12_init 44 = .ok (.iconst (-1), 1) := by decide +kernel
theorem dX12_init_45 : decode cX12_init 45 = .ok (.iastore, 1) := by decide +kernel
theorem dX12_init_46 : decode cX12_init 46 = .ok (.dup, 1) := by decide +kernel
theorem dX12_init_47 : decode cX12_init 47 = .ok (.iconst 3, 1) := by decide +kernel
theorem dX12_init_48 : decode cX12_init 48 = .ok (.iconst (-1), 1) := by decide +kernel
theorem dX12_init_49 : decode cX12_init 49 = .ok (.iastore, 1) := by decide +kernel
theorem dX12_init_50 : decode cX12_init 50 = .ok (.dup, 1) := by decide +kernel
theorem dX12_init_51 : decode cX12_init 51 = .ok (.iconst 4, 1) := by decide +kernel
theorem dX12_init_52 : decode cX12_init 52 = .ok (.iconst (-1), 1) := by decide +kernel
theorem dX12_init_53 : decode cX12_init 53 = .ok (.iastore, 1) := by decide +kernel
theorem dX12_init_54 : decode cX12_init 54 = .ok (.dup, 1) := by decide +kernel
theorem dX12_init_55 : decode cX12_init 55 = .ok (.iconst 5, 1) := by decide +kernel
theorem dX12_init_56 : decode cX12_init 56 = .ok (.iconst (-1), 1) := by decide +kernel
theorem dX12_init_57 : decode cX12_init 57 = .ok (.iastore, 1) := by decide +kernel
theorem dX12_init_58 : decode cX12_init 58 = .ok (.putfield 20, 3) := by decide +kernel
theorem dX12_init_61 : decode cX12_init 61 = .ok (.aload_n 0, 1) := by decide +kernel
theorem dX12_init_62 : decode cX12_init 62 = .ok (.sipush 240, 3) := by decide +kernel
theorem dX12_init_65 : decode cX12_init 65 = .ok (.newarray .int, 2) := by decide +kernel
theorem dX12_init_67 : decode cX12_init 67 = .ok (.putfield 23, 3) := by decide +kernel
theorem dX12_init_70 : decode cX12_init 70 = .ok (.aload_n 0, 1) := by decide +kernel
theorem dX12_init_71 : decode cX12_init 71 = .ok (.iconst 4, 1) := by decide +kernel
theorem dX12_init_72 : decode cX12_init 72 = .ok (.newarray .int, 2) := by decide +kernel
theorem dX12_init_74 : decode cX12_init 74 = .ok (.dup, 1) := by decide +kernel
theorem dX12_init_75 : decode cX12_init 75 = .ok (.iconst 0, 1) := by decide +kernel
theorem dX12_init_76 : decode cX12_init 76 = .ok (.iconst (-1), 1) := by decide +kernel
theorem dX12_init_77 : decode cX12_init 77 = .ok (.iastore, 1) := by decide +kernel
theorem dX12_init_78 : decode cX12_init 78 = .ok (.dup, 1) := by decide +kernel
theorem dX12_init_79 : decode cX12_init 79 = .ok (.iconst 1, 1) := by decide +kernel
theorem dX12_init_80 : decode cX12_init 80 = .ok (.iconst (-1), 1) := by decide +kernel
theorem dX12_init_81 : decode cX12_init 81 = .ok (.iastore, 1) := by decide +kernel
theorem dX12_init_82 : decode cX12_init 82 = .ok (.dup, 1) := by decide +kernel
theorem dX12_init_83 : decode cX12_init 83 = .ok (.iconst 2, 1) := by decide +kernel
theorem dX12_init_84 : decode cX12_init 84 = .ok (.iconst (-1), 1) := by decide +kernel
theorem dX12_init_85 : decode cX12_init 85 = .ok (.iastore, 1) := by decide +kernel
theorem dX12_init_86 : decode cX12_init 86 = .ok (.dup, 1) := by decide +kernel
theorem dX12_init_87 : decode cX12_init 87 = .ok (.iconst 3, 1) := by decide +kernel
theorem dX12_init_88 : decode cX12_init 88 = .ok (.iconst (-1), 1) := by decide +kernel
theorem dX12_init_89 : decode cX12_init 89 = .ok (.iastore, 1) := by decide +kernel
theorem dX12_init_90 : decode cX12_init 90 = .ok (.putfield 26, 3) := by decide +kernel
theorem dX12_init_93 : decode cX12_init 93 = .ok (.aload_n 0, 1) := by decide +kernel
theorem dX12_init_94 : decode cX12_init 94 = .ok (.sipush 240, 3) := by decide +kernel
theorem dX12_init_97 : decode cX12_init 97 = .ok (.newarray .int, 2) := by decide +kernel
theorem dX12_init_99 : decode cX12_init 99 = .ok (.putfield 29, 3) := by decide +kernel
theorem dX12_init_102 : decode cX12_init 102 = .ok (.aload_n 0, 1) := by decide +kernel
theorem dX12_init_103 : decode cX12_init 103 = .ok (.lconst 1, 1) := by decide +kernel
theorem dX12_init_104 : decode cX12_init 104 = .ok (.putfield 32, 3) := by decide +kernel
theorem dX12_init_107 : decode cX12_init 107 = .ok (.aload_n 0, 1) := by decide +kernel
theorem dX12_init_108 : decode cX12_init 108 = .ok (.bipush 6, 2) := by decide +kernel
theorem dX12_init_110 : decode cX12_init 110 = .ok (.newarray .int, 2) := by decide +kernel
theorem dX12_init_112 : decode cX12_init 112 = .ok (.putfield 36, 3) := by decide +kernel
theorem dX12_init_115 : decode cX12_init 115 = .ok (.aload_n 0, 1) := by decide +kernel
theorem dX12_init_116 : decode cX12_init 116 = .ok (.bipush 10, 2) := by decide +kernel
theorem dX12_init_118 : decode cX12_init 118 = .ok (.newarray .int, 2) := by decide +kernel
theorem dX12_init_120 : decode cX12_init 120 = .ok (.putfield 39, 3) := by decide +kernel
theorem dX12_init_123 : decode cX12_init 123 = .ok (.aload_n 0, 1) := by decide +kernel
theorem dX12_init_124 : decode cX12_init 124 = .ok (.sipush 216, 3) := by decide +kernel
theorem dX12_init_127 : decode cX12_init 127 = .ok (.newarray .int, 2) := by decide +kernel
theorem dX12_init_129 : decode cX12_init 129 = .ok (.putfield 42, 3) := by decide +kernel
theorem dX12_init_132 : decode cX12_init 132 = .ok (.aload_n 0, 1) := by decide +kernel
theorem dX12_init_133 : decode cX12_init 133 = .ok (.sipush 216, 3) := by decide +kernel
theorem dX12_init_136 : decode cX12_init 136 = .ok (.newarray .long, 2) := by decide +kernel
theorem dX12_init_138 : decode cX12_init 138 = .ok (.putfield 45, 3) := by decide +kernel
theorem dX12_init_141 : decode cX12_init 141 = .ok (.iconst 1, 1) := by decide +kernel
theorem dX12_init_142 : decode cX12_init 142 = .ok (.istore_n 1, 1) := by decide +kernel
theorem dX12_init_143 : decode cX12_init 143 = .ok (.iload_n 1, 1) := by decide +kernel
theorem dX12_init_144 : decode cX12_init 144 = .ok (.iconst 4, 1) := by decide +kernel
theorem dX12_init_145 : decode cX12_init 145 = .ok (.if_icmp .ge 21, 3) := by decide +kernel
theorem dX12_init_148 : decode cX12_init 148 = .ok (.aload_n 0, 1) := by decide +kernel
theorem dX12_init_149 : decode cX12_init 149 = .ok (.getfield 7, 3) := by decide +kernel
theorem dX12_init_152 : decode cX12_init 152 = .ok (.bipush 38, 2) := by decide +kernel
theorem dX12_init_154 : decode cX12_init 154 = .ok (.iload_n 1, 1) := by decide +kernel
theorem dX12_init_155 : decode cX12_init 155 = .ok (.imul, 1) := by decide +kernel
theorem dX12_init_156 : decode cX12_init 156 = .ok (.iconst 0, 1) := by decide +kernel
theorem dX12_init_157 : decode cX12_init 157 = .ok (.iadd, 1) := by decide +kernel
theorem dX12_init_158 : decode cX12_init 158 = .ok (.iconst (-1), 1) := by decide +kernel
theorem dX12_init_159 : decode cX12_init 159 = .ok (.iastore, 1) := by decide +kernel
theorem dX12_init_160 : decode cX12_init 160 = .ok (.iinc 1 1, 3) := by decide +kernel
theorem dX12_init_163 : decode cX12_init 163 = .ok (.goto (-20), 3) := by decide +kernel
theorem dX12_init_166 : decode cX12_init 166 = .ok (.return_, 1) := by decide +kernel
theorem dX12_in_0 : decode cX12_in 0 = .ok (.lload_n 0, 1) := by decide +kernel
theorem dX12_in_1 : decode cX12_in 1 = .ok (.lload_n 2, 1) := by decide +kernel
theorem dX12_in_2 : decode cX12_in 2 = .ok (.lcmp, 1) := by decide +kernel
theorem dX12_in_3 : decode cX12_in 3 = .ok (.ifCond .lt 14, 3) := by decide +kernel
theorem dX12_in_6 : decode cX12_in 6 = .ok (.lload_n 0, 1) := by decide +kernel
theorem dX12_in_7 : decode cX12_in 7 = .ok (.lload 4, 2) := by decide +kernel
theorem dX12_in_9 : decode cX12_in 9 = .ok (.lcmp, 1) := by decide +kernel
theorem dX12_in_10 : decode cX12_in 10 = .ok (.ifCond .gt 7, 3) := by decide +kernel
theorem dX12_in_13 : decode cX12_in 13 = .ok (.iconst 1, 1) := by decide +kernel
theorem dX12_in_14 : decode cX12_in 14 = .ok (.goto 4, 3) := by decide +kernel
theorem dX12_in_17 : decode cX12_in 17 = .ok (.iconst 0, 1) := by decide +kernel
theorem dX12_in_18 : decode cX12_in 18 = .ok (.ireturn, 1) := by decide +kernel
theorem dX12_find_0 : decode cX12_find 0 = .ok (.aload_n 0, 1) := by decide +kernel
theorem dX12_find_1 : decode cX12_find 1 = .ok (.iload_n 1, 1) := by decide +kernel
theorem dX12_find_2 : decode cX12_find 2 = .ok (.putfield 48, 3) := by decide +kernel
theorem dX12_find_5 : decode cX12_find 5 = .ok (.aload_n 0, 1) := by decide +kernel
theorem dX12_find_6 : decode cX12_find 6 = .ok (.getfield 36, 3) := by decide +kernel
theorem dX12_find_9 : decode cX12_find 9 = .ok (.iload_n 1, 1) := by decide +kernel
theorem dX12_find_10 : decode cX12_find 10 = .ok (.dup2, 1) := by decide +kernel
theorem dX12_find_11 : decode cX12_find 11 = .ok (.iaload, 1) := by decide +kernel
theorem dX12_find_12 : decode cX12_find 12 = .ok (.iconst 1, 1) := by decide +kernel
theorem dX12_find_13 : decode cX12_find 13 = .ok (.iadd, 1) := by decide +kernel
theorem dX12_find_14 : decode cX12_find 14 = .ok (.iastore, 1) := by decide +kernel
theorem dX12_find_15 : decode cX12_find 15 = .ok (.bipush (-3), 2) := by decide +kernel
theorem dX12_find_17 : decode cX12_find 17 = .ok (.ireturn, 1) := by decide +kernel
theorem dX12_tell_0 : decode cX12_tell 0 = .ok (.aload_n 0, 1) := by decide +kernel
theorem dX12_tell_1 : decode cX12_tell 1 = .ok (.iload_n 1, 1) := by decide +kernel
theorem dX12_tell_2 : decode cX12_tell 2 = .ok (.putfield 52, 3) := by decide +kernel
theorem dX12_tell_5 : decode cX12_tell 5 = .ok (.iconst 1, 1) := by decide +kernel
theorem dX12_tell_6 : decode cX12_tell 6 = .ok (.ireturn, 1) := by decide +kernel
theorem dX12_isRow_0 : decode cX12_isRow 0 = .ok (.iload_n 0, 1) := by decide +kernel
theorem dX12_isRow_1 : decode cX12_isRow 1 = .ok (.i2l, 1) := by decide +kernel
theorem dX12_isRow_2 : decode cX12_isRow 2 = .ok (.lconst 0, 1) := by decide +kernel
theorem dX12_isRow_3 : decode cX12_isRow 3 = .ok (.ldc2_w 55, 3) := by decide +kernel
theorem dX12_isRow_6 : decode cX12_isRow 6 = .ok (.invokestatic 57, 3) := by decide +kernel
theorem dX12_isRow_9 : decode cX12_isRow 9 = .ok (.ireturn, 1) := by decide +kernel
theorem dX12_isText_0 : decode cX12_isText 0 = .ok (.iload_n 0, 1) := by decide +kernel
theorem dX12_isText_1 : decode cX12_isText 1 = .ok (.i2l, 1) := by decide +kernel
theorem dX12_isText_2 : decode cX12_isText 2 = .ok (.lconst 0, 1) := by decide +kernel
theorem dX12_isText_3 : decode cX12_isText 3 = .ok (.ldc2_w 61, 3) := by decide +kernel
theorem dX12_isText_6 : decode cX12_isText 6 = .ok (.invokestatic 57, 3) := by decide +kernel
theorem dX12_isText_9 : decode cX12_isText 9 = .ok (.ireturn, 1) := by decide +kernel
theorem dX12_row_0 : decode cX12_row 0 = .ok (.iload_n 1, 1) := by decide +kernel
theorem dX12_row_1 : decode cX12_row 1 = .ok (.invokestatic 63, 3) := by decide +kernel
theorem dX12_row_4 : decode cX12_row 4 = .ok (.ifCond .eq 9, 3) := by decide +kernel
theorem dX12_row_7 : decode cX12_row 7 = .ok (.iload_n 2, 1) := by decide +kernel
theorem dX12_row_8 : decode cX12_row 8 = .ok (.bipush 40, 2) := by decide +kernel
theorem dX12_row_10 : decode cX12_row 10 = .ok (.if_icmp .le 5, 3) := by decide +kernel
theorem dX12_row_13 : decode cX12_row 13 = .ok (.iconst (-1), 1) := by decide +kernel
theorem dX12_row_14 : decode cX12_row 14 = .ok (.ireturn, 1) := by decide +kernel
theorem dX12_row_15 : decode cX12_row 15 = .ok (.iload_n 2, 1) := by decide +kernel
theorem dX12_row_16 : decode cX12_row 16 = .ok (.ifCond .ge 9, 3) := by decide +kernel
theorem dX12_row_19 : decode cX12_row 19 = .ok (.aload_n 0, 1) := by decide +kernel
theorem dX12_row_20 : decode cX12_row 20 = .ok (.iconst 5, 1) := by decide +kernel
theorem dX12_row_21 : decode cX12_row 21 = .ok (.invokevirtual 67, 3) := by decide +kernel
theorem dX12_row_24 : decode cX12_row 24 = .ok (.ireturn, 1) := by decide +kernel
theorem dX12_row_25 : decode cX12_row 25 = .ok (.aload_n 0, 1) := by decide +kernel
theorem dX12_row_26 : decode cX12_row 26 = .ok (.iload_n 1, 1) := by decide +kernel
theorem dX12_row_27 : decode cX12_row 27 = .ok (.iload_n 2, 1) := by decide +kernel
theorem dX12_row_28 : decode cX12_row 28 = .ok (.invokevirtual 71, 3) := by decide +kernel
theorem dX12_row_31 : decode cX12_row 31 = .ok (.iload_n 2, 1) := by decide +kernel
theorem dX12_row_32 : decode cX12_row 32 = .ok (.ireturn, 1) := by decide +kernel
theorem dX12_makeRow_0 : decode cX12_makeRow 0 = .ok (.aload_n 0, 1) := by decide +kernel
theorem dX12_makeRow_1 : decode cX12_makeRow 1 = .ok (.getfield 20, 3) := by decide +kernel
theorem dX12_makeRow_4 : decode cX12_makeRow 4 = .ok (.iload_n 1, 1) := by decide +kernel
theorem dX12_makeRow_5 : decode cX12_makeRow 5 = .ok (.iload_n 2, 1) := by decide +kernel
theorem dX12_makeRow_6 : decode cX12_makeRow 6 = .ok (.iastore, 1) := by decide +kernel
theorem dX12_makeRow_7 : decode cX12_makeRow 7 = .ok (.iconst 0, 1) := by decide +kernel
theorem dX12_makeRow_8 : decode cX12_makeRow 8 = .ok (.istore_n 3, 1) := by decide +kernel
theorem dX12_makeRow_9 : decode cX12_makeRow 9 = .ok (.iload_n 3, 1) := by decide +kernel
theorem dX12_makeRow_10 : decode cX12_makeRow 10 = .ok (.bipush 40, 2) := by decide +kernel
theorem dX12_makeRow_12 : decode cX12_makeRow 12 = .ok (.if_icmp .ge 21, 3) := by decide +kernel
theorem dX12_makeRow_15 : decode cX12_makeRow 15 = .ok (.aload_n 0, 1) := by decide +kernel
theorem dX12_makeRow_16 : decode cX12_makeRow 16 = .ok (.getfield 23, 3) := by decide +kernel
theorem dX12_makeRow_19 : decode cX12_makeRow 19 = .ok (.bipush 40, 2) := by decide +kernel
theorem dX12_makeRow_21 : decode cX12_makeRow 21 = .ok (.iload_n 1, 1) := by decide +kernel
theorem dX12_makeRow_22 : decode cX12_makeRow 22 = .ok (.imul, 1) := by decide +kernel
theorem dX12_makeRow_23 : decode cX12_makeRow 23 = .ok (.iload_n 3, 1) := by decide +kernel
theorem dX12_makeRow_24 : decode cX12_makeRow 24 = .ok (.iadd, 1) := by decide +kernel
theorem dX12_makeRow_25 : decode cX12_makeRow 25 = .ok (.iconst 0, 1) := by decide +kernel
theorem dX12_makeRow_26 : decode cX12_makeRow 26 = .ok (.iastore, 1) := by decide +kernel
theorem dX12_makeRow_27 : decode cX12_makeRow 27 = .ok (.iinc 3 1, 3) := by decide +kernel
theorem dX12_makeRow_30 : decode cX12_makeRow 30 = .ok (.goto (-21), 3) := by decide +kernel
theorem dX12_makeRow_33 : decode cX12_makeRow 33 = .ok (.return_, 1) := by decide +kernel
theorem dX12_refused_0 : decode cX12_refused 0 = .ok (.iload_n 1, 1) := by decide +kernel
theorem dX12_refused_1 : decode cX12_refused 1 = .ok (.invokestatic 63, 3) := by decide +kernel
theorem dX12_refused_4 : decode cX12_refused 4 = .ok (.ifCond .ne 7, 3) := by decide +kernel
theorem dX12_refused_7 : decode cX12_refused 7 = .ok (.iconst (-1), 1) := by decide +kernel
theorem dX12_refused_8 : decode cX12_refused 8 = .ok (.goto 47, 3) := by decide +kernel
theorem dX12_refused_11 : decode cX12_refused 11 = .ok (.aload_n 0, 1) := by decide +kernel
theorem dX12_refused_12 : decode cX12_refused 12 = .ok (.getfield 20, 3) := by decide +kernel
theorem dX12_refused_15 : decode cX12_refused 15 = .ok (.iload_n 1, 1) := by decide +kernel
theorem dX12_refused_16 : decode cX12_refused 16 = .ok (.iaload, 1) := by decide +kernel
theorem dX12_refused_17 : decode cX12_refused 17 = .ok (.ifCond .ge 11, 3) := by decide +kernel
theorem dX12_refused_20 : decode cX12_refused 20 = .ok (.aload_n 0, 1) := by decide +kernel
theorem dX12_refused_21 : decode cX12_refused 21 = .ok (.iconst 1, 1) := by decide +kernel
theorem dX12_refused_22 : decode cX12_refused 22 = .ok (.invokevirtual 67, 3) := by decide +kernel
theorem dX12_refused_25 : decode cX12_refused 25 = .ok (.goto 30, 3) := by decide +kernel
theorem dX12_refused_28 : decode cX12_refused 28 = .ok (.iload_n 2, 1) := by decide +kernel
theorem dX12_refused_29 : decode cX12_refused 29 = .ok (.i2l, 1) := by decide +kernel
theorem dX12_refused_30 : decode cX12_refused 30 = .ok (.lconst 0, 1) := by decide +kernel
theorem dX12_refused_31 : decode cX12_refused 31 = .ok (.aload_n 0, 1) := by decide +kernel
theorem dX12_refused_32 : decode cX12_refused 32 = .ok (.getfield 20, 3) := by decide +kernel
theorem dX12_refused_35 : decode cX12_refused 35 = .ok (.iload_n 1, 1) := by decide +kernel
theorem dX12_refused_36 : decode cX12_refused 36 = .ok (.iaload, 1) := by decide +kernel
theorem dX12_refused_37 : decode cX12_refused 37 = .ok (.iconst 1, 1) := by decide +kernel
theorem dX12_refused_38 : decode cX12_refused 38 = .ok (.isub, 1) := by decide +kernel
theorem dX12_refused_39 : decode cX12_refused 39 = .ok (.i2l, 1) := by decide +kernel
theorem dX12_refused_40 : decode cX12_refused 40 = .ok (.invokestatic 57, 3) := by decide +kernel
theorem dX12_refused_43 : decode cX12_refused 43 = .ok (.ifCond .eq 7, 3) := by decide +kernel
theorem dX12_refused_46 : decode cX12_refused 46 = .ok (.iconst 0, 1) := by decide +kernel
theorem dX12_refused_47 : decode cX12_refused 47 = .ok (.goto 8, 3) := by decide +kernel
theorem dX12_refused_50 : decode cX12_refused 50 = .ok (.aload_n 0, 1) := by decide +kernel
theorem dX12_refused_51 : decode cX12_refused 51 = .ok (.iconst 2, 1) := by decide +kernel
theorem dX12_refused_52 : decode cX12_refused 52 = .ok (.invokevirtual 67, 3) := by decide +kernel
theorem dX12_refused_55 : decode cX12_refused 55 = .ok (.ireturn, 1) := by decide +kernel
theorem dX12_lay_0 : decode cX12_lay 0 = .ok (.aload_n 0, 1) := by decide +kernel
theorem dX12_lay_1 : decode cX12_lay 1 = .ok (.iload_n 1, 1) := by decide +kernel
theorem dX12_lay_2 : decode cX12_lay 2 = .ok (.iload_n 2, 1) := by decide +kernel
theorem dX12_lay_3 : decode cX12_lay 3 = .ok (.invokevirtual 75, 3) := by decide +kernel
theorem dX12_lay_6 : decode cX12_lay 6 = .ok (.istore 4, 2) := by decide +kernel
theorem dX12_lay_8 : decode cX12_lay 8 = .ok (.iload 4, 2) := by decide +kernel
theorem dX12_lay_10 : decode cX12_lay 10 = .ok (.ifCond .eq 6, 3) := by decide +kernel
theorem dX12_lay_13 : decode cX12_lay 13 = .ok (.iload 4, 2) := by decide +kernel
theorem dX12_lay_15 : decode cX12_lay 15 = .ok (.ireturn, 1) := by decide +kernel
theorem dX12_lay_16 : decode cX12_lay 16 = .ok (.aload_n 0, 1) := by decide +kernel
theorem dX12_lay_17 : decode cX12_lay 17 = .ok (.getfield 23, 3) := by decide +kernel
theorem dX12_lay_20 : decode cX12_lay 20 = .ok (.bipush 40, 2) := by decide +kernel
theorem dX12_lay_22 : decode cX12_lay 22 = .ok (.iload_n 1, 1) := by decide +kernel
theorem dX12_lay_23 : decode cX12_lay 23 = .ok (.imul, 1) := by decide +kernel
theorem dX12_lay_24 : decode cX12_lay 24 = .ok (.iload_n 2, 1) := by decide +kernel
theorem dX12_lay_25 : decode cX12_lay 25 = .ok (.iadd, 1) := by decide +kernel
theorem dX12_lay_26 : decode cX12_lay 26 = .ok (.iaload, 1) := by decide +kernel
theorem dX12_lay_27 : decode cX12_lay 27 = .ok (.istore 5, 2) := by decide +kernel
theorem dX12_lay_29 : decode cX12_lay 29 = .ok (.aload_n 0, 1) := by decide +kernel
theorem dX12_lay_30 : decode cX12_lay 30 = .ok (.getfield 23, 3) := by decide +kernel
theorem dX12_lay_33 : decode cX12_lay 33 = .ok (.bipush 40, 2) := by decide +kernel
theorem dX12_lay_35 : decode cX12_lay 35 = .ok (.iload_n 1, 1) := by decide +kernel
theorem dX12_lay_36 : decode cX12_lay 36 = .ok (.imul, 1) := by decide +kernel
theorem dX12_lay_37 : decode cX12_lay 37 = .ok (.iload_n 2, 1) := by decide +kernel
theorem dX12_lay_38 : decode cX12_lay 38 = .ok (.iadd, 1) := by decide +kernel
theorem dX12_lay_39 : decode cX12_lay 39 = .ok (.iload_n 3, 1) := by decide +kernel
theorem dX12_lay_40 : decode cX12_lay 40 = .ok (.iastore, 1) := by decide +kernel
theorem dX12_lay_41 : decode cX12_lay 41 = .ok (.aload_n 0, 1) := by decide +kernel
theorem dX12_lay_42 : decode cX12_lay 42 = .ok (.iload 5, 2) := by decide +kernel
theorem dX12_lay_44 : decode cX12_lay 44 = .ok (.invokevirtual 79, 3) := by decide +kernel
theorem dX12_lay_47 : decode cX12_lay 47 = .ok (.ireturn, 1) := by decide +kernel
theorem dX12_at_0 : decode cX12_at 0 = .ok (.aload_n 0, 1) := by decide +kernel
theorem dX12_at_1 : decode cX12_at 1 = .ok (.iload_n 1, 1) := by decide +kernel
theorem dX12_at_2 : decode cX12_at 2 = .ok (.iload_n 2, 1) := by decide +kernel
theorem dX12_at_3 : decode cX12_at 3 = .ok (.invokevirtual 75, 3) := by decide +kernel
theorem dX12_at_6 : decode cX12_at 6 = .ok (.istore_n 3, 1) := by decide +kernel
theorem dX12_at_7 : decode cX12_at 7 = .ok (.iload_n 3, 1) := by decide +kernel
theorem dX12_at_8 : decode cX12_at 8 = .ok (.ifCond .eq 7, 3) := by decide +kernel
theorem dX12_at_11 : decode cX12_at 11 = .ok (.iload_n 3, 1) := by decide +kernel
theorem dX12_at_12 : decode cX12_at 12 = .ok (.goto 18, 3) := by decide +kernel
theorem dX12_at_15 : decode cX12_at 15 = .ok (.aload_n 0, 1) := by decide +kernel
theorem dX12_at_16 : decode cX12_at 16 = .ok (.aload_n 0, 1) := by decide +kernel
theorem dX12_at_17 : decode cX12_at 17 = .ok (.getfield 23, 3) := by decide +kernel
theorem dX12_at_20 : decode cX12_at 20 = .ok (.bipush 40, 2) := by decide +kernel
theorem dX12_at_22 : decode cX12_at 22 = .ok (.iload_n 1, 1) := by decide +kernel
theorem dX12_at_23 : decode cX12_at 23 = .ok (.imul, 1) := by decide +kernel
theorem dX12_at_24 : decode cX12_at 24 = .ok (.iload_n 2, 1) := by decide +kernel
theorem dX12_at_25 : decode cX12_at 25 = .ok (.iadd, 1) := by decide +kernel
theorem dX12_at_26 : decode cX12_at 26 = .ok (.iaload, 1) := by decide +kernel
theorem dX12_at_27 : decode cX12_at 27 = .ok (.invokevirtual 79, 3) := by decide +kernel
theorem dX12_at_30 : decode cX12_at 30 = .ok (.ireturn, 1) := by decide +kernel
theorem dX12_tear_0 : decode cX12_tear 0 = .ok (.iload_n 1, 1) := by decide +kernel
theorem dX12_tear_1 : decode cX12_tear 1 = .ok (.invokestatic 63, 3) := by decide +kernel
theorem dX12_tear_4 : decode cX12_tear 4 = .ok (.ifCond .ne 5, 3) := by decide +kernel
theorem dX12_tear_7 : decode cX12_tear 7 = .ok (.iconst (-1), 1) := by decide +kernel
theorem dX12_tear_8 : decode cX12_tear 8 = .ok (.ireturn, 1) := by decide +kernel
theorem dX12_tear_9 : decode cX12_tear 9 = .ok (.aload_n 0, 1) := by decide +kernel
theorem dX12_tear_10 : decode cX12_tear 10 = .ok (.getfield 20, 3) := by decide +kernel
theorem dX12_tear_13 : decode cX12_tear 13 = .ok (.iload_n 1, 1) := by decide +kernel
theorem dX12_tear_14 : decode cX12_tear 14 = .ok (.iaload, 1) := by decide +kernel
theorem dX12_tear_15 : decode cX12_tear 15 = .ok (.ifCond .ge 9, 3) := by decide +kernel
theorem dX12_tear_18 : decode cX12_tear 18 = .ok (.aload_n 0, 1) := by decide +kernel
theorem dX12_tear_19 : decode cX12_tear 19 = .ok (.iconst 1, 1) := by decide +kernel
theorem dX12_tear_20 : decode cX12_tear 20 = .ok (.invokevirtual 67, 3) := by decide +kernel
theorem dX12_tear_23 : decode cX12_tear 23 = .ok (.ireturn, 1) := by decide +kernel
theorem dX12_tear_24 : decode cX12_tear 24 = .ok (.aload_n 0, 1) := by decide +kernel
theorem dX12_tear_25 : decode cX12_tear 25 = .ok (.getfield 20, 3) := by decide +kernel
theorem dX12_tear_28 : decode cX12_tear 28 = .ok (.iload_n 1, 1) := by decide +kernel
theorem dX12_tear_29 : decode cX12_tear 29 = .ok (.iconst (-1), 1) := by decide +kernel
theorem dX12_tear_30 : decode cX12_tear 30 = .ok (.iastore, 1) := by decide +kernel
theorem dX12_tear_31 : decode cX12_tear 31 = .ok (.iconst 1, 1) := by decide +kernel
theorem dX12_tear_32 : decode cX12_tear 32 = .ok (.ireturn, 1) := by decide +kernel
theorem dX12_isSpan_0 : decode cX12_isSpan 0 = .ok (.iload_n 2, 1) := by decide +kernel
theorem dX12_isSpan_1 : decode cX12_isSpan 1 = .ok (.ifCond .lt 23, 3) := by decide +kernel
theorem dX12_isSpan_4 : decode cX12_isSpan 4 = .ok (.iload_n 2, 1) := by decide +kernel
theorem dX12_isSpan_5 : decode cX12_isSpan 5 = .ok (.i2l, 1) := by decide +kernel
theorem dX12_isSpan_6 : decode cX12_isSpan 6 = .ok (.iload_n 3, 1) := by decide +kernel
theorem dX12_isSpan_7 : decode cX12_isSpan 7 = .ok (.i2l, 1) := by decide +kernel
theorem dX12_isSpan_8 : decode cX12_isSpan 8 = .ok (.ladd, 1) := by decide +kernel
theorem dX12_isSpan_9 : decode cX12_isSpan 9 = .ok (.aload_n 0, 1) := by decide +kernel
theorem dX12_isSpan_10 : decode cX12_isSpan 10 = .ok (.getfield 20, 3) := by decide +kernel
theorem dX12_isSpan_13 : decode cX12_isSpan 13 = .ok (.iload_n 1, 1) := by decide +kernel
theorem dX12_isSpan_14 : decode cX12_isSpan 14 = .ok (.iaload, 1) := by decide +kernel
theorem dX12_isSpan_15 : decode cX12_isSpan 15 = .ok (.i2l, 1) := by decide +kernel
theorem dX12_isSpan_16 : decode cX12_isSpan 16 = .ok (.lcmp, 1) := by decide +kernel
theorem dX12_isSpan_17 : decode cX12_isSpan 17 = .ok (.ifCond .gt 7, 3) := by decide +kernel
theorem dX12_isSpan_20 : decode cX12_isSpan 20 = .ok (.iconst 1, 1) := by decide +kernel
theorem dX12_isSpan_21 : decode cX12_isSpan 21 = .ok (.goto 4, 3) := by decide +kernel
theorem dX12_isSpan_24 : decode cX12_isSpan 24 = .ok (.iconst 0, 1) := by decide +kernel
theorem dX12_isSpan_25 : decode cX12_isSpan 25 = .ok (.ireturn, 1) := by decide +kernel
theorem dX12_copy_0 : decode cX12_copy 0 = .ok (.iload_n 1, 1) := by decide +kernel
theorem dX12_copy_1 : decode cX12_copy 1 = .ok (.invokestatic 63, 3) := by decide +kernel
theorem dX12_copy_4 : decode cX12_copy 4 = .ok (.ifCond .eq 10, 3) := by decide +kernel
theorem dX12_copy_7 : decode cX12_copy 7 = .ok (.iload_n 3, 1) := by decide +kernel
theorem dX12_copy_8 : decode cX12_copy 8 = .ok (.invokestatic 63, 3) := by decide +kernel
theorem dX12_copy_11 : decode cX12_copy 11 = .ok (.ifCond .ne 5, 3) := by decide +kernel
theorem dX12_copy_14 : decode cX12_copy 14 = .ok (.iconst (-1), 1) := by decide +kernel
theorem dX12_copy_15 : decode cX12_copy 15 = .ok (.ireturn, 1) := by decide +kernel
theorem dX12_copy_16 : decode cX12_copy 16 = .ok (.iload 5, 2) := by decide +kernel
theorem dX12_copy_18 : decode cX12_copy 18 = .ok (.ifCond .ge 9, 3) := by decide +kernel
theorem dX12_copy_21 : decode cX12_copy 21 = .ok (.aload_n 0, 1) := by decide +kernel
theorem dX12_copy_22 : decode cX12_copy 22 = .ok (.iconst 5, 1) := by decide +kernel
theorem dX12_copy_23 : decode cX12_copy 23 = .ok (.invokevirtual 67, 3) := by decide +kernel
theorem dX12_copy_26 : decode cX12_copy 26 = .ok (.ireturn, 1) := by decide +kernel
theorem dX12_copy_27 : decode cX12_copy 27 = .ok (.aload_n 0, 1) := by decide +kernel
theorem dX12_copy_28 : decode cX12_copy 28 = .ok (.getfield 20, 3) := by decide +kernel
theorem dX12_copy_31 : decode cX12_copy 31 = .ok (.iload_n 1, 1) := by decide +kernel
theorem dX12_copy_32 : decode cX12_copy 32 = .ok (.iaload, 1) := by decide +kernel
theorem dX12_copy_33 : decode cX12_copy 33 = .ok (.ifCond .lt 12, 3) := by decide +kernel
theorem dX12_copy_36 : decode cX12_copy 36 = .ok (.aload_n 0, 1) := by decide +kernel
theorem dX12_copy_37 : decode cX12_copy 37 = .ok (.getfield 20, 3) := by decide +kernel
theorem dX12_copy_40 : decode cX12_copy 40 = .ok (.iload_n 3, 1) := by decide +kernel
theorem dX12_copy_41 : decode cX12_copy 41 = .ok (.iaload, 1) := by decide +kernel
theorem dX12_copy_42 : decode cX12_copy 42 = .ok (.ifCond .ge 9, 3) := by decide +kernel
theorem dX12_copy_45 : decode cX12_copy 45 = .ok (.aload_n 0, 1) := by decide +kernel
theorem dX12_copy_46 : decode cX12_copy 46 = .ok (.iconst 1, 1) := by decide +kernel
theorem dX12_copy_47 : decode cX12_copy 47 = .ok (.invokevirtual 67, 3) := by decide +kernel
theorem dX12_copy_50 : decode cX12_copy 50 = .ok (.ireturn, 1) := by decide +kernel
theorem dX12_copy_51 : decode cX12_copy 51 = .ok (.aload_n 0, 1) := by decide +kernel
theorem dX12_copy_52 : decode cX12_copy 52 = .ok (.iload_n 1, 1) := by decide +kernel
theorem dX12_copy_53 : decode cX12_copy 53 = .ok (.iload_n 2, 1) := by decide +kernel
theorem dX12_copy_54 : decode cX12_copy 54 = .ok (.iload 5, 2) := by decide +kernel
theorem dX12_copy_56 : decode cX12_copy 56 = .ok (.invokevirtual 82, 3) := by decide +kernel
theorem dX12_copy_59 : decode cX12_copy 59 = .ok (.ifCond .eq 15, 3) := by decide +kernel
theorem dX12_copy_62 : decode cX12_copy 62 = .ok (.aload_n 0, 1) := by decide +kernel
theorem dX12_copy_63 : decode cX12_copy 63 = .ok (.iload_n 3, 1) := by decide +kernel
theorem dX12_copy_64 : decode cX12_copy 64 = .ok (.iload 4, 2) := by decide +kernel
theorem dX12_copy_66 : decode cX12_copy 66 = .ok (.iload 5, 2) := by decide +kernel
theorem dX12_copy_68 : decode cX12_copy 68 = .ok (.invokevirtual 82, 3) := by decide +kernel
theorem dX12_copy_71 : decode cX12_copy 71 = .ok (.ifCond .ne 9, 3) := by decide +kernel
theorem dX12_copy_74 : decode cX12_copy 74 = .ok (.aload_n 0, 1) := by decide +kernel
theorem dX12_copy_75 : decode cX12_copy 75 = .ok (.iconst 2, 1) := by decide +kernel
theorem dX12_copy_76 : decode cX12_copy 76 = .ok (.invokevirtual 67, 3) := by decide +kernel
theorem dX12_copy_79 : decode cX12_copy 79 = .ok (.ireturn, 1) := by decide +kernel
theorem dX12_copy_80 : decode cX12_copy 80 = .ok (.iload_n 2, 1) := by decide +kernel
theorem dX12_copy_81 : decode cX12_copy 81 = .ok (.iload 4, 2) := by decide +kernel
theorem dX12_copy_83 : decode cX12_copy 83 = .ok (.if_icmp .ge 7, 3) := by decide +kernel
theorem dX12_copy_86 : decode cX12_copy 86 = .ok (.iconst 1, 1) := by decide +kernel
theorem dX12_copy_87 : decode cX12_copy 87 = .ok (.goto 4, 3) := by decide +kernel
theorem dX12_copy_90 : decode cX12_copy 90 = .ok (.iconst 0, 1) := by decide +kernel
theorem dX12_copy_91 : decode cX12_copy 91 = .ok (.istore 6, 2) := by decide +kernel
theorem dX12_copy_93 : decode cX12_copy 93 = .ok (.iconst 0, 1) := by decide +kernel
theorem dX12_copy_94 : decode cX12_copy 94 = .ok (.istore 7, 2) := by decide +kernel
theorem dX12_copy_96 : decode cX12_copy 96 = .ok (.iload 7, 2) := by decide +kernel
theorem dX12_copy_98 : decode cX12_copy 98 = .ok (.iload 5, 2) := by decide +kernel
theorem dX12_copy_100 : decode cX12_copy 100 = .ok (.if_icmp .ge 57, 3) := by decide +kernel
theorem dX12_copy_103 : decode cX12_copy 103 = .ok (.iload 6, 2) := by decide +kernel
theorem dX12_copy_105 : decode cX12_copy 105 = .ok (.ifCond .eq 13, 3) := by decide +kernel
theorem dX12_copy_108 : decode cX12_copy 108 = .ok (.iload 5, 2) := by decide +kernel
theorem dX12_copy_110 : decode cX12_copy 110 = .ok (.iconst 1, 1) := by decide +kernel
theorem dX12_copy_111 : decode cX12_copy 111 = .ok (.isub, 1) := by decide +kernel
theorem dX12_copy_112 : decode cX12_copy 112 = .ok (.iload 7, 2) := by decide +kernel
theorem dX12_copy_114 : decode cX12_copy 114 = .ok (.isub, 1) := by decide +kernel
theorem dX12_copy_115 : decode cX12_copy 115 = .ok (.goto 5, 3) := by decide +kernel
theorem dX12_copy_118 : decode cX12_copy 118 = .ok (.iload 7, 2) := by decide +kernel
theorem dX12_copy_120 : decode cX12_copy 120 = .ok (.istore 8, 2) := by decide +kernel
theorem dX12_copy_122 : decode cX12_copy 122 = .ok (.aload_n 0, 1) := by decide +kernel
theorem dX12_copy_123 : decode cX12_copy 123 = .ok (.getfield 23, 3) := by decide +kernel
theorem dX12_copy_126 : decode cX12_copy 126 = .ok (.bipush 40, 2) := by decide +kernel
theorem dX12_copy_128 : decode cX12_copy 128 = .ok (.iload_n 3, 1) := by decide +kernel
theorem dX12_copy_129 : decode cX12_copy 129 = .ok (.imul, 1) := by decide +kernel
theorem dX12_copy_130 : decode cX12_copy 130 = .ok (.iload 4, 2) := by decide +kernel
theorem dX12_copy_132 : decode cX12_copy 132 = .ok (.iadd, 1) := by decide +kernel
theorem dX12_copy_133 : decode cX12_copy 133 = .ok (.iload 8, 2) := by decide +kernel
theorem dX12_copy_135 : decode cX12_copy 135 = .ok (.iadd, 1) := by decide +kernel
theorem dX12_copy_136 : decode cX12_copy 136 = .ok (.aload_n 0, 1) := by decide +kernel
theorem dX12_copy_137 : decode cX12_copy 137 = .ok (.getfield 23, 3) := by decide +kernel
theorem dX12_copy_140 : decode cX12_copy 140 = .ok (.bipush 40, 2) := by decide +kernel
theorem dX12_copy_142 : decode cX12_copy 142 = .ok (.iload_n 1, 1) := by decide +kernel
theorem dX12_copy_143 : decode cX12_copy 143 = .ok (.imul, 1) := by decide +kernel
theorem dX12_copy_144 : decode cX12_copy 144 = .ok (.iload_n 2, 1) := by decide +kernel
theorem dX12_copy_145 : decode cX12_copy 145 = .ok (.iadd, 1) := by decide +kernel
theorem dX12_copy_146 : decode cX12_copy 146 = .ok (.iload 8, 2) := by decide +kernel
theorem dX12_copy_148 : decode cX12_copy 148 = .ok (.iadd, 1) := by decide +kernel
theorem dX12_copy_149 : decode cX12_copy 149 = .ok (.iaload, 1) := by decide +kernel
theorem dX12_copy_150 : decode cX12_copy 150 = .ok (.iastore, 1) := by decide +kernel
theorem dX12_copy_151 : decode cX12_copy 151 = .ok (.iinc 7 1, 3) := by decide +kernel
theorem dX12_copy_154 : decode cX12_copy 154 = .ok (.goto (-58), 3) := by decide +kernel
theorem dX12_copy_157 : decode cX12_copy 157 = .ok (.iconst 1, 1) := by decide +kernel
theorem dX12_copy_158 : decode cX12_copy 158 = .ok (.ireturn, 1) := by decide +kernel
theorem dX12_mean_0 : decode cX12_mean 0 = .ok (.iload_n 1, 1) := by decide +kernel
theorem dX12_mean_1 : decode cX12_mean 1 = .ok (.invokestatic 63, 3) := by decide +kernel
theorem dX12_mean_4 : decode cX12_mean 4 = .ok (.ifCond .ne 5, 3) := by decide +kernel
theorem dX12_mean_7 : decode cX12_mean 7 = .ok (.iconst (-1), 1) := by decide +kernel
theorem dX12_mean_8 : decode cX12_mean 8 = .ok (.ireturn, 1) := by decide +kernel
theorem dX12_mean_9 : decode cX12_mean 9 = .ok (.aload_n 0, 1) := by decide +kernel
theorem dX12_mean_10 : decode cX12_mean 10 = .ok (.getfield 20, 3) := by decide +kernel
theorem dX12_mean_13 : decode cX12_mean 13 = .ok (.iload_n 1, 1) := by decide +kernel
theorem dX12_mean_14 : decode cX12_mean 14 = .ok (.iaload, 1) := by decide +kernel
theorem dX12_mean_15 : decode cX12_mean 15 = .ok (.ifCond .ge 9, 3) := by decide +kernel
theorem dX12_mean_18 : decode cX12_mean 18 = .ok (.aload_n 0, 1) := by decide +kernel
theorem dX12_mean_19 : decode cX12_mean 19 = .ok (.iconst 1, 1) := by decide +kernel
theorem dX12_mean_20 : decode cX12_mean 20 = .ok (.invokevirtual 67, 3) := by decide +kernel
theorem dX12_mean_23 : decode cX12_mean 23 = .ok (.ireturn, 1) := by decide +kernel
theorem dX12_mean_24 : decode cX12_mean 24 = .ok (.aload_n 0, 1) := by decide +kernel
theorem dX12_mean_25 : decode cX12_mean 25 = .ok (.getfield 20, 3) := by decide +kernel
theorem dX12_mean_28 : decode cX12_mean 28 = .ok (.iload_n 1, 1) := by decide +kernel
theorem dX12_mean_29 : decode cX12_mean 29 = .ok (.iaload, 1) := by decide +kernel
theorem dX12_mean_30 : decode cX12_mean 30 = .ok (.ifCond .ne 9, 3) := by decide +kernel
theorem dX12_mean_33 : decode cX12_mean 33 = .ok (.aload_n 0, 1) := by decide +kernel
theorem dX12_mean_34 : decode cX12_mean 34 = .ok (.iconst 4, 1) := by decide +kernel
theorem dX12_mean_35 : decode cX12_mean 35 = .ok (.invokevirtual 67, 3) := by decide +kernel
theorem dX12_mean_38 : decode cX12_mean 38 = .ok (.ireturn, 1) := by decide +kernel
theorem dX12_mean_39 : decode cX12_mean 39 = .ok (.lconst 0, 1) := by decide +kernel
theorem dX12_mean_40 : decode cX12_mean 40 = .ok (.lstore_n 2, 1) := by decide +kernel
theorem dX12_mean_41 : decode cX12_mean 41 = .ok (.iconst 0, 1) := by decide +kernel
theorem dX12_mean_42 : decode cX12_mean 42 = .ok (.istore 4, 2) := by decide +kernel
theorem dX12_mean_44 : decode cX12_mean 44 = .ok (.iload 4, 2) := by decide +kernel
theorem dX12_mean_46 : decode cX12_mean 46 = .ok (.aload_n 0, 1) := by decide +kernel
theorem dX12_mean_47 : decode cX12_mean 47 = .ok (.getfield 20, 3) := by decide +kernel
theorem dX12_mean_50 : decode cX12_mean 50 = .ok (.iload_n 1, 1) := by decide +kernel
theorem dX12_mean_51 : decode cX12_mean 51 = .ok (.iaload, 1) := by decide +kernel
theorem dX12_mean_52 : decode cX12_mean 52 = .ok (.if_icmp .ge 25, 3) := by decide +kernel
theorem dX12_mean_55 : decode cX12_mean 55 = .ok (.lload_n 2, 1) := by decide +kernel
theorem dX12_mean_56 : decode cX12_mean 56 = .ok (.aload_n 0, 1) := by decide +kernel
theorem dX12_mean_57 : decode cX12_mean 57 = .ok (.getfield 23, 3) := by decide +kernel
theorem dX12_mean_60 : decode cX12_mean 60 = .ok (.bipush 40, 2) := by decide +kernel
theorem dX12_mean_62 : decode cX12_mean 62 = .ok (.iload_n 1, 1) := by decide +kernel
theorem dX12_mean_63 : decode cX12_mean 63 = .ok (.imul, 1) := by decide +kernel
theorem dX12_mean_64 : decode cX12_mean 64 = .ok (.iload 4, 2) := by decide +kernel
theorem dX12_mean_66 : decode cX12_mean 66 = .ok (.iadd, 1) := by decide +kernel
theorem dX12_mean_67 : decode cX12_mean 67 = .ok (.iaload, 1) := by decide +kernel
theorem dX12_mean_68 : decode cX12_mean 68 = .ok (.i2l, 1) := by decide +kernel
theorem dX12_mean_69 : decode cX12_mean 69 = .ok (.ladd, 1) := by decide +kernel
theorem dX12_mean_70 : decode cX12_mean 70 = .ok (.lstore_n 2, 1) := by decide +kernel
theorem dX12_mean_71 : decode cX12_mean 71 = .ok (.iinc 4 1, 3) := by decide +kernel
theorem dX12_mean_74 : decode cX12_mean 74 = .ok (.goto (-30), 3) := by decide +kernel
theorem dX12_mean_77 : decode cX12_mean 77 = .ok (.aload_n 0, 1) := by decide +kernel
theorem dX12_mean_78 : decode cX12_mean 78 = .ok (.lload_n 2, 1) := by decide +kernel
theorem dX12_mean_79 : decode cX12_mean 79 = .ok (.aload_n 0, 1) := by decide +kernel
theorem dX12_mean_80 : decode cX12_mean 80 = .ok (.getfield 20, 3) := by decide +kernel
theorem dX12_mean_83 : decode cX12_mean 83 = .ok (.iload_n 1, 1) := by decide +kernel
theorem dX12_mean_84 : decode cX12_mean 84 = .ok (.iaload, 1) := by decide +kernel
theorem dX12_mean_85 : decode cX12_mean 85 = .ok (.i2l, 1) := by decide +kernel
theorem dX12_mean_86 : decode cX12_mean 86 = .ok (.ldiv, 1) := by decide +kernel
theorem dX12_mean_87 : decode cX12_mean 87 = .ok (.l2i, 1) := by decide +kernel
theorem dX12_mean_88 : decode cX12_mean 88 = .ok (.invokevirtual 79, 3) := by decide +kernel
theorem dX12_mean_91 : decode cX12_mean 91 = .ok (.ireturn, 1) := by decide +kernel
theorem dX12_text_0 : decode cX12_text 0 = .ok (.iload_n 1, 1) := by decide +kernel
theorem dX12_text_1 : decode cX12_text 1 = .ok (.invokestatic 86, 3) := by decide +kernel
theorem dX12_text_4 : decode cX12_text 4 = .ok (.ifCond .eq 9, 3) := by decide +kernel
theorem dX12_text_7 : decode cX12_text 7 = .ok (.iload_n 2, 1) := by decide +kernel
theorem dX12_text_8 : decode cX12_text 8 = .ok (.bipush 60, 2) := by decide +kernel
theorem dX12_text_10 : decode cX12_text 10 = .ok (.if_icmp .le 5, 3) := by decide +kernel
theorem dX12_text_13 : decode cX12_text 13 = .ok (.iconst (-1), 1) := by decide +kernel
theorem dX12_text_14 : decode cX12_text 14 = .ok (.ireturn, 1) := by decide +kernel
theorem dX12_text_15 : decode cX12_text 15 = .ok (.iload_n 2, 1) := by decide +kernel
theorem dX12_text_16 : decode cX12_text 16 = .ok (.ifCond .ge 9, 3) := by decide +kernel
theorem dX12_text_19 : decode cX12_text 19 = .ok (.aload_n 0, 1) := by decide +kernel
theorem dX12_text_20 : decode cX12_text 20 = .ok (.iconst 5, 1) := by decide +kernel
theorem dX12_text_21 : decode cX12_text 21 = .ok (.invokevirtual 67, 3) := by decide +kernel
theorem dX12_text_24 : decode cX12_text 24 = .ok (.ireturn, 1) := by decide +kernel
theorem dX12_text_25 : decode cX12_text 25 = .ok (.aload_n 0, 1) := by decide +kernel
theorem dX12_text_26 : decode cX12_text 26 = .ok (.getfield 26, 3) := by decide +kernel
theorem dX12_text_29 : decode cX12_text 29 = .ok (.iload_n 1, 1) := by decide +kernel
theorem dX12_text_30 : decode cX12_text 30 = .ok (.iload_n 2, 1) := by decide +kernel
theorem dX12_text_31 : decode cX12_text 31 = .ok (.iastore, 1) := by decide +kernel
theorem dX12_text_32 : decode cX12_text 32 = .ok (.iconst 0, 1) := by decide +kernel
theorem dX12_text_33 : decode cX12_text 33 = .ok (.istore_n 3, 1) := by decide +kernel
theorem dX12_text_34 : decode cX12_text 34 = .ok (.iload_n 3, 1) := by decide +kernel
theorem dX12_text_35 : decode cX12_text 35 = .ok (.bipush 60, 2) := by decide +kernel
theorem dX12_text_37 : decode cX12_text 37 = .ok (.if_icmp .ge 22, 3) := by decide +kernel
theorem dX12_text_40 : decode cX12_text 40 = .ok (.aload_n 0, 1) := by decide +kernel
theorem dX12_text_41 : decode cX12_text 41 = .ok (.getfield 29, 3) := by decide +kernel
theorem dX12_text_44 : decode cX12_text 44 = .ok (.bipush 60, 2) := by decide +kernel
theorem dX12_text_46 : decode cX12_text 46 = .ok (.iload_n 1, 1) := by decide +kernel
theorem dX12_text_47 : decode cX12_text 47 = .ok (.imul, 1) := by decide +kernel
theorem dX12_text_48 : decode cX12_text 48 = .ok (.iload_n 3, 1) := by decide +kernel
theorem dX12_text_49 : decode cX12_text 49 = .ok (.iadd, 1) := by decide +kernel
theorem dX12_text_50 : decode cX12_text 50 = .ok (.bipush 32, 2) := by decide +kernel
theorem dX12_text_52 : decode cX12_text 52 = .ok (.iastore, 1) := by decide +kernel
theorem dX12_text_53 : decode cX12_text 53 = .ok (.iinc 3 1, 3) := by decide +kernel
theorem dX12_text_56 : decode cX12_text 56 = .ok (.goto (-22), 3) := by decide +kernel
theorem dX12_text_59 : decode cX12_text 59 = .ok (.iload_n 2, 1) := by decide +kernel
theorem dX12_text_60 : decode cX12_text 60 = .ok (.ireturn, 1) := by decide +kernel
theorem dX12_put_0 : decode cX12_put 0 = .ok (.iload_n 1, 1) := by decide +kernel
theorem dX12_put_1 : decode cX12_put 1 = .ok (.invokestatic 86, 3) := by decide +kernel
theorem dX12_put_4 : decode cX12_put 4 = .ok (.ifCond .ne 5, 3) := by decide +kernel
theorem dX12_put_7 : decode cX12_put 7 = .ok (.iconst (-1), 1) := by decide +kernel
theorem dX12_put_8 : decode cX12_put 8 = .ok (.ireturn, 1) := by decide +kernel
theorem dX12_put_9 : decode cX12_put 9 = .ok (.aload_n 0, 1) := by decide +kernel
theorem dX12_put_10 : decode cX12_put 10 = .ok (.getfield 26, 3) := by decide +kernel
theorem dX12_put_13 : decode cX12_put 13 = .ok (.iload_n 1, 1) := by decide +kernel
theorem dX12_put_14 : decode cX12_put 14 = .ok (.iaload, 1) := by decide +kernel
theorem dX12_put_15 : decode cX12_put 15 = .ok (.ifCond .ge 9, 3) := by decide +kernel
theorem dX12_put_18 : decode cX12_put 18 = .ok (.aload_n 0, 1) := by decide +kernel
theorem dX12_put_19 : decode cX12_put 19 = .ok (.iconst 1, 1) := by decide +kernel
theorem dX12_put_20 : decode cX12_put 20 = .ok (.invokevirtual 67, 3) := by decide +kernel
theorem dX12_put_23 : decode cX12_put 23 = .ok (.ireturn, 1) := by decide +kernel
theorem dX12_put_24 : decode cX12_put 24 = .ok (.iload_n 2, 1) := by decide +kernel
theorem dX12_put_25 : decode cX12_put 25 = .ok (.i2l, 1) := by decide +kernel
theorem dX12_put_26 : decode cX12_put 26 = .ok (.lconst 0, 1) := by decide +kernel
theorem dX12_put_27 : decode cX12_put 27 = .ok (.aload_n 0, 1) := by decide +kernel
theorem dX12_put_28 : decode cX12_put 28 = .ok (.getfield 26, 3) := by decide +kernel
theorem dX12_put_31 : decode cX12_put 31 = .ok (.iload_n 1, 1) := by decide +kernel
theorem dX12_put_32 : decode cX12_put 32 = .ok (.iaload, 1) := by decide +kernel
theorem dX12_put_33 : decode cX12_put 33 = .ok (.iconst 1, 1) := by decide +kernel
theorem dX12_put_34 : decode cX12_put 34 = .ok (.isub, 1) := by decide +kernel
theorem dX12_put_35 : decode cX12_put 35 = .ok (.i2l, 1) := by decide +kernel
theorem dX12_put_36 : decode cX12_put 36 = .ok (.invokestatic 57, 3) := by decide +kernel
theorem dX12_put_39 : decode cX12_put 39 = .ok (.ifCond .ne 9, 3) := by decide +kernel
theorem dX12_put_42 : decode cX12_put 42 = .ok (.aload_n 0, 1) := by decide +kernel
theorem dX12_put_43 : decode cX12_put 43 = .ok (.iconst 2, 1) := by decide +kernel
theorem dX12_put_44 : decode cX12_put 44 = .ok (.invokevirtual 67, 3) := by decide +kernel
theorem dX12_put_47 : decode cX12_put 47 = .ok (.ireturn, 1) := by decide +kernel
theorem dX12_put_48 : decode cX12_put 48 = .ok (.aload_n 0, 1) := by decide +kernel
theorem dX12_put_49 : decode cX12_put 49 = .ok (.getfield 29, 3) := by decide +kernel
theorem dX12_put_52 : decode cX12_put 52 = .ok (.bipush 60, 2) := by decide +kernel
theorem dX12_put_54 : decode cX12_put 54 = .ok (.iload_n 1, 1) := by decide +kernel
theorem dX12_put_55 : decode cX12_put 55 = .ok (.imul, 1) := by decide +kernel
theorem dX12_put_56 : decode cX12_put 56 = .ok (.iload_n 2, 1) := by decide +kernel
theorem dX12_put_57 : decode cX12_put 57 = .ok (.iadd, 1) := by decide +kernel
theorem dX12_put_58 : decode cX12_put 58 = .ok (.iaload, 1) := by decide +kernel
theorem dX12_put_59 : decode cX12_put 59 = .ok (.istore 4, 2) := by decide +kernel
theorem dX12_put_61 : decode cX12_put 61 = .ok (.aload_n 0, 1) := by decide +kernel
theorem dX12_put_62 : decode cX12_put 62 = .ok (.getfield 29, 3) := by decide +kernel
theorem dX12_put_65 : decode cX12_put 65 = .ok (.bipush 60, 2) := by decide +kernel
theorem dX12_put_67 : decode cX12_put 67 = .ok (.iload_n 1, 1) := by decide +kernel
theorem dX12_put_68 : decode cX12_put 68 = .ok (.imul, 1) := by decide +kernel
theorem dX12_put_69 : decode cX12_put 69 = .ok (.iload_n 2, 1) := by decide +kernel
theorem dX12_put_70 : decode cX12_put 70 = .ok (.iadd, 1) := by decide +kernel
theorem dX12_put_71 : decode cX12_put 71 = .ok (.iload_n 3, 1) := by decide +kernel
theorem dX12_put_72 : decode cX12_put 72 = .ok (.i2b, 1) := by decide +kernel
theorem dX12_put_73 : decode cX12_put 73 = .ok (.iastore, 1) := by decide +kernel
theorem dX12_put_74 : decode cX12_put 74 = .ok (.iload 4, 2) := by decide +kernel
theorem dX12_put_76 : decode cX12_put 76 = .ok (.sipush 1000, 3) := by decide +kernel
theorem dX12_put_79 : decode cX12_put 79 = .ok (.iadd, 1) := by decide +kernel
theorem dX12_put_80 : decode cX12_put 80 = .ok (.ireturn, 1) := by decide +kernel
theorem dX12_here_0 : decode cX12_here 0 = .ok (.aload_n 0, 1) := by decide +kernel
theorem dX12_here_1 : decode cX12_here 1 = .ok (.getfield 29, 3) := by decide +kernel
theorem dX12_here_4 : decode cX12_here 4 = .ok (.aload_n 0, 1) := by decide +kernel
theorem dX12_here_5 : decode cX12_here 5 = .ok (.getfield 89, 3) := by decide +kernel
theorem dX12_here_8 : decode cX12_here 8 = .ok (.aload_n 0, 1) := by decide +kernel
theorem dX12_here_9 : decode cX12_here 9 = .ok (.getfield 92, 3) := by decide +kernel
theorem dX12_here_12 : decode cX12_here 12 = .ok (.iadd, 1) := by decide +kernel
theorem dX12_here_13 : decode cX12_here 13 = .ok (.iaload, 1) := by decide +kernel
theorem dX12_here_14 : decode cX12_here 14 = .ok (.ireturn, 1) := by decide +kernel
theorem dX12_skip_0 : decode cX12_skip 0 = .ok (.aload_n 0, 1) := by decide +kernel
theorem dX12_skip_1 : decode cX12_skip 1 = .ok (.getfield 92, 3) := by decide +kernel
theorem dX12_skip_4 : decode cX12_skip 4 = .ok (.aload_n 0, 1) := by decide +kernel
theorem dX12_skip_5 : decode cX12_skip 5 = .ok (.getfield 95, 3) := by decide +kernel
theorem dX12_skip_8 : decode cX12_skip 8 = .ok (.if_icmp .ge 25, 3) := by decide +kernel
theorem dX12_skip_11 : decode cX12_skip 11 = .ok (.aload_n 0, 1) := by decide +kernel
theorem dX12_skip_12 : decode cX12_skip 12 = .ok (.invokevirtual 98, 3) := by decide +kernel
theorem dX12_skip_15 : decode cX12_skip 15 = .ok (.bipush 32, 2) := by decide +kernel
theorem dX12_skip_17 : decode cX12_skip 17 = .ok (.if_icmp .ne 16, 3) := by decide +kernel
theorem dX12_skip_20 : decode cX12_skip 20 = .ok (.aload_n 0, 1) := by decide +kernel
theorem dX12_skip_21 : decode cX12_skip 21 = .ok (.dup, 1) := by decide +kernel
theorem dX12_skip_22 : decode cX12_skip 22 = .ok (.getfield 92, 3) := by decide +kernel
theorem dX12_skip_25 : decode cX12_skip 25 = .ok (.iconst 1, 1) := by decide +kernel
theorem dX12_skip_26 : decode cX12_skip 26 = .ok (.iadd, 1) := by decide +kernel
theorem dX12_skip_27 : decode cX12_skip 27 = .ok (.putfield 92, 3) := by decide +kernel
theorem dX12_skip_30 : decode cX12_skip 30 = .ok (.goto (-30), 3) := by decide +kernel
theorem dX12_skip_33 : decode cX12_skip 33 = .ok (.return_, 1) := by decide +kernel
theorem dX12_figure_0 : decode cX12_figure 0 = .ok (.aload_n 0, 1) := by decide +kernel
theorem dX12_figure_1 : decode cX12_figure 1 = .ok (.getfield 92, 3) := by decide +kernel
theorem dX12_figure_4 : decode cX12_figure 4 = .ok (.aload_n 0, 1) := by decide +kernel
theorem dX12_figure_5 : decode cX12_figure 5 = .ok (.getfield 95, 3) := by decide +kernel
theorem dX12_figure_8 : decode cX12_figure 8 = .ok (.if_icmp .eq 24, 3) := by decide +kernel
theorem dX12_figure_11 : decode cX12_figure 11 = .ok (.aload_n 0, 1) := by decide +kernel
theorem dX12_figure_12 : decode cX12_figure 12 = .ok (.invokevirtual 98, 3) := by decide +kernel
theorem dX12_figure_15 : decode cX12_figure 15 = .ok (.i2l, 1) := by decide +kernel
theorem dX12_figure_16 : decode cX12_figure 16 = .ok (.bipush 48, 2) := by decide +kernel
theorem dX12_figure_18 : decode cX12_figure 18 = .ok (.iload_n 1, 1) := by decide +kernel
theorem dX12_figure_19 : decode cX12_figure 19 = .ok (.iadd, 1) := by decide +kernel
theorem dX12_figure_20 : decode cX12_figure 20 = .ok (.i2l, 1) := by decide +kernel
theorem dX12_figure_21 : decode cX12_figure 21 = .ok (.bipush 48, 2) := by decide +kernel
theorem dX12_figure_23 : decode cX12_figure 23 = .ok (.iload_n 2, 1) := by decide +kernel
theorem dX12_figure_24 : decode cX12_figure 24 = .ok (.iadd, 1) := by decide +kernel
theorem dX12_figure_25 : decode cX12_figure 25 = .ok (.i2l, 1) := by decide +kernel
theorem dX12_figure_26 : decode cX12_figure 26 = .ok (.invokestatic 57, 3) := by decide +kernel
theorem dX12_figure_29 : decode cX12_figure 29 = .ok (.ifCond .ne 6, 3) := by decide +kernel
theorem dX12_figure_32 : decode cX12_figure 32 = .ok (.bipush (-9), 2) := by decide +kernel
theorem dX12_figure_34 : decode cX12_figure 34 = .ok (.ireturn, 1) := by decide +kernel
theorem dX12_figure_35 : decode cX12_figure 35 = .ok (.aload_n 0, 1) := by decide +kernel
theorem dX12_figure_36 : decode cX12_figure 36 = .ok (.dup, 1) := by decide +kernel
theorem dX12_figure_37 : decode cX12_figure 37 = .ok (.getfield 92, 3) := by decide +kernel
theorem dX12_figure_40 : decode cX12_figure 40 = .ok (.iconst 1, 1) := by decide +kernel
theorem dX12_figure_41 : decode cX12_figure 41 = .ok (.iadd, 1) := by decide +kernel
theorem dX12_figure_42 : decode cX12_figure 42 = .ok (.putfield 92, 3) := by decide +kernel
theorem dX12_figure_45 : decode cX12_figure 45 = .ok (.aload_n 0, 1) := by decide +kernel
theorem dX12_figure_46 : decode cX12_figure 46 = .ok (.getfield 29, 3) := by decide +kernel
theorem dX12_figure_49 : decode cX12_figure 49 = .ok (.aload_n 0, 1) := by decide +kernel
theorem dX12_figure_50 : decode cX12_figure 50 = .ok (.getfield 89, 3) := by decide +kernel
theorem dX12_figure_53 : decode cX12_figure 53 = .ok (.aload_n 0, 1) := by decide +kernel
theorem dX12_figure_54 : decode cX12_figure 54 = .ok (.getfield 92, 3) := by decide +kernel
theorem dX12_figure_57 : decode cX12_figure 57 = .ok (.iadd, 1) := by decide +kernel
theorem dX12_figure_58 : decode cX12_figure 58 = .ok (.iconst 1, 1) := by decide +kernel
theorem dX12_figure_59 : decode cX12_figure 59 = .ok (.isub, 1) := by decide +kernel
theorem dX12_figure_60 : decode cX12_figure 60 = .ok (.iaload, 1) := by decide +kernel
theorem dX12_figure_61 : decode cX12_figure 61 = .ok (.bipush 48, 2) := by decide +kernel
theorem dX12_figure_63 : decode cX12_figure 63 = .ok (.isub, 1) := by decide +kernel
theorem dX12_figure_64 : decode cX12_figure 64 = .ok (.ireturn, 1) := by decide +kernel
theorem dX12_readsLock_0 : decode cX12_readsLock 0 = .ok (.aload_n 0, 1) := by decide +kernel
theorem dX12_readsLock_1 : decode cX12_readsLock 1 = .ok (.invokevirtual 102, 3) := by decide +kernel
theorem dX12_readsLock_4 : decode cX12_readsLock 4 = .ok (.aload_n 0, 1) := by decide +kernel
theorem dX12_readsLock_5 : decode cX12_readsLock 5 = .ok (.getfield 92, 3) := by decide +kernel
theorem dX12_readsLock_8 : decode cX12_readsLock 8 = .ok (.aload_n 0, 1) := by decide +kernel
theorem dX12_readsLock_9 : decode cX12_readsLock 9 = .ok (.getfield 95, 3) := by decide +kernel
theorem dX12_readsLock_12 : decode cX12_readsLock 12 = .ok (.if_icmp .eq 12, 3) := by decide +kernel
theorem dX12_readsLock_15 : decode cX12_readsLock 15 = .ok (.aload_n 0, 1) := by decide +kernel
theorem dX12_readsLock_16 : decode cX12_readsLock 16 = .ok (.invokevirtual 98, 3) := by decide +kernel
theorem dX12_readsLock_19 : decode cX12_readsLock 19 = .ok (.bipush 119, 2) := by decide +kernel
theorem dX12_readsLock_21 : decode cX12_readsLock 21 = .ok (.if_icmp .eq 5, 3) := by decide +kernel
theorem dX12_readsLock_24 : decode cX12_readsLock 24 = .ok (.iconst 0, 1) := by decide +kernel
theorem dX12_readsLock_25 : decode cX12_readsLock 25 = .ok (.ireturn, 1) := by decide +kernel
theorem dX12_readsLock_26 : decode cX12_readsLock 26 = .ok (.aload_n 0, 1) := by decide +kernel
theorem dX12_readsLock_27 : decode cX12_readsLock 27 = .ok (.dup, 1) := by decide +kernel
theorem dX12_readsLock_28 : decode cX12_readsLock 28 = .ok (.getfield 92, 3) := by decide +kernel
theorem dX12_readsLock_31 : decode cX12_readsLock 31 = .ok (.iconst 1, 1) := by decide +kernel
theorem dX12_readsLock_32 : decode cX12_readsLock 32 = .ok (.iadd, 1) := by decide +kernel
theorem dX12_readsLock_33 : decode cX12_readsLock 33 = .ok (.putfield 92, 3) := by decide +kernel
theorem dX12_readsLock_36 : decode cX12_readsLock 36 = .ok (.aload_n 0, 1) := by decide +kernel
theorem dX12_readsLock_37 : decode cX12_readsLock 37 = .ok (.aload_n 0, 1) := by decide +kernel
theorem dX12_readsLock_38 : decode cX12_readsLock 38 = .ok (.iconst 1, 1) := by decide +kernel
theorem dX12_readsLock_39 : decode cX12_readsLock 39 = .ok (.iconst 3, 1) := by decide +kernel
theorem dX12_readsLock_40 : decode cX12_readsLock 40 = .ok (.invokevirtual 105, 3) := by decide +kernel
theorem dX12_readsLock_43 : decode cX12_readsLock 43 = .ok (.putfield 108, 3) := by decide +kernel
theorem dX12_readsLock_46 : decode cX12_readsLock 46 = .ok (.aload_n 0, 1) := by decide +kernel
theorem dX12_readsLock_47 : decode cX12_readsLock 47 = .ok (.aload_n 0, 1) := by decide +kernel
theorem dX12_readsLock_48 : decode cX12_readsLock 48 = .ok (.getfield 108, 3) := by decide +kernel
theorem dX12_readsLock_51 : decode cX12_readsLock 51 = .ok (.bipush (-9), 2) := by decide +kernel
theorem dX12_readsLock_53 : decode cX12_readsLock 53 = .ok (.if_icmp .ne 8, 3) := by decide +kernel
theorem dX12_readsLock_56 : decode cX12_readsLock 56 = .ok (.bipush (-9), 2) := by decide +kernel
theorem dX12_readsLock_58 : decode cX12_readsLock 58 = .ok (.goto 10, 3) := by decide +kernel
theorem dX12_readsLock_61 : decode cX12_readsLock 61 = .ok (.aload_n 0, 1) := by decide +kernel
theorem dX12_readsLock_62 : decode cX12_readsLock 62 = .ok (.iconst 4, 1) := by decide +kernel
theorem dX12_readsLock_63 : decode cX12_readsLock 63 = .ok (.bipush 6, 2) := by decide +kernel
theorem dX12_readsLock_65 : decode cX12_readsLock 65 = .ok (.invokevirtual 105, 3) := by decide +kernel
theorem dX12_readsLock_68 : decode cX12_readsLock 68 = .ok (.putfield 111, 3) := by decide +kernel
theorem dX12_readsLock_71 : decode cX12_readsLock 71 = .ok (.aload_n 0, 1) := by decide +kernel
theorem dX12_readsLock_72 : decode cX12_readsLock 72 = .ok (.getfield 111, 3) := by decide +kernel
theorem dX12_readsLock_75 : decode cX12_readsLock 75 = .ok (.bipush (-9), 2) := by decide +kernel
theorem dX12_readsLock_77 : decode cX12_readsLock 77 = .ok (.if_icmp .eq 7, 3) := by decide +kernel
theorem dX12_readsLock_80 : decode cX12_readsLock 80 = .ok (.iconst 1, 1) := by decide +kernel
theorem dX12_readsLock_81 : decode cX12_readsLock 81 = .ok (.goto 4, 3) := by decide +kernel
theorem dX12_readsLock_84 : decode cX12_readsLock 84 = .ok (.iconst 0, 1) := by decide +kernel
theorem dX12_readsLock_85 : decode cX12_readsLock 85 = .ok (.ireturn, 1) := by decide +kernel
theorem dX12_kindOfLetter_0 : decode cX12_kindOfLetter 0 = .ok (.iload_n 0, 1) := by decide +kernel
theorem dX12_kindOfLetter_1 : decode cX12_kindOfLetter 1 = .ok (.bipush 112, 2) := by decide +kernel
theorem dX12_kindOfLetter_3 : decode cX12_kindOfLetter 3 = .ok (.if_icmp .ne 7, 3) := by decide +kernel
theorem dX12_kindOfLetter_6 : decode cX12_kindOfLetter 6 = .ok (.iconst 0, 1) := by decide +kernel
theorem dX12_kindOfLetter_7 : decode cX12_kindOfLetter 7 = .ok (.goto 55, 3) := by decide +kernel
theorem dX12_kindOfLetter_10 : decode cX12_kindOfLetter 10 = .ok (.iload_n 0, 1) := by decide +kernel
theorem dX12_kindOfLetter_11 : decode cX12_kindOfLetter 11 = .ok (.bipush 101, 2) := by decide +kernel
theorem dX12_kindOfLetter_13 : decode cX12_kindOfLetter 13 = .ok (.if_icmp .ne 7, 3) := by decide +kernel
theorem dX12_kindOfLetter_16 : decode cX12_kindOfLetter 16 = .ok (.iconst 1, 1) := by decide +kernel
theorem dX12_kindOfLetter_17 : decode cX12_kindOfLetter 17 = .ok (.goto 45, 3) := by decide +kernel
theorem dX12_kindOfLetter_20 : decode cX12_kindOfLetter 20 = .ok (.iload_n 0, 1) := by decide +kernel
theorem dX12_kindOfLetter_21 : decode cX12_kindOfLetter 21 = .ok (.bipush 97, 2) := by decide +kernel
theorem dX12_kindOfLetter_23 : decode cX12_kindOfLetter 23 = .ok (.if_icmp .ne 7, 3) := by decide +kernel
theorem dX12_kindOfLetter_26 : decode cX12_kindOfLetter 26 = .ok (.iconst 2, 1) := by decide +kernel
theorem dX12_kindOfLetter_27 : decode cX12_kindOfLetter 27 = .ok (.goto 35, 3) := by decide +kernel
theorem dX12_kindOfLetter_30 : decode cX12_kindOfLetter 30 = .ok (.iload_n 0, 1) := by decide +kernel
theorem dX12_kindOfLetter_31 : decode cX12_kindOfLetter 31 = .ok (.bipush 98, 2) := by decide +kernel
theorem dX12_kindOfLetter_33 : decode cX12_kindOfLetter 33 = .ok (.if_icmp .ne 7, 3) := by decide +kernel
theorem dX12_kindOfLetter_36 : decode cX12_kindOfLetter 36 = .ok (.iconst 3, 1) := by decide +kernel
theorem dX12_kindOfLetter_37 : decode cX12_kindOfLetter 37 = .ok (.goto 25, 3) := by decide +kernel
theorem dX12_kindOfLetter_40 : decode cX12_kindOfLetter 40 = .ok (.iload_n 0, 1) := by decide +kernel
theorem dX12_kindOfLetter_41 : decode cX12_kindOfLetter 41 = .ok (.bipush 111, 2) := by decide +kernel
theorem dX12_kindOfLetter_43 : decode cX12_kindOfLetter 43 = .ok (.if_icmp .ne 7, 3) := by decide +kernel
theorem dX12_kindOfLetter_46 : decode cX12_kindOfLetter 46 = .ok (.iconst 4, 1) := by decide +kernel
theorem dX12_kindOfLetter_47 : decode cX12_kindOfLetter 47 = .ok (.goto 15, 3) := by decide +kernel
theorem dX12_kindOfLetter_50 : decode cX12_kindOfLetter 50 = .ok (.iload_n 0, 1) := by decide +kernel
theorem dX12_kindOfLetter_51 : decode cX12_kindOfLetter 51 = .ok (.bipush 108, 2) := by decide +kernel
theorem dX12_kindOfLetter_53 : decode cX12_kindOfLetter 53 = .ok (.if_icmp .ne 7, 3) := by decide +kernel
theorem dX12_kindOfLetter_56 : decode cX12_kindOfLetter 56 = .ok (.iconst 5, 1) := by decide +kernel
theorem dX12_kindOfLetter_57 : decode cX12_kindOfLetter 57 = .ok (.goto 5, 3) := by decide +kernel
theorem dX12_kindOfLetter_60 : decode cX12_kindOfLetter 60 = .ok (.bipush (-9), 2) := by decide +kernel
theorem dX12_kindOfLetter_62 : decode cX12_kindOfLetter 62 = .ok (.ireturn, 1) := by decide +kernel
theorem dX12_readsPerson_0 : decode cX12_readsPerson 0 = .ok (.aload_n 0, 1) := by decide +kernel
theorem dX12_readsPerson_1 : decode cX12_readsPerson 1 = .ok (.invokevirtual 98, 3) := by decide +kernel
theorem dX12_readsPerson_4 : decode cX12_readsPerson 4 = .ok (.invokestatic 114, 3) := by decide +kernel
theorem dX12_readsPerson_7 : decode cX12_readsPerson 7 = .ok (.istore_n 1, 1) := by decide +kernel
theorem dX12_readsPerson_8 : decode cX12_readsPerson 8 = .ok (.iload_n 1, 1) := by decide +kernel
theorem dX12_readsPerson_9 : decode cX12_readsPerson 9 = .ok (.bipush (-9), 2) := by decide +kernel
theorem dX12_readsPerson_11 : decode cX12_readsPerson 11 = .ok (.if_icmp .eq 11, 3) := by decide +kernel
theorem dX12_readsPerson_14 : decode cX12_readsPerson 14 = .ok (.aload_n 0, 1) := by decide +kernel
theorem dX12_readsPerson_15 : decode cX12_readsPerson 15 = .ok (.getfield 117, 3) := by decide +kernel
theorem dX12_readsPerson_18 : decode cX12_readsPerson 18 = .ok (.iconst 5, 1) := by decide +kernel
theorem dX12_readsPerson_19 : decode cX12_readsPerson 19 = .ok (.if_icmp .ne 5, 3) := by decide +kernel
theorem dX12_readsPerson_22 : decode cX12_readsPerson 22 = .ok (.iconst 0, 1) := by decide +kernel
theorem dX12_readsPerson_23 : decode cX12_readsPerson 23 = .ok (.ireturn, 1) := by decide +kernel
theorem dX12_readsPerson_24 : decode cX12_readsPerson 24 = .ok (.aload_n 0, 1) := by decide +kernel
theorem dX12_readsPerson_25 : decode cX12_readsPerson 25 = .ok (.dup, 1) := by decide +kernel
theorem dX12_readsPerson_26 : decode cX12_readsPerson 26 = .ok (.getfield 92, 3) := by decide +kernel
theorem dX12_readsPerson_29 : decode cX12_readsPerson 29 = .ok (.iconst 1, 1) := by decide +kernel
theorem dX12_readsPerson_30 : decode cX12_readsPerson 30 = .ok (.iadd, 1) := by decide +kernel
theorem dX12_readsPerson_31 : decode cX12_readsPerson 31 = .ok (.putfield 92, 3) := by decide +kernel
theorem dX12_readsPerson_34 : decode cX12_readsPerson 34 = .ok (.aload_n 0, 1) := by decide +kernel
theorem dX12_readsPerson_35 : decode cX12_readsPerson 35 = .ok (.iconst 1, 1) := by decide +kernel
theorem dX12_readsPerson_36 : decode cX12_readsPerson 36 = .ok (.iconst 3, 1) := by decide +kernel
theorem dX12_readsPerson_37 : decode cX12_readsPerson 37 = .ok (.invokevirtual 105, 3) := by decide +kernel
theorem dX12_readsPerson_40 : decode cX12_readsPerson 40 = .ok (.istore_n 2, 1) := by decide +kernel
theorem dX12_readsPerson_41 : decode cX12_readsPerson 41 = .ok (.iload_n 2, 1) := by decide +kernel
theorem dX12_readsPerson_42 : decode cX12_readsPerson 42 = .ok (.bipush (-9), 2) := by decide +kernel
theorem dX12_readsPerson_44 : decode cX12_readsPerson 44 = .ok (.if_icmp .ne 5, 3) := by decide +kernel
theorem dX12_readsPerson_47 : decode cX12_readsPerson 47 = .ok (.iconst 0, 1) := by decide +kernel
theorem dX12_readsPerson_48 : decode cX12_readsPerson 48 = .ok (.ireturn, 1) := by decide +kernel
theorem dX12_readsPerson_49 : decode cX12_readsPerson 49 = .ok (.aload_n 0, 1) := by decide +kernel
theorem dX12_readsPerson_50 : decode cX12_readsPerson 50 = .ok (.getfield 39, 3) := by decide +kernel
theorem dX12_readsPerson_53 : decode cX12_readsPerson 53 = .ok (.iconst 2, 1) := by decide +kernel
theorem dX12_readsPerson_54 : decode cX12_readsPerson 54 = .ok (.aload_n 0, 1) := by decide +kernel
theorem dX12_readsPerson_55 : decode cX12_readsPerson 55 = .ok (.getfield 117, 3) := by decide +kernel
theorem dX12_readsPerson_58 : decode cX12_readsPerson 58 = .ok (.imul, 1) := by decide +kernel
theorem dX12_readsPerson_59 : decode cX12_readsPerson 59 = .ok (.iload_n 1, 1) := by decide +kernel
theorem dX12_readsPerson_60 : decode cX12_readsPerson 60 = .ok (.iastore, 1) := by decide +kernel
theorem dX12_readsPerson_61 : decode cX12_readsPerson 61 = .ok (.aload_n 0, 1) := by decide +kernel
theorem dX12_readsPerson_62 : decode cX12_readsPerson 62 = .ok (.getfield 39, 3) := by decide +kernel
theorem dX12_readsPerson_65 : decode cX12_readsPerson 65 = .ok (.iconst 2, 1) := by decide +kernel
theorem dX12_readsPerson_66 : decode cX12_readsPerson 66 = .ok (.aload_n 0, 1) := by decide +kernel
theorem dX12_readsPerson_67 : decode cX12_readsPerson 67 = .ok (.getfield 117, 3) := by decide +kernel
theorem dX12_readsPerson_70 : decode cX12_readsPerson 70 = .ok (.imul, 1) := by decide +kernel
theorem dX12_readsPerson_71 : decode cX12_readsPerson 71 = .ok (.iconst 1, 1) := by decide +kernel
theorem dX12_readsPerson_72 : decode cX12_readsPerson 72 = .ok (.iadd, 1) := by decide +kernel
theorem dX12_readsPerson_73 : decode cX12_readsPerson 73 = .ok (.iload_n 2, 1) := by decide +kernel
theorem dX12_readsPerson_74 : decode cX12_readsPerson 74 = .ok (.iastore, 1) := by decide +kernel
theorem dX12_readsPerson_75 : decode cX12_readsPerson 75 = .ok (.aload_n 0, 1) := by decide +kernel
theorem dX12_readsPerson_76 : decode cX12_readsPerson 76 = .ok (.dup, 1) := by decide +kernel
theorem dX12_readsPerson_77 : decode cX12_readsPerson 77 = .ok (.getfield 117, 3) := by decide +kernel
theorem dX12_readsPerson_80 : decode cX12_readsPerson 80 = .ok (.iconst 1, 1) := by decide +kernel
theorem dX12_readsPerson_81 : decode cX12_readsPerson 81 = .ok (.iadd, 1) := by decide +kernel
theorem dX12_readsPerson_82 : decode cX12_readsPerson 82 = .ok (.putfield 117, 3) := by decide +kernel
theorem dX12_readsPerson_85 : decode cX12_readsPerson 85 = .ok (.iconst 1, 1) := by decide +kernel
theorem dX12_readsPerson_86 : decode cX12_readsPerson 86 = .ok (.ireturn, 1) := by decide +kernel
theorem dX12_faultOf_0 : decode cX12_faultOf 0 = .ok (.aload_n 0, 1) := by decide +kernel
theorem dX12_faultOf_1 : decode cX12_faultOf 1 = .ok (.bipush 60, 2) := by decide +kernel
theorem dX12_faultOf_3 : decode cX12_faultOf 3 = .ok (.iload_n 1, 1) := by decide +kernel
theorem dX12_faultOf_4 : decode cX12_faultOf 4 = .ok (.imul, 1) := by decide +kernel
theorem dX12_faultOf_5 : decode cX12_faultOf 5 = .ok (.putfield 89, 3) := by decide +kernel
theorem dX12_faultOf_8 : decode cX12_faultOf 8 = .ok (.aload_n 0, 1) := by decide +kernel
theorem dX12_faultOf_9 : decode cX12_faultOf 9 = .ok (.iconst 0, 1) := by decide +kernel
theorem dX12_faultOf_10 : decode cX12_faultOf 10 = .ok (.putfield 92, 3) := by decide +kernel
theorem dX12_faultOf_13 : decode cX12_faultOf 13 = .ok (.aload_n 0, 1) := by decide +kernel
theorem dX12_faultOf_14 : decode cX12_faultOf 14 = .ok (.aload_n 0, 1) := by decide +kernel
theorem dX12_faultOf_15 : decode cX12_faultOf 15 = .ok (.getfield 26, 3) := by decide +kernel
theorem dX12_faultOf_18 : decode cX12_faultOf 18 = .ok (.iload_n 1, 1) := by decide +kernel
theorem dX12_faultOf_19 : decode cX12_faultOf 19 = .ok (.iaload, 1) := by decide +kernel
theorem dX12_faultOf_20 : decode cX12_faultOf 20 = .ok (.putfield 95, 3) := by decide +kernel
theorem dX12_faultOf_23 : decode cX12_faultOf 23 = .ok (.aload_n 0, 1) := by decide +kernel
theorem dX12_faultOf_24 : decode cX12_faultOf 24 = .ok (.iconst 0, 1) := by decide +kernel
theorem dX12_faultOf_25 : decode cX12_faultOf 25 = .ok (.putfield 117, 3) := by decide +kernel
theorem dX12_faultOf_28 : decode cX12_faultOf 28 = .ok (.aload_n 0, 1) := by decide +kernel
theorem dX12_faultOf_29 : decode cX12_faultOf 29 = .ok (.invokevirtual 120, 3) := by decide +kernel
theorem dX12_faultOf_32 : decode cX12_faultOf 32 = .ok (.istore_n 2, 1) := by decide +kernel
theorem dX12_faultOf_33 : decode cX12_faultOf 33 = .ok (.iload_n 2, 1) := by decide +kernel
theorem dX12_faultOf_34 : decode cX12_faultOf 34 = .ok (.ifCond .eq 7, 3) := by decide +kernel
theorem dX12_faultOf_37 : decode cX12_faultOf 37 = .ok (.aload_n 0, 1) := by decide +kernel
theorem dX12_faultOf_38 : decode cX12_faultOf 38 = .ok (.invokevirtual 102, 3) := by decide +kernel
theorem dX12_faultOf_41 : decode cX12_faultOf 41 = .ok (.iload_n 2, 1) := by decide +kernel
theorem dX12_faultOf_42 : decode cX12_faultOf 42 = .ok (.ifCond .eq 30, 3) := by decide +kernel
theorem dX12_faultOf_45 : decode cX12_faultOf 45 = .ok (.aload_n 0, 1) := by decide +kernel
theorem dX12_faultOf_46 : decode cX12_faultOf 46 = .ok (.getfield 92, 3) := by decide +kernel
theorem dX12_faultOf_49 : decode cX12_faultOf 49 = .ok (.aload_n 0, 1) := by decide +kernel
theorem dX12_faultOf_50 : decode cX12_faultOf 50 = .ok (.getfield 95, 3) := by decide +kernel
theorem dX12_faultOf_53 : decode cX12_faultOf 53 = .ok (.if_icmp .ge 19, 3) := by decide +kernel
theorem dX12_faultOf_56 : decode cX12_faultOf 56 = .ok (.aload_n 0, 1) := by decide +kernel
theorem dX12_faultOf_57 : decode cX12_faultOf 57 = .ok (.invokevirtual 124, 3) := by decide +kernel
theorem dX12_faultOf_60 : decode cX12_faultOf 60 = .ok (.istore_n 2, 1) := by decide +kernel
theorem dX12_faultOf_61 : decode cX12_faultOf 61 = .ok (.iload_n 2, 1) := by decide +kernel
theorem dX12_faultOf_62 : decode cX12_faultOf 62 = .ok (.ifCond .eq (-21), 3) := by decide +kernel
theorem dX12_faultOf_65 : decode cX12_faultOf 65 = .ok (.aload_n 0, 1) := by decide +kernel
theorem dX12_faultOf_66 : decode cX12_faultOf 66 = .ok (.invokevirtual 102, 3) := by decide +kernel
theorem dX12_faultOf_69 : decode cX12_faultOf 69 = .ok (.goto (-28), 3) := by decide +kernel
theorem dX12_faultOf_72 : decode cX12_faultOf 72 = .ok (.iload_n 2, 1) := by decide +kernel
theorem dX12_faultOf_73 : decode cX12_faultOf 73 = .ok (.ifCond .eq 15, 3) := by decide +kernel
theorem dX12_faultOf_76 : decode cX12_faultOf 76 = .ok (.aload_n 0, 1) := by decide +kernel
theorem dX12_faultOf_77 : decode cX12_faultOf 77 = .ok (.getfield 117, 3) := by decide +kernel
theorem dX12_faultOf_80 : decode cX12_faultOf 80 = .ok (.ifCond .le 8, 3) := by decide +kernel
theorem dX12_faultOf_83 : decode cX12_faultOf 83 = .ok (.bipush (-9), 2) := by decide +kernel
theorem dX12_faultOf_85 : decode cX12_faultOf 85 = .ok (.goto 7, 3) := by decide +kernel
theorem dX12_faultOf_88 : decode cX12_faultOf 88 = .ok (.aload_n 0, 1) := by decide +kernel
theorem dX12_faultOf_89 : decode cX12_faultOf 89 = .ok (.getfield 92, 3) := by decide +kernel
theorem dX12_faultOf_92 : decode cX12_faultOf 92 = .ok (.ireturn, 1) := by decide +kernel
theorem dX12_fault_0 : decode cX12_fault 0 = .ok (.iload_n 1, 1) := by decide +kernel
theorem dX12_fault_1 : decode cX12_fault 1 = .ok (.invokestatic 86, 3) := by decide +kernel
theorem dX12_fault_4 : decode cX12_fault 4 = .ok (.ifCond .ne 5, 3) := by decide +kernel
theorem dX12_fault_7 : decode cX12_fault 7 = .ok (.iconst (-1), 1) := by decide +kernel
theorem dX12_fault_8 : decode cX12_fault 8 = .ok (.ireturn, 1) := by decide +kernel
theorem dX12_fault_9 : decode cX12_fault 9 = .ok (.aload_n 0, 1) := by decide +kernel
theorem dX12_fault_10 : decode cX12_fault 10 = .ok (.getfield 26, 3) := by decide +kernel
theorem dX12_fault_13 : decode cX12_fault 13 = .ok (.iload_n 1, 1) := by decide +kernel
theorem dX12_fault_14 : decode cX12_fault 14 = .ok (.iaload, 1) := by decide +kernel
theorem dX12_fault_15 : decode cX12_fault 15 = .ok (.ifCond .ge 11, 3) := by decide +kernel
theorem dX12_fault_18 : decode cX12_fault 18 = .ok (.aload_n 0, 1) := by decide +kernel
theorem dX12_fault_19 : decode cX12_fault 19 = .ok (.iconst 1, 1) := by decide +kernel
theorem dX12_fault_20 : decode cX12_fault 20 = .ok (.invokevirtual 67, 3) := by decide +kernel
theorem dX12_fault_23 : decode cX12_fault 23 = .ok (.goto 8, 3) := by decide +kernel
theorem dX12_fault_26 : decode cX12_fault 26 = .ok (.aload_n 0, 1) := by decide +kernel
theorem dX12_fault_27 : decode cX12_fault 27 = .ok (.iload_n 1, 1) := by decide +kernel
theorem dX12_fault_28 : decode cX12_fault 28 = .ok (.invokevirtual 127, 3) := by decide +kernel
theorem dX12_fault_31 : decode cX12_fault 31 = .ok (.ireturn, 1) := by decide +kernel
theorem dX12_power_0 : decode cX12_power 0 = .ok (.iconst 1, 1) := by decide +kernel
theorem dX12_power_1 : decode cX12_power 1 = .ok (.istore_n 2, 1) := by decide +kernel
theorem dX12_power_2 : decode cX12_power 2 = .ok (.iconst 0, 1) := by decide +kernel
theorem dX12_power_3 : decode cX12_power 3 = .ok (.istore_n 3, 1) := by decide +kernel
theorem dX12_power_4 : decode cX12_power 4 = .ok (.iload_n 3, 1) := by decide +kernel
theorem dX12_power_5 : decode cX12_power 5 = .ok (.iload_n 1, 1) := by decide +kernel
theorem dX12_power_6 : decode cX12_power 6 = .ok (.if_icmp .ge 13, 3) := by decide +kernel
theorem dX12_power_9 : decode cX12_power 9 = .ok (.iload_n 2, 1) := by decide +kernel
theorem dX12_power_10 : decode cX12_power 10 = .ok (.iload_n 0, 1) := by decide +kernel
theorem dX12_power_11 : decode cX12_power 11 = .ok (.imul, 1) := by decide +kernel
theorem dX12_power_12 : decode cX12_power 12 = .ok (.istore_n 2, 1) := by decide +kernel
theorem dX12_power_13 : decode cX12_power 13 = .ok (.iinc 3 1, 3) := by decide +kernel
theorem dX12_power_16 : decode cX12_power 16 = .ok (.goto (-12), 3) := by decide +kernel
theorem dX12_power_19 : decode cX12_power 19 = .ok (.iload_n 2, 1) := by decide +kernel
theorem dX12_power_20 : decode cX12_power 20 = .ok (.ireturn, 1) := by decide +kernel
theorem dX12_shed_0 : decode cX12_shed 0 = .ok (.iload_n 1, 1) := by decide +kernel
theorem dX12_shed_1 : decode cX12_shed 1 = .ok (.invokestatic 86, 3) := by decide +kernel
theorem dX12_shed_4 : decode cX12_shed 4 = .ok (.ifCond .ne 5, 3) := by decide +kernel
theorem dX12_shed_7 : decode cX12_shed 7 = .ok (.iconst (-1), 1) := by decide +kernel
theorem dX12_shed_8 : decode cX12_shed 8 = .ok (.ireturn, 1) := by decide +kernel
theorem dX12_shed_9 : decode cX12_shed 9 = .ok (.aload_n 0, 1) := by decide +kernel
theorem dX12_shed_10 : decode cX12_shed 10 = .ok (.getfield 26, 3) := by decide +kernel
theorem dX12_shed_13 : decode cX12_shed 13 = .ok (.iload_n 1, 1) := by decide +kernel
theorem dX12_shed_14 : decode cX12_shed 14 = .ok (.iaload, 1) := by decide +kernel
theorem dX12_shed_15 : decode cX12_shed 15 = .ok (.ifCond .ge 9, 3) := by decide +kernel
theorem dX12_shed_18 : decode cX12_shed 18 = .ok (.aload_n 0, 1) := by decide +kernel
theorem dX12_shed_19 : decode cX12_shed 19 = .ok (.iconst 1, 1) := by decide +kernel
theorem dX12_shed_20 : decode cX12_shed 20 = .ok (.invokevirtual 67, 3) := by decide +kernel
theorem dX12_shed_23 : decode cX12_shed 23 = .ok (.ireturn, 1) := by decide +kernel
theorem dX12_shed_24 : decode cX12_shed 24 = .ok (.aload_n 0, 1) := by decide +kernel
theorem dX12_shed_25 : decode cX12_shed 25 = .ok (.iload_n 1, 1) := by decide +kernel
theorem dX12_shed_26 : decode cX12_shed 26 = .ok (.invokevirtual 127, 3) := by decide +kernel
theorem dX12_shed_29 : decode cX12_shed 29 = .ok (.bipush (-9), 2) := by decide +kernel
theorem dX12_shed_31 : decode cX12_shed 31 = .ok (.if_icmp .eq 6, 3) := by decide +kernel
theorem dX12_shed_34 : decode cX12_shed 34 = .ok (.bipush (-4), 2) := by decide +kernel
theorem dX12_shed_36 : decode cX12_shed 36 = .ok (.ireturn, 1) := by decide +kernel
theorem dX12_shed_37 : decode cX12_shed 37 = .ok (.aload_n 0, 1) := by decide +kernel
theorem dX12_shed_38 : decode cX12_shed 38 = .ok (.aload_n 0, 1) := by decide +kernel
theorem dX12_shed_39 : decode cX12_shed 39 = .ok (.getfield 108, 3) := by decide +kernel
theorem dX12_shed_42 : decode cX12_shed 42 = .ok (.putfield 130, 3) := by decide +kernel
theorem dX12_shed_45 : decode cX12_shed 45 = .ok (.aload_n 0, 1) := by decide +kernel
theorem dX12_shed_46 : decode cX12_shed 46 = .ok (.aload_n 0, 1) := by decide +kernel
theorem dX12_shed_47 : decode cX12_shed 47 = .ok (.getfield 111, 3) := by decide +kernel
theorem dX12_shed_50 : decode cX12_shed 50 = .ok (.putfield 133, 3) := by decide +kernel
theorem dX12_shed_53 : decode cX12_shed 53 = .ok (.aload_n 0, 1) := by decide +kernel
theorem dX12_shed_54 : decode cX12_shed 54 = .ok (.aload_n 0, 1) := by decide +kernel
theorem dX12_shed_55 : decode cX12_shed 55 = .ok (.getfield 133, 3) := by decide +kernel
theorem dX12_shed_58 : decode cX12_shed 58 = .ok (.aload_n 0, 1) := by decide +kernel
theorem dX12_shed_59 : decode cX12_shed 59 = .ok (.getfield 130, 3) := by decide +kernel
theorem dX12_shed_62 : decode cX12_shed 62 = .ok (.invokestatic 136, 3) := by decide +kernel
theorem dX12_shed_65 : decode cX12_shed 65 = .ok (.putfield 139, 3) := by decide +kernel
theorem dX12_shed_68 : decode cX12_shed 68 = .ok (.aload_n 0, 1) := by decide +kernel
theorem dX12_shed_69 : decode cX12_shed 69 = .ok (.aload_n 0, 1) := by decide +kernel
theorem dX12_shed_70 : decode cX12_shed 70 = .ok (.getfield 117, 3) := by decide +kernel
theorem dX12_shed_73 : decode cX12_shed 73 = .ok (.putfield 142, 3) := by decide +kernel
theorem dX12_shed_76 : decode cX12_shed 76 = .ok (.iconst 0, 1) := by decide +kernel
theorem dX12_shed_77 : decode cX12_shed 77 = .ok (.istore_n 2, 1) := by decide +kernel
theorem dX12_shed_78 : decode cX12_shed 78 = .ok (.iload_n 2, 1) := by decide +kernel
theorem dX12_shed_79 : decode cX12_shed 79 = .ok (.bipush 38, 2) := by decide +kernel
theorem dX12_shed_81 : decode cX12_shed 81 = .ok (.if_icmp .ge 16, 3) := by decide +kernel
theorem dX12_shed_84 : decode cX12_shed 84 = .ok (.aload_n 0, 1) := by decide +kernel
theorem dX12_shed_85 : decode cX12_shed 85 = .ok (.getfield 7, 3) := by decide +kernel
theorem dX12_shed_88 : decode cX12_shed 88 = .ok (.iload_n 2, 1) := by decide +kernel
theorem dX12_shed_89 : decode cX12_shed 89 = .ok (.iconst 0, 1) := by decide +kernel
theorem dX12_shed_90 : decode cX12_shed 90 = .ok (.iastore, 1) := by decide +kernel
theorem dX12_shed_91 : decode cX12_shed 91 = .ok (.iinc 2 1, 3) := by decide +kernel
theorem dX12_shed_94 : decode cX12_shed 94 = .ok (.goto (-16), 3) := by decide +kernel
theorem dX12_shed_97 : decode cX12_shed 97 = .ok (.iconst 0, 1) := by decide +kernel
theorem dX12_shed_98 : decode cX12_shed 98 = .ok (.istore_n 2, 1) := by decide +kernel
theorem dX12_shed_99 : decode cX12_shed 99 = .ok (.iload_n 2, 1) := by decide +kernel
theorem dX12_shed_100 : decode cX12_shed 100 = .ok (.aload_n 0, 1) := by decide +kernel
theorem dX12_shed_101 : decode cX12_shed 101 = .ok (.getfield 142, 3) := by decide +kernel
theorem dX12_shed_104 : decode cX12_shed 104 = .ok (.if_icmp .ge 41, 3) := by decide +kernel
theorem dX12_shed_107 : decode cX12_shed 107 = .ok (.aload_n 0, 1) := by decide +kernel
theorem dX12_shed_108 : decode cX12_shed 108 = .ok (.getfield 13, 3) := by decide +kernel
theorem dX12_shed_111 : decode cX12_shed 111 = .ok (.iload_n 2, 1) := by decide +kernel
theorem dX12_shed_112 : decode cX12_shed 112 = .ok (.aload_n 0, 1) := by decide +kernel
theorem dX12_shed_113 : decode cX12_shed 113 = .ok (.getfield 39, 3) := by decide +kernel
theorem dX12_shed_116 : decode cX12_shed 116 = .ok (.iconst 2, 1) := by decide +kernel
theorem dX12_shed_117 : decode cX12_shed 117 = .ok (.iload_n 2, 1) := by decide +kernel
theorem dX12_shed_118 : decode cX12_shed 118 = .ok (.imul, 1) := by decide +kernel
theorem dX12_shed_119 : decode cX12_shed 119 = .ok (.iaload, 1) := by decide +kernel
theorem dX12_shed_120 : decode cX12_shed 120 = .ok (.iastore, 1) := by decide +kernel
theorem dX12_shed_121 : decode cX12_shed 121 = .ok (.aload_n 0, 1) := by decide +kernel
theorem dX12_shed_122 : decode cX12_shed 122 = .ok (.getfield 7, 3) := by decide +kernel
theorem dX12_shed_125 : decode cX12_shed 125 = .ok (.iconst 1, 1) := by decide +kernel
theorem dX12_shed_126 : decode cX12_shed 126 = .ok (.iload_n 2, 1) := by decide +kernel
theorem dX12_shed_127 : decode cX12_shed 127 = .ok (.iadd, 1) := by decide +kernel
theorem dX12_shed_128 : decode cX12_shed 128 = .ok (.aload_n 0, 1) := by decide +kernel
theorem dX12_shed_129 : decode cX12_shed 129 = .ok (.getfield 39, 3) := by decide +kernel
theorem dX12_shed_132 : decode cX12_shed 132 = .ok (.iconst 2, 1) := by decide +kernel
theorem dX12_shed_133 : decode cX12_shed 133 = .ok (.iload_n 2, 1) := by decide +kernel
theorem dX12_shed_134 : decode cX12_shed 134 = .ok (.imul, 1) := by decide +kernel
theorem dX12_shed_135 : decode cX12_shed 135 = .ok (.iconst 1, 1) := by decide +kernel
theorem dX12_shed_136 : decode cX12_shed 136 = .ok (.iadd, 1) := by decide +kernel
theorem dX12_shed_137 : decode cX12_shed 137 = .ok (.iaload, 1) := by decide +kernel
theorem dX12_shed_138 : decode cX12_shed 138 = .ok (.iastore, 1) := by decide +kernel
theorem dX12_shed_139 : decode cX12_shed 139 = .ok (.iinc 2 1, 3) := by decide +kernel
theorem dX12_shed_142 : decode cX12_shed 142 = .ok (.goto (-43), 3) := by decide +kernel
theorem dX12_shed_145 : decode cX12_shed 145 = .ok (.iconst 1, 1) := by decide +kernel
theorem dX12_shed_146 : decode cX12_shed 146 = .ok (.istore_n 2, 1) := by decide +kernel
theorem dX12_shed_147 : decode cX12_shed 147 = .ok (.iload_n 2, 1) := by decide +kernel
theorem dX12_shed_148 : decode cX12_shed 148 = .ok (.iconst 4, 1) := by decide +kernel
theorem dX12_shed_149 : decode cX12_shed 149 = .ok (.if_icmp .ge 21, 3) := by decide +kernel
theorem dX12_shed_152 : decode cX12_shed 152 = .ok (.aload_n 0, 1) := by decide +kernel
theorem dX12_shed_153 : decode cX12_shed 153 = .ok (.getfield 7, 3) := by decide +kernel
theorem dX12_shed_156 : decode cX12_shed 156 = .ok (.bipush 38, 2) := by decide +kernel
theorem dX12_shed_158 : decode cX12_shed 158 = .ok (.iload_n 2, 1) := by decide +kernel
theorem dX12_shed_159 : decode cX12_shed 159 = .ok (.imul, 1) := by decide +kernel
theorem dX12_shed_160 : decode cX12_shed 160 = .ok (.iconst 0, 1) := by decide +kernel
theorem dX12_shed_161 : decode cX12_shed 161 = .ok (.iadd, 1) := by decide +kernel
theorem dX12_shed_162 : decode cX12_shed 162 = .ok (.iconst (-1), 1) := by decide +kernel
theorem dX12_shed_163 : decode cX12_shed 163 = .ok (.iastore, 1) := by decide +kernel
theorem dX12_shed_164 : decode cX12_shed 164 = .ok (.iinc 2 1, 3) := by decide +kernel
theorem dX12_shed_167 : decode cX12_shed 167 = .ok (.goto (-20), 3) := by decide +kernel
theorem dX12_shed_170 : decode cX12_shed 170 = .ok (.aload_n 0, 1) := by decide +kernel
theorem dX12_shed_171 : decode cX12_shed 171 = .ok (.invokevirtual 145, 3) := by decide +kernel
theorem dX12_shed_174 : decode cX12_shed 174 = .ok (.aload_n 0, 1) := by decide +kernel
theorem dX12_shed_175 : decode cX12_shed 175 = .ok (.getfield 142, 3) := by decide +kernel
theorem dX12_shed_178 : decode cX12_shed 178 = .ok (.ireturn, 1) := by decide +kernel
theorem dX12_isPerson_0 : decode cX12_isPerson 0 = .ok (.iload_n 1, 1) := by decide +kernel
theorem dX12_isPerson_1 : decode cX12_isPerson 1 = .ok (.i2l, 1) := by decide +kernel
theorem dX12_isPerson_2 : decode cX12_isPerson 2 = .ok (.lconst 0, 1) := by decide +kernel
theorem dX12_isPerson_3 : decode cX12_isPerson 3 = .ok (.aload_n 0, 1) := by decide +kernel
theorem dX12_isPerson_4 : decode cX12_isPerson 4 = .ok (.getfield 142, 3) := by decide +kernel
theorem dX12_isPerson_7 : decode cX12_isPerson 7 = .ok (.iconst 1, 1) := by decide +kernel
theorem dX12_isPerson_8 : decode cX12_isPerson 8 = .ok (.isub, 1) := by decide +kernel
theorem dX12_isPerson_9 : decode cX12_isPerson 9 = .ok (.i2l, 1) := by decide +kernel
theorem dX12_isPerson_10 : decode cX12_isPerson 10 = .ok (.invokestatic 57, 3) := by decide +kernel
theorem dX12_isPerson_13 : decode cX12_isPerson 13 = .ok (.ireturn, 1) := by decide +kernel
theorem dX12_isSetting_0 : decode cX12_isSetting 0 = .ok (.iload_n 1, 1) := by decide +kernel
theorem dX12_isSetting_1 : decode cX12_isSetting 1 = .ok (.i2l, 1) := by decide +kernel
theorem dX12_isSetting_2 : decode cX12_isSetting 2 = .ok (.lconst 0, 1) := by decide +kernel
theorem dX12_isSetting_3 : decode cX12_isSetting 3 = .ok (.aload_n 0, 1) := by decide +kernel
theorem dX12_isSetting_4 : decode cX12_isSetting 4 = .ok (.getfield 139, 3) := by decide +kernel
theorem dX12_isSetting_7 : decode cX12_isSetting 7 = .ok (.iconst 1, 1) := by decide +kernel
theorem dX12_isSetting_8 : decode cX12_isSetting 8 = .ok (.isub, 1) := by decide +kernel
theorem dX12_isSetting_9 : decode cX12_isSetting 9 = .ok (.i2l, 1) := by decide +kernel
theorem dX12_isSetting_10 : decode cX12_isSetting 10 = .ok (.invokestatic 57, 3) := by decide +kernel
theorem dX12_isSetting_13 : decode cX12_isSetting 13 = .ok (.ireturn, 1) := by decide +kernel
theorem dX12_notch_0 : decode cX12_notch 0 = .ok (.iload_n 1, 1) := by decide +kernel
theorem dX12_notch_1 : decode cX12_notch 1 = .ok (.aload_n 0, 1) := by decide +kernel
theorem dX12_notch_2 : decode cX12_notch 2 = .ok (.getfield 133, 3) := by decide +kernel
theorem dX12_notch_5 : decode cX12_notch 5 = .ok (.aload_n 0, 1) := by decide +kernel
theorem dX12_notch_6 : decode cX12_notch 6 = .ok (.getfield 130, 3) := by decide +kernel
theorem dX12_notch_9 : decode cX12_notch 9 = .ok (.iconst 1, 1) := by decide +kernel
theorem dX12_notch_10 : decode cX12_notch 10 = .ok (.isub, 1) := by decide +kernel
theorem dX12_notch_11 : decode cX12_notch 11 = .ok (.iload_n 2, 1) := by decide +kernel
theorem dX12_notch_12 : decode cX12_notch 12 = .ok (.isub, 1) := by decide +kernel
theorem dX12_notch_13 : decode cX12_notch 13 = .ok (.invokestatic 136, 3) := by decide +kernel
theorem dX12_notch_16 : decode cX12_notch 16 = .ok (.idiv, 1) := by decide +kernel
theorem dX12_notch_17 : decode cX12_notch 17 = .ok (.aload_n 0, 1) := by decide +kernel
theorem dX12_notch_18 : decode cX12_notch 18 = .ok (.getfield 133, 3) := by decide +kernel
theorem dX12_notch_21 : decode cX12_notch 21 = .ok (.irem, 1) := by decide +kernel
theorem dX12_notch_22 : decode cX12_notch 22 = .ok (.ireturn, 1) := by decide +kernel
theorem dX12_up_0 : decode cX12_up 0 = .ok (.aload_n 0, 1) := by decide +kernel
theorem dX12_up_1 : decode cX12_up 1 = .ok (.iload_n 3, 1) := by decide +kernel
theorem dX12_up_2 : decode cX12_up 2 = .ok (.iload_n 1, 1) := by decide +kernel
theorem dX12_up_3 : decode cX12_up 3 = .ok (.invokevirtual 148, 3) := by decide +kernel
theorem dX12_up_6 : decode cX12_up 6 = .ok (.aload_n 0, 1) := by decide +kernel
theorem dX12_up_7 : decode cX12_up 7 = .ok (.iload_n 2, 1) := by decide +kernel
theorem dX12_up_8 : decode cX12_up 8 = .ok (.iload_n 1, 1) := by decide +kernel
theorem dX12_up_9 : decode cX12_up 9 = .ok (.invokevirtual 148, 3) := by decide +kernel
theorem dX12_up_12 : decode cX12_up 12 = .ok (.isub, 1) := by decide +kernel
theorem dX12_up_13 : decode cX12_up 13 = .ok (.aload_n 0, 1) := by decide +kernel
theorem dX12_up_14 : decode cX12_up 14 = .ok (.getfield 133, 3) := by decide +kernel
theorem dX12_up_17 : decode cX12_up 17 = .ok (.iadd, 1) := by decide +kernel
theorem dX12_up_18 : decode cX12_up 18 = .ok (.aload_n 0, 1) := by decide +kernel
theorem dX12_up_19 : decode cX12_up 19 = .ok (.getfield 133, 3) := by decide +kernel
theorem dX12_up_22 : decode cX12_up 22 = .ok (.irem, 1) := by decide +kernel
theorem dX12_up_23 : decode cX12_up 23 = .ok (.ireturn, 1) := by decide +kernel
theorem dX12_flicksOf_0 : decode cX12_flicksOf 0 = .ok (.aload_n 0, 1) := by decide +kernel
theorem dX12_flicksOf_1 : decode cX12_flicksOf 1 = .ok (.getfield 7, 3) := by decide +kernel
theorem dX12_flicksOf_4 : decode cX12_flicksOf 4 = .ok (.iconst 1, 1) := by decide +kernel
theorem dX12_flicksOf_5 : decode cX12_flicksOf 5 = .ok (.iload_n 1, 1) := by decide +kernel
theorem dX12_flicksOf_6 : decode cX12_flicksOf 6 = .ok (.iadd, 1) := by decide +kernel
theorem dX12_flicksOf_7 : decode cX12_flicksOf 7 = .ok (.iaload, 1) := by decide +kernel
theorem dX12_flicksOf_8 : decode cX12_flicksOf 8 = .ok (.ireturn, 1) := by decide +kernel
theorem dX12_eithers_0 : decode cX12_eithers 0 = .ok (.iload_n 2, 1) := by decide +kernel
theorem dX12_eithers_1 : decode cX12_eithers 1 = .ok (.i2l, 1) := by decide +kernel
theorem dX12_eithers_2 : decode cX12_eithers 2 = .ok (.lconst 1, 1) := by decide +kernel
theorem dX12_eithers_3 : decode cX12_eithers 3 = .ok (.iload_n 1, 1) := by decide +kernel
theorem dX12_eithers_4 : decode cX12_eithers 4 = .ok (.i2l, 1) := by decide +kernel
theorem dX12_eithers_5 : decode cX12_eithers 5 = .ok (.invokestatic 57, 3) := by decide +kernel
theorem dX12_eithers_8 : decode cX12_eithers 8 = .ok (.ifCond .eq 7, 3) := by decide +kernel
theorem dX12_eithers_11 : decode cX12_eithers 11 = .ok (.iconst 1, 1) := by decide +kernel
theorem dX12_eithers_12 : decode cX12_eithers 12 = .ok (.goto 4, 3) := by decide +kernel
theorem dX12_eithers_15 : decode cX12_eithers 15 = .ok (.iconst 0, 1) := by decide +kernel
theorem dX12_eithers_16 : decode cX12_eithers 16 = .ok (.aload_n 0, 1) := by decide +kernel
theorem dX12_eithers_17 : decode cX12_eithers 17 = .ok (.getfield 133, 3) := by decide +kernel
theorem dX12_eithers_20 : decode cX12_eithers 20 = .ok (.iload_n 2, 1) := by decide +kernel
theorem dX12_eithers_21 : decode cX12_eithers 21 = .ok (.isub, 1) := by decide +kernel
theorem dX12_eithers_22 : decode cX12_eithers 22 = .ok (.i2l, 1) := by decide +kernel
theorem dX12_eithers_23 : decode cX12_eithers 23 = .ok (.lconst 1, 1) := by decide +kernel
theorem dX12_eithers_24 : decode cX12_eithers 24 = .ok (.iload_n 1, 1) := by decide +kernel
theorem dX12_eithers_25 : decode cX12_eithers 25 = .ok (.i2l, 1) := by decide +kernel
theorem dX12_eithers_26 : decode cX12_eithers 26 = .ok (.invokestatic 57, 3) := by decide +kernel
theorem dX12_eithers_29 : decode cX12_eithers 29 = .ok (.ifCond .eq 7, 3) := by decide +kernel
theorem dX12_eithers_32 : decode cX12_eithers 32 = .ok (.iconst 1, 1) := by decide +kernel
theorem dX12_eithers_33 : decode cX12_eithers 33 = .ok (.goto 4, 3) := by decide +kernel
theorem dX12_eithers_36 : decode cX12_eithers 36 = .ok (.iconst 0, 1) := by decide +kernel
theorem dX12_eithers_37 : decode cX12_eithers 37 = .ok (.iadd, 1) := by decide +kernel
theorem dX12_eithers_38 : decode cX12_eithers 38 = .ok (.ireturn, 1) := by decide +kernel
theorem dX12_wheelWays_0 : decode cX12_wheelWays 0 = .ok (.aload_n 0, 1) := by decide +kernel
theorem dX12_wheelWays_1 : decode cX12_wheelWays 1 = .ok (.iload_n 1, 1) := by decide +kernel
theorem dX12_wheelWays_2 : decode cX12_wheelWays 2 = .ok (.invokevirtual 151, 3) := by decide +kernel
theorem dX12_wheelWays_5 : decode cX12_wheelWays 5 = .ok (.istore 4, 2) := by decide +kernel
theorem dX12_wheelWays_7 : decode cX12_wheelWays 7 = .ok (.iload_n 2, 1) := by decide +kernel
theorem dX12_wheelWays_8 : decode cX12_wheelWays 8 = .ok (.aload_n 0, 1) := by decide +kernel
theorem dX12_wheelWays_9 : decode cX12_wheelWays 9 = .ok (.getfield 130, 3) := by decide +kernel
theorem dX12_wheelWays_12 : decode cX12_wheelWays 12 = .ok (.iconst 1, 1) := by decide +kernel
theorem dX12_wheelWays_13 : decode cX12_wheelWays 13 = .ok (.isub, 1) := by decide +kernel
theorem dX12_wheelWays_14 : decode cX12_wheelWays 14 = .ok (.if_icmp .ne 7, 3) := by decide +kernel
theorem dX12_wheelWays_17 : decode cX12_wheelWays 17 = .ok (.iconst 1, 1) := by decide +kernel
theorem dX12_wheelWays_18 : decode cX12_wheelWays 18 = .ok (.goto 4, 3) := by decide +kernel
theorem dX12_wheelWays_21 : decode cX12_wheelWays 21 = .ok (.iconst 0, 1) := by decide +kernel
theorem dX12_wheelWays_22 : decode cX12_wheelWays 22 = .ok (.istore 5, 2) := by decide +kernel
theorem dX12_wheelWays_24 : decode cX12_wheelWays 24 = .ok (.aload_n 0, 1) := by decide +kernel
theorem dX12_wheelWays_25 : decode cX12_wheelWays 25 = .ok (.getfield 13, 3) := by decide +kernel
theorem dX12_wheelWays_28 : decode cX12_wheelWays 28 = .ok (.iload_n 1, 1) := by decide +kernel
theorem dX12_wheelWays_29 : decode cX12_wheelWays 29 = .ok (.iaload, 1) := by decide +kernel
theorem dX12_wheelWays_30 : decode cX12_wheelWays 30 = .ok (.tableswitch 101 1 5 #[34, 101, 101, 59, 89], 34) := by decide +kernel
theorem dX12_wheelWays_64 : decode cX12_wheelWays 64 = .ok (.iload 5, 2) := by decide +kernel
theorem dX12_wheelWays_66 : decode cX12_wheelWays 66 = .ok (.ifCond .eq 13, 3) := by decide +kernel
theorem dX12_wheelWays_69 : decode cX12_wheelWays 69 = .ok (.aload_n 0, 1) := by decide +kernel
theorem dX12_wheelWays_70 : decode cX12_wheelWays 70 = .ok (.iload 4, 2) := by decide +kernel
theorem dX12_wheelWays_72 : decode cX12_wheelWays 72 = .ok (.iload_n 3, 1) := by decide +kernel
theorem dX12_wheelWays_73 : decode cX12_wheelWays 73 = .ok (.invokevirtual 154, 3) := by decide +kernel
theorem dX12_wheelWays_76 : decode cX12_wheelWays 76 = .ok (.goto 12, 3) := by decide +kernel
theorem dX12_wheelWays_79 : decode cX12_wheelWays 79 = .ok (.iload_n 3, 1) := by decide +kernel
theorem dX12_wheelWays_80 : decode cX12_wheelWays 80 = .ok (.ifCond .ne 7, 3) := by decide +kernel
theorem dX12_wheelWays_83 : decode cX12_wheelWays 83 = .ok (.iconst 1, 1) := by decide +kernel
theorem dX12_wheelWays_84 : decode cX12_wheelWays 84 = .ok (.goto 4, 3) := by decide +kernel
theorem dX12_wheelWays_87 : decode cX12_wheelWays 87 = .ok (.iconst 0, 1) := by decide +kernel
theorem dX12_wheelWays_88 : decode cX12_wheelWays 88 = .ok (.ireturn, 1) := by decide +kernel
theorem dX12_wheelWays_89 : decode cX12_wheelWays 89 = .ok (.iload_n 2, 1) := by decide +kernel
theorem dX12_wheelWays_90 : decode cX12_wheelWays 90 = .ok (.aload_n 0, 1) := by decide +kernel
theorem dX12_wheelWays_91 : decode cX12_wheelWays 91 = .ok (.getfield 130, 3) := by decide +kernel
theorem dX12_wheelWays_94 : decode cX12_wheelWays 94 = .ok (.iconst 2, 1) := by decide +kernel
theorem dX12_wheelWays_95 : decode cX12_wheelWays 95 = .ok (.isub, 1) := by decide +kernel
theorem dX12_wheelWays_96 : decode cX12_wheelWays 96 = .ok (.if_icmp .lt 13, 3) := by decide +kernel
theorem dX12_wheelWays_99 : decode cX12_wheelWays 99 = .ok (.aload_n 0, 1) := by decide +kernel
theorem dX12_wheelWays_100 : decode cX12_wheelWays 100 = .ok (.iload 4, 2) := by decide +kernel
theorem dX12_wheelWays_102 : decode cX12_wheelWays 102 = .ok (.iload_n 3, 1) := by decide +kernel
theorem dX12_wheelWays_103 : decode cX12_wheelWays 103 = .ok (.invokevirtual 154, 3) := by decide +kernel
theorem dX12_wheelWays_106 : decode cX12_wheelWays 106 = .ok (.goto 12, 3) := by decide +kernel
theorem dX12_wheelWays_109 : decode cX12_wheelWays 109 = .ok (.iload_n 3, 1) := by decide +kernel
theorem dX12_wheelWays_110 : decode cX12_wheelWays 110 = .ok (.ifCond .ne 7, 3) := by decide +kernel
theorem dX12_wheelWays_113 : decode cX12_wheelWays 113 = .ok (.iconst 1, 1) := by decide +kernel
theorem dX12_wheelWays_114 : decode cX12_wheelWays 114 = .ok (.goto 4, 3) := by decide +kernel
theorem dX12_wheelWays_117 : decode cX12_wheelWays 117 = .ok (.iconst 0, 1) := by decide +kernel
theorem dX12_wheelWays_118 : decode cX12_wheelWays 118 = .ok (.ireturn, 1) := by decide +kernel
theorem dX12_wheelWays_119 : decode cX12_wheelWays 119 = .ok (.iload_n 3, 1) := by decide +kernel
theorem dX12_wheelWays_120 : decode cX12_wheelWays 120 = .ok (.iload 4, 2) := by decide +kernel
theorem dX12_wheelWays_122 : decode cX12_wheelWays 122 = .ok (.if_icmp .gt 7, 3) := by decide +kernel
theorem dX12_wheelWays_125 : decode cX12_wheelWays 125 = .ok (.iconst 1, 1) := by decide +kernel
theorem dX12_wheelWays_126 : decode cX12_wheelWays 126 = .ok (.goto 4, 3) := by decide +kernel
theorem dX12_wheelWays_129 : decode cX12_wheelWays 129 = .ok (.iconst 0, 1) := by decide +kernel
theorem dX12_wheelWays_130 : decode cX12_wheelWays 130 = .ok (.ireturn, 1) := by decide +kernel
theorem dX12_wheelWays_131 : decode cX12_wheelWays 131 = .ok (.iload 5, 2) := by decide +kernel
theorem dX12_wheelWays_133 : decode cX12_wheelWays 133 = .ok (.ifCond .eq 23, 3) := by decide +kernel
theorem dX12_wheelWays_136 : decode cX12_wheelWays 136 = .ok (.iload_n 3, 1) := by decide +kernel
theorem dX12_wheelWays_137 : decode cX12_wheelWays 137 = .ok (.i2l, 1) := by decide +kernel
theorem dX12_wheelWays_138 : decode cX12_wheelWays 138 = .ok (.lconst 1, 1) := by decide +kernel
theorem dX12_wheelWays_139 : decode cX12_wheelWays 139 = .ok (.iload 4, 2) := by decide +kernel
theorem dX12_wheelWays_141 : decode cX12_wheelWays 141 = .ok (.i2l, 1) := by decide +kernel
theorem dX12_wheelWays_142 : decode cX12_wheelWays 142 = .ok (.invokestatic 57, 3) := by decide +kernel
theorem dX12_wheelWays_145 : decode cX12_wheelWays 145 = .ok (.ifCond .eq 7, 3) := by decide +kernel
theorem dX12_wheelWays_148 : decode cX12_wheelWays 148 = .ok (.iconst 1, 1) := by decide +kernel
theorem dX12_wheelWays_149 : decode cX12_wheelWays 149 = .ok (.goto 16, 3) := by decide +kernel
theorem dX12_wheelWays_152 : decode cX12_wheelWays 152 = .ok (.iconst 0, 1) := by decide +kernel
theorem dX12_wheelWays_153 : decode cX12_wheelWays 153 = .ok (.goto 12, 3) := by decide +kernel
theorem dX12_wheelWays_156 : decode cX12_wheelWays 156 = .ok (.iload_n 3, 1) := by decide +kernel
theorem dX12_wheelWays_157 : decode cX12_wheelWays 157 = .ok (.ifCond .ne 7, 3) := by decide +kernel
theorem dX12_wheelWays_160 : decode cX12_wheelWays 160 = .ok (.iconst 1, 1) := by decide +kernel
theorem dX12_wheelWays_161 : decode cX12_wheelWays 161 = .ok (.goto 4, 3) := by decide +kernel
theorem dX12_wheelWays_164 : decode cX12_wheelWays 164 = .ok (.iconst 0, 1) := by decide +kernel
theorem dX12_wheelWays_165 : decode cX12_wheelWays 165 = .ok (.ireturn, 1) := by decide +kernel
theorem dX12_anyWays_0 : decode cX12_anyWays 0 = .ok (.iconst 0, 1) := by decide +kernel
theorem dX12_anyWays_1 : decode cX12_anyWays 1 = .ok (.istore 4, 2) := by decide +kernel
theorem dX12_anyWays_3 : decode cX12_anyWays 3 = .ok (.iconst 0, 1) := by decide +kernel
theorem dX12_anyWays_4 : decode cX12_anyWays 4 = .ok (.istore 5, 2) := by decide +kernel
theorem dX12_anyWays_6 : decode cX12_anyWays 6 = .ok (.iconst 0, 1) := by decide +kernel
theorem dX12_anyWays_7 : decode cX12_anyWays 7 = .ok (.istore 6, 2) := by decide +kernel
theorem dX12_anyWays_9 : decode cX12_anyWays 9 = .ok (.iload 6, 2) := by decide +kernel
theorem dX12_anyWays_11 : decode cX12_anyWays 11 = .ok (.aload_n 0, 1) := by decide +kernel
theorem dX12_anyWays_12 : decode cX12_anyWays 12 = .ok (.getfield 130, 3) := by decide +kernel
theorem dX12_anyWays_15 : decode cX12_anyWays 15 = .ok (.if_icmp .ge 41, 3) := by decide +kernel
theorem dX12_anyWays_18 : decode cX12_anyWays 18 = .ok (.aload_n 0, 1) := by decide +kernel
theorem dX12_anyWays_19 : decode cX12_anyWays 19 = .ok (.iload 6, 2) := by decide +kernel
theorem dX12_anyWays_21 : decode cX12_anyWays 21 = .ok (.iload_n 2, 1) := by decide +kernel
theorem dX12_anyWays_22 : decode cX12_anyWays 22 = .ok (.iload_n 3, 1) := by decide +kernel
theorem dX12_anyWays_23 : decode cX12_anyWays 23 = .ok (.invokevirtual 157, 3) := by decide +kernel
theorem dX12_anyWays_26 : decode cX12_anyWays 26 = .ok (.istore 7, 2) := by decide +kernel
theorem dX12_anyWays_28 : decode cX12_anyWays 28 = .ok (.iload 4, 2) := by decide +kernel
theorem dX12_anyWays_30 : decode cX12_anyWays 30 = .ok (.iload 7, 2) := by decide +kernel
theorem dX12_anyWays_32 : decode cX12_anyWays 32 = .ok (.ifCond .ne 7, 3) := by decide +kernel
theorem dX12_anyWays_35 : decode cX12_anyWays 35 = .ok (.iconst 0, 1) := by decide +kernel
theorem dX12_anyWays_36 : decode cX12_anyWays 36 = .ok (.goto 4, 3) := by decide +kernel
theorem dX12_anyWays_39 : decode cX12_anyWays 39 = .ok (.iconst 1, 1) := by decide +kernel
theorem dX12_anyWays_40 : decode cX12_anyWays 40 = .ok (.iadd, 1) := by decide +kernel
theorem dX12_anyWays_41 : decode cX12_anyWays 41 = .ok (.istore 4, 2) := by decide +kernel
theorem dX12_anyWays_43 : decode cX12_anyWays 43 = .ok (.iload 5, 2) := by decide +kernel
theorem dX12_anyWays_45 : decode cX12_anyWays 45 = .ok (.iload 7, 2) := by decide +kernel
theorem dX12_anyWays_47 : decode cX12_anyWays 47 = .ok (.iadd, 1) := by decide +kernel
theorem dX12_anyWays_48 : decode cX12_anyWays 48 = .ok (.istore 5, 2) := by decide +kernel
theorem dX12_anyWays_50 : decode cX12_anyWays 50 = .ok (.iinc 6 1, 3) := by decide +kernel
theorem dX12_anyWays_53 : decode cX12_anyWays 53 = .ok (.goto (-44), 3) := by decide +kernel
theorem dX12_anyWays_56 : decode cX12_anyWays 56 = .ok (.iload 4, 2) := by decide +kernel
theorem dX12_anyWays_58 : decode cX12_anyWays 58 = .ok (.iconst 1, 1) := by decide +kernel
theorem dX12_anyWays_59 : decode cX12_anyWays 59 = .ok (.if_icmp .ne 17, 3) := by decide +kernel
theorem dX12_anyWays_62 : decode cX12_anyWays 62 = .ok (.iload 5, 2) := by decide +kernel
theorem dX12_anyWays_64 : decode cX12_anyWays 64 = .ok (.aload_n 0, 1) := by decide +kernel
theorem dX12_anyWays_65 : decode cX12_anyWays 65 = .ok (.iload_n 1, 1) := by decide +kernel
theorem dX12_anyWays_66 : decode cX12_anyWays 66 = .ok (.invokevirtual 151, 3) := by decide +kernel
theorem dX12_anyWays_69 : decode cX12_anyWays 69 = .ok (.if_icmp .gt 7, 3) := by decide +kernel
theorem dX12_anyWays_72 : decode cX12_anyWays 72 = .ok (.iconst 1, 1) := by decide +kernel
theorem dX12_anyWays_73 : decode cX12_anyWays 73 = .ok (.goto 4, 3) := by decide +kernel
theorem dX12_anyWays_76 : decode cX12_anyWays 76 = .ok (.iconst 0, 1) := by decide +kernel
theorem dX12_anyWays_77 : decode cX12_anyWays 77 = .ok (.ireturn, 1) := by decide +kernel
theorem dX12_waysOf_0 : decode cX12_waysOf 0 = .ok (.aload_n 0, 1) := by decide +kernel
theorem dX12_waysOf_1 : decode cX12_waysOf 1 = .ok (.getfield 13, 3) := by decide +kernel
theorem dX12_waysOf_4 : decode cX12_waysOf 4 = .ok (.iload_n 1, 1) := by decide +kernel
theorem dX12_waysOf_5 : decode cX12_waysOf 5 = .ok (.iaload, 1) := by decide +kernel
theorem dX12_waysOf_6 : decode cX12_waysOf 6 = .ok (.iconst 3, 1) := by decide +kernel
theorem dX12_waysOf_7 : decode cX12_waysOf 7 = .ok (.if_icmp .ne 5, 3) := by decide +kernel
theorem dX12_waysOf_10 : decode cX12_waysOf 10 = .ok (.iconst 1, 1) := by decide +kernel
theorem dX12_waysOf_11 : decode cX12_waysOf 11 = .ok (.ireturn, 1) := by decide +kernel
theorem dX12_waysOf_12 : decode cX12_waysOf 12 = .ok (.aload_n 0, 1) := by decide +kernel
theorem dX12_waysOf_13 : decode cX12_waysOf 13 = .ok (.getfield 13, 3) := by decide +kernel
theorem dX12_waysOf_16 : decode cX12_waysOf 16 = .ok (.iload_n 1, 1) := by decide +kernel
theorem dX12_waysOf_17 : decode cX12_waysOf 17 = .ok (.iaload, 1) := by decide +kernel
theorem dX12_waysOf_18 : decode cX12_waysOf 18 = .ok (.iconst 2, 1) := by decide +kernel
theorem dX12_waysOf_19 : decode cX12_waysOf 19 = .ok (.if_icmp .ne 11, 3) := by decide +kernel
theorem dX12_waysOf_22 : decode cX12_waysOf 22 = .ok (.aload_n 0, 1) := by decide +kernel
theorem dX12_waysOf_23 : decode cX12_waysOf 23 = .ok (.iload_n 1, 1) := by decide +kernel
theorem dX12_waysOf_24 : decode cX12_waysOf 24 = .ok (.iload_n 2, 1) := by decide +kernel
theorem dX12_waysOf_25 : decode cX12_waysOf 25 = .ok (.iload_n 3, 1) := by decide +kernel
theorem dX12_waysOf_26 : decode cX12_waysOf 26 = .ok (.invokevirtual 161, 3) := by decide +kernel
theorem dX12_waysOf_29 : decode cX12_waysOf 29 = .ok (.ireturn, 1) := by decide +kernel
theorem dX12_waysOf_30 : decode cX12_waysOf 30 = .ok (.iconst 1, 1) := by decide +kernel
theorem dX12_waysOf_31 : decode cX12_waysOf 31 = .ok (.istore 4, 2) := by decide +kernel
theorem dX12_waysOf_33 : decode cX12_waysOf 33 = .ok (.iconst 0, 1) := by decide +kernel
theorem dX12_waysOf_34 : decode cX12_waysOf 34 = .ok (.istore 5, 2) := by decide +kernel
theorem dX12_waysOf_36 : decode cX12_waysOf 36 = .ok (.iload 5, 2) := by decide +kernel
theorem dX12_waysOf_38 : decode cX12_waysOf 38 = .ok (.aload_n 0, 1) := by decide +kernel
theorem dX12_waysOf_39 : decode cX12_waysOf 39 = .ok (.getfield 130, 3) := by decide +kernel
theorem dX12_waysOf_42 : decode cX12_waysOf 42 = .ok (.if_icmp .ge 29, 3) := by decide +kernel
theorem dX12_waysOf_45 : decode cX12_waysOf 45 = .ok (.iload 4, 2) := by decide +kernel
theorem dX12_waysOf_47 : decode cX12_waysOf 47 = .ok (.aload_n 0, 1) := by decide +kernel
theorem dX12_waysOf_48 : decode cX12_waysOf 48 = .ok (.iload_n 1, 1) := by decide +kernel
theorem dX12_waysOf_49 : decode cX12_waysOf 49 = .ok (.iload 5, 2) := by decide +kernel
theorem dX12_waysOf_51 : decode cX12_waysOf 51 = .ok (.aload_n 0, 1) := by decide +kernel
theorem dX12_waysOf_52 : decode cX12_waysOf 52 = .ok (.iload 5, 2) := by decide +kernel
theorem dX12_waysOf_54 : decode cX12_waysOf 54 = .ok (.iload_n 2, 1) := by decide +kernel
theorem dX12_waysOf_55 : decode cX12_waysOf 55 = .ok (.iload_n 3, 1) := by decide +kernel
theorem dX12_waysOf_56 : decode cX12_waysOf 56 = .ok (.invokevirtual 157, 3) := by decide +kernel
theorem dX12_waysOf_59 : decode cX12_waysOf 59 = .ok (.invokevirtual 164, 3) := by decide +kernel
theorem dX12_waysOf_62 : decode cX12_waysOf 62 = .ok (.imul, 1) := by decide +kernel
theorem dX12_waysOf_63 : decode cX12_waysOf 63 = .ok (.istore 4, 2) := by decide +kernel
theorem dX12_waysOf_65 : decode cX12_waysOf 65 = .ok (.iinc 5 1, 3) := by decide +kernel
theorem dX12_waysOf_68 : decode cX12_waysOf 68 = .ok (.goto (-32), 3) := by decide +kernel
theorem dX12_waysOf_71 : decode cX12_waysOf 71 = .ok (.iload 4, 2) := by decide +kernel
theorem dX12_waysOf_73 : decode cX12_waysOf 73 = .ok (.ireturn, 1) := by decide +kernel
theorem dX12_twoAtMost_0 : decode cX12_twoAtMost 0 = .ok (.aload_n 0, 1) := by decide +kernel
theorem dX12_twoAtMost_1 : decode cX12_twoAtMost 1 = .ok (.getfield 130, 3) := by decide +kernel
theorem dX12_twoAtMost_4 : decode cX12_twoAtMost 4 = .ok (.iconst 2, 1) := by decide +kernel
theorem dX12_twoAtMost_5 : decode cX12_twoAtMost 5 = .ok (.if_icmp .ge 10, 3) := by decide +kernel
theorem dX12_twoAtMost_8 : decode cX12_twoAtMost 8 = .ok (.aload_n 0, 1) := by decide +kernel
theorem dX12_twoAtMost_9 : decode cX12_twoAtMost 9 = .ok (.getfield 130, 3) := by decide +kernel
theorem dX12_twoAtMost_12 : decode cX12_twoAtMost 12 = .ok (.goto 4, 3) := by decide +kernel
theorem dX12_twoAtMost_15 : decode cX12_twoAtMost 15 = .ok (.iconst 2, 1) := by decide +kernel
theorem dX12_twoAtMost_16 : decode cX12_twoAtMost 16 = .ok (.ireturn, 1) := by decide +kernel
theorem dX12_waysInAll_0 : decode cX12_waysInAll 0 = .ok (.aload_n 0, 1) := by decide +kernel
theorem dX12_waysInAll_1 : decode cX12_waysInAll 1 = .ok (.iload_n 1, 1) := by decide +kernel
theorem dX12_waysInAll_2 : decode cX12_waysInAll 2 = .ok (.invokevirtual 151, 3) := by decide +kernel
theorem dX12_waysInAll_5 : decode cX12_waysInAll 5 = .ok (.istore_n 2, 1) := by decide +kernel
theorem dX12_waysInAll_6 : decode cX12_waysInAll 6 = .ok (.aload_n 0, 1) := by decide +kernel
theorem dX12_waysInAll_7 : decode cX12_waysInAll 7 = .ok (.getfield 13, 3) := by decide +kernel
theorem dX12_waysInAll_10 : decode cX12_waysInAll 10 = .ok (.iload_n 1, 1) := by decide +kernel
theorem dX12_waysInAll_11 : decode cX12_waysInAll 11 = .ok (.iaload, 1) := by decide +kernel
theorem dX12_waysInAll_12 : decode cX12_waysInAll 12 = .ok (.tableswitch 74 1 5 #[36, 40, 47, 52, 63], 36) := by decide +kernel
theorem dX12_waysInAll_48 : decode cX12_waysInAll 48 = .ok (.iconst 2, 1) := by decide +kernel
theorem dX12_waysInAll_49 : decode cX12_waysInAll 49 = .ok (.iload_n 2, 1) := by decide +kernel
theorem dX12_waysInAll_50 : decode cX12_waysInAll 50 = .ok (.imul, 1) := by decide +kernel
theorem dX12_waysInAll_51 : decode cX12_waysInAll 51 = .ok (.ireturn, 1) := by decide +kernel
end
section
theorem dX12_waysInAll_52 : decode cX12_waysInAll 52 = .ok (.aload_n 0, 1) := by decide +kernel
theorem dX12_waysInAll_53 : decode cX12_waysInAll 53 = .ok (.getfield 130, 3) := by decide +kernel
theorem dX12_waysInAll_56 : decode cX12_waysInAll 56 = .ok (.iload_n 2, 1) := by decide +kernel
theorem dX12_waysInAll_57 : decode cX12_waysInAll 57 = .ok (.imul, 1) := by decide +kernel
theorem dX12_waysInAll_58 : decode cX12_waysInAll 58 = .ok (.ireturn, 1) := by decide +kernel
theorem dX12_waysInAll_59 : decode cX12_waysInAll 59 = .ok (.aload_n 0, 1) := by decide +kernel
theorem dX12_waysInAll_60 : decode cX12_waysInAll 60 = .ok (.getfield 139, 3) := by decide +kernel
theorem dX12_waysInAll_63 : decode cX12_waysInAll 63 = .ok (.ireturn, 1) := by decide +kernel
theorem dX12_waysInAll_64 : decode cX12_waysInAll 64 = .ok (.iconst 2, 1) := by decide +kernel
theorem dX12_waysInAll_65 : decode cX12_waysInAll 65 = .ok (.iload_n 2, 1) := by decide +kernel
theorem dX12_waysInAll_66 : decode cX12_waysInAll 66 = .ok (.imul, 1) := by decide +kernel
theorem dX12_waysInAll_67 : decode cX12_waysInAll 67 = .ok (.aload_n 0, 1) := by decide +kernel
theorem dX12_waysInAll_68 : decode cX12_waysInAll 68 = .ok (.invokevirtual 167, 3) := by decide +kernel
theorem dX12_waysInAll_71 : decode cX12_waysInAll 71 = .ok (.invokestatic 136, 3) := by decide +kernel
theorem dX12_waysInAll_74 : decode cX12_waysInAll 74 = .ok (.ireturn, 1) := by decide +kernel
theorem dX12_waysInAll_75 : decode cX12_waysInAll 75 = .ok (.iload_n 2, 1) := by decide +kernel
theorem dX12_waysInAll_76 : decode cX12_waysInAll 76 = .ok (.iconst 1, 1) := by decide +kernel
theorem dX12_waysInAll_77 : decode cX12_waysInAll 77 = .ok (.iadd, 1) := by decide +kernel
theorem dX12_waysInAll_78 : decode cX12_waysInAll 78 = .ok (.aload_n 0, 1) := by decide +kernel
theorem dX12_waysInAll_79 : decode cX12_waysInAll 79 = .ok (.getfield 130, 3) := by decide +kernel
theorem dX12_waysInAll_82 : decode cX12_waysInAll 82 = .ok (.invokestatic 136, 3) := by decide +kernel
theorem dX12_waysInAll_85 : decode cX12_waysInAll 85 = .ok (.ireturn, 1) := by decide +kernel
theorem dX12_waysInAll_86 : decode cX12_waysInAll 86 = .ok (.iload_n 2, 1) := by decide +kernel
theorem dX12_waysInAll_87 : decode cX12_waysInAll 87 = .ok (.ireturn, 1) := by decide +kernel
theorem dX12_weightBy_0 : decode cX12_weightBy 0 = .ok (.iload_n 3, 1) := by decide +kernel
theorem dX12_weightBy_1 : decode cX12_weightBy 1 = .ok (.bipush (-9), 2) := by decide +kernel
theorem dX12_weightBy_3 : decode cX12_weightBy 3 = .ok (.if_icmp .ne 18, 3) := by decide +kernel
theorem dX12_weightBy_6 : decode cX12_weightBy 6 = .ok (.iload 5, 2) := by decide +kernel
theorem dX12_weightBy_8 : decode cX12_weightBy 8 = .ok (.iload 4, 2) := by decide +kernel
theorem dX12_weightBy_10 : decode cX12_weightBy 10 = .ok (.if_icmp .ne 7, 3) := by decide +kernel
theorem dX12_weightBy_13 : decode cX12_weightBy 13 = .ok (.lconst 0, 1) := by decide +kernel
theorem dX12_weightBy_14 : decode cX12_weightBy 14 = .ok (.goto 19, 3) := by decide +kernel
theorem dX12_weightBy_17 : decode cX12_weightBy 17 = .ok (.lload_n 1, 1) := by decide +kernel
theorem dX12_weightBy_18 : decode cX12_weightBy 18 = .ok (.goto 15, 3) := by decide +kernel
theorem dX12_weightBy_21 : decode cX12_weightBy 21 = .ok (.lload_n 1, 1) := by decide +kernel
theorem dX12_weightBy_22 : decode cX12_weightBy 22 = .ok (.aload_n 0, 1) := by decide +kernel
theorem dX12_weightBy_23 : decode cX12_weightBy 23 = .ok (.iload_n 3, 1) := by decide +kernel
theorem dX12_weightBy_24 : decode cX12_weightBy 24 = .ok (.iload 5, 2) := by decide +kernel
theorem dX12_weightBy_26 : decode cX12_weightBy 26 = .ok (.iload 4, 2) := by decide +kernel
theorem dX12_weightBy_28 : decode cX12_weightBy 28 = .ok (.invokevirtual 170, 3) := by decide +kernel
theorem dX12_weightBy_31 : decode cX12_weightBy 31 = .ok (.i2l, 1) := by decide +kernel
theorem dX12_weightBy_32 : decode cX12_weightBy 32 = .ok (.lmul, 1) := by decide +kernel
theorem dX12_weightBy_33 : decode cX12_weightBy 33 = .ok (.lreturn, 1) := by decide +kernel
theorem dX12_layWeights_0 : decode cX12_layWeights 0 = .ok (.iconst 0, 1) := by decide +kernel
theorem dX12_layWeights_1 : decode cX12_layWeights 1 = .ok (.istore_n 1, 1) := by decide +kernel
theorem dX12_layWeights_2 : decode cX12_layWeights 2 = .ok (.iload_n 1, 1) := by decide +kernel
theorem dX12_layWeights_3 : decode cX12_layWeights 3 = .ok (.aload_n 0, 1) := by decide +kernel
theorem dX12_layWeights_4 : decode cX12_layWeights 4 = .ok (.getfield 139, 3) := by decide +kernel
theorem dX12_layWeights_7 : decode cX12_layWeights 7 = .ok (.if_icmp .ge 69, 3) := by decide +kernel
theorem dX12_layWeights_10 : decode cX12_layWeights 10 = .ok (.aload_n 0, 1) := by decide +kernel
theorem dX12_layWeights_11 : decode cX12_layWeights 11 = .ok (.getfield 16, 3) := by decide +kernel
theorem dX12_layWeights_14 : decode cX12_layWeights 14 = .ok (.iload_n 1, 1) := by decide +kernel
theorem dX12_layWeights_15 : decode cX12_layWeights 15 = .ok (.lconst 1, 1) := by decide +kernel
theorem dX12_layWeights_16 : decode cX12_layWeights 16 = .ok (.lastore, 1) := by decide +kernel
theorem dX12_layWeights_17 : decode cX12_layWeights 17 = .ok (.iconst 0, 1) := by decide +kernel
theorem dX12_layWeights_18 : decode cX12_layWeights 18 = .ok (.istore_n 2, 1) := by decide +kernel
theorem dX12_layWeights_19 : decode cX12_layWeights 19 = .ok (.iload_n 2, 1) := by decide +kernel
theorem dX12_layWeights_20 : decode cX12_layWeights 20 = .ok (.aload_n 0, 1) := by decide +kernel
theorem dX12_layWeights_21 : decode cX12_layWeights 21 = .ok (.getfield 7, 3) := by decide +kernel
theorem dX12_layWeights_24 : decode cX12_layWeights 24 = .ok (.iconst 0, 1) := by decide +kernel
theorem dX12_layWeights_25 : decode cX12_layWeights 25 = .ok (.iaload, 1) := by decide +kernel
theorem dX12_layWeights_26 : decode cX12_layWeights 26 = .ok (.if_icmp .ge 44, 3) := by decide +kernel
theorem dX12_layWeights_29 : decode cX12_layWeights 29 = .ok (.aload_n 0, 1) := by decide +kernel
theorem dX12_layWeights_30 : decode cX12_layWeights 30 = .ok (.getfield 16, 3) := by decide +kernel
theorem dX12_layWeights_33 : decode cX12_layWeights 33 = .ok (.iload_n 1, 1) := by decide +kernel
theorem dX12_layWeights_34 : decode cX12_layWeights 34 = .ok (.aload_n 0, 1) := by decide +kernel
theorem dX12_layWeights_35 : decode cX12_layWeights 35 = .ok (.aload_n 0, 1) := by decide +kernel
theorem dX12_layWeights_36 : decode cX12_layWeights 36 = .ok (.getfield 16, 3) := by decide +kernel
theorem dX12_layWeights_39 : decode cX12_layWeights 39 = .ok (.iload_n 1, 1) := by decide +kernel
theorem dX12_layWeights_40 : decode cX12_layWeights 40 = .ok (.laload, 1) := by decide +kernel
theorem dX12_layWeights_41 : decode cX12_layWeights 41 = .ok (.aload_n 0, 1) := by decide +kernel
theorem dX12_layWeights_42 : decode cX12_layWeights 42 = .ok (.getfield 7, 3) := by decide +kernel
theorem dX12_layWeights_45 : decode cX12_layWeights 45 = .ok (.bipush 6, 2) := by decide +kernel
theorem dX12_layWeights_47 : decode cX12_layWeights 47 = .ok (.iload_n 2, 1) := by decide +kernel
theorem dX12_layWeights_48 : decode cX12_layWeights 48 = .ok (.iadd, 1) := by decide +kernel
theorem dX12_layWeights_49 : decode cX12_layWeights 49 = .ok (.iaload, 1) := by decide +kernel
theorem dX12_layWeights_50 : decode cX12_layWeights 50 = .ok (.aload_n 0, 1) := by decide +kernel
theorem dX12_layWeights_51 : decode cX12_layWeights 51 = .ok (.getfield 7, 3) := by decide +kernel
theorem dX12_layWeights_54 : decode cX12_layWeights 54 = .ok (.bipush 22, 2) := by decide +kernel
theorem dX12_layWeights_56 : decode cX12_layWeights 56 = .ok (.iload_n 2, 1) := by decide +kernel
theorem dX12_layWeights_57 : decode cX12_layWeights 57 = .ok (.iadd, 1) := by decide +kernel
theorem dX12_layWeights_58 : decode cX12_layWeights 58 = .ok (.iaload, 1) := by decide +kernel
theorem dX12_layWeights_59 : decode cX12_layWeights 59 = .ok (.iload_n 1, 1) := by decide +kernel
theorem dX12_layWeights_60 : decode cX12_layWeights 60 = .ok (.invokevirtual 173, 3) := by decide +kernel
theorem dX12_layWeights_63 : decode cX12_layWeights 63 = .ok (.lastore, 1) := by decide +kernel
theorem dX12_layWeights_64 : decode cX12_layWeights 64 = .ok (.iinc 2 1, 3) := by decide +kernel
theorem dX12_layWeights_67 : decode cX12_layWeights 67 = .ok (.goto (-48), 3) := by decide +kernel
theorem dX12_layWeights_70 : decode cX12_layWeights 70 = .ok (.iinc 1 1, 3) := by decide +kernel
theorem dX12_layWeights_73 : decode cX12_layWeights 73 = .ok (.goto (-71), 3) := by decide +kernel
theorem dX12_layWeights_76 : decode cX12_layWeights 76 = .ok (.return_, 1) := by decide +kernel
theorem dX12_possible_0 : decode cX12_possible 0 = .ok (.iconst 0, 1) := by decide +kernel
theorem dX12_possible_1 : decode cX12_possible 1 = .ok (.istore_n 1, 1) := by decide +kernel
theorem dX12_possible_2 : decode cX12_possible 2 = .ok (.iconst 0, 1) := by decide +kernel
theorem dX12_possible_3 : decode cX12_possible 3 = .ok (.istore_n 2, 1) := by decide +kernel
theorem dX12_possible_4 : decode cX12_possible 4 = .ok (.iload_n 2, 1) := by decide +kernel
theorem dX12_possible_5 : decode cX12_possible 5 = .ok (.aload_n 0, 1) := by decide +kernel
theorem dX12_possible_6 : decode cX12_possible 6 = .ok (.getfield 139, 3) := by decide +kernel
theorem dX12_possible_9 : decode cX12_possible 9 = .ok (.if_icmp .ge 28, 3) := by decide +kernel
theorem dX12_possible_12 : decode cX12_possible 12 = .ok (.iload_n 1, 1) := by decide +kernel
theorem dX12_possible_13 : decode cX12_possible 13 = .ok (.aload_n 0, 1) := by decide +kernel
theorem dX12_possible_14 : decode cX12_possible 14 = .ok (.getfield 16, 3) := by decide +kernel
theorem dX12_possible_17 : decode cX12_possible 17 = .ok (.iload_n 2, 1) := by decide +kernel
theorem dX12_possible_18 : decode cX12_possible 18 = .ok (.laload, 1) := by decide +kernel
theorem dX12_possible_19 : decode cX12_possible 19 = .ok (.lconst 0, 1) := by decide +kernel
theorem dX12_possible_20 : decode cX12_possible 20 = .ok (.lcmp, 1) := by decide +kernel
theorem dX12_possible_21 : decode cX12_possible 21 = .ok (.ifCond .le 7, 3) := by decide +kernel
theorem dX12_possible_24 : decode cX12_possible 24 = .ok (.iconst 1, 1) := by decide +kernel
theorem dX12_possible_25 : decode cX12_possible 25 = .ok (.goto 4, 3) := by decide +kernel
theorem dX12_possible_28 : decode cX12_possible 28 = .ok (.iconst 0, 1) := by decide +kernel
theorem dX12_possible_29 : decode cX12_possible 29 = .ok (.iadd, 1) := by decide +kernel
theorem dX12_possible_30 : decode cX12_possible 30 = .ok (.istore_n 1, 1) := by decide +kernel
theorem dX12_possible_31 : decode cX12_possible 31 = .ok (.iinc 2 1, 3) := by decide +kernel
theorem dX12_possible_34 : decode cX12_possible 34 = .ok (.goto (-30), 3) := by decide +kernel
theorem dX12_possible_37 : decode cX12_possible 37 = .ok (.iload_n 1, 1) := by decide +kernel
theorem dX12_possible_38 : decode cX12_possible 38 = .ok (.ireturn, 1) := by decide +kernel
theorem dX12_allWeights_0 : decode cX12_allWeights 0 = .ok (.lconst 0, 1) := by decide +kernel
theorem dX12_allWeights_1 : decode cX12_allWeights 1 = .ok (.lstore_n 1, 1) := by decide +kernel
theorem dX12_allWeights_2 : decode cX12_allWeights 2 = .ok (.iconst 0, 1) := by decide +kernel
theorem dX12_allWeights_3 : decode cX12_allWeights 3 = .ok (.istore_n 3, 1) := by decide +kernel
theorem dX12_allWeights_4 : decode cX12_allWeights 4 = .ok (.iload_n 3, 1) := by decide +kernel
theorem dX12_allWeights_5 : decode cX12_allWeights 5 = .ok (.aload_n 0, 1) := by decide +kernel
theorem dX12_allWeights_6 : decode cX12_allWeights 6 = .ok (.getfield 139, 3) := by decide +kernel
theorem dX12_allWeights_9 : decode cX12_allWeights 9 = .ok (.if_icmp .ge 18, 3) := by decide +kernel
theorem dX12_allWeights_12 : decode cX12_allWeights 12 = .ok (.lload_n 1, 1) := by decide +kernel
theorem dX12_allWeights_13 : decode cX12_allWeights 13 = .ok (.aload_n 0, 1) := by decide +kernel
theorem dX12_allWeights_14 : decode cX12_allWeights 14 = .ok (.getfield 16, 3) := by decide +kernel
theorem dX12_allWeights_17 : decode cX12_allWeights 17 = .ok (.iload_n 3, 1) := by decide +kernel
theorem dX12_allWeights_18 : decode cX12_allWeights 18 = .ok (.laload, 1) := by decide +kernel
theorem dX12_allWeights_19 : decode cX12_allWeights 19 = .ok (.ladd, 1) := by decide +kernel
theorem dX12_allWeights_20 : decode cX12_allWeights 20 = .ok (.lstore_n 1, 1) := by decide +kernel
theorem dX12_allWeights_21 : decode cX12_allWeights 21 = .ok (.iinc 3 1, 3) := by decide +kernel
theorem dX12_allWeights_24 : decode cX12_allWeights 24 = .ok (.goto (-20), 3) := by decide +kernel
theorem dX12_allWeights_27 : decode cX12_allWeights 27 = .ok (.lload_n 1, 1) := by decide +kernel
theorem dX12_allWeights_28 : decode cX12_allWeights 28 = .ok (.lreturn, 1) := by decide +kernel
theorem dX12_lookedAt_0 : decode cX12_lookedAt 0 = .ok (.iconst 0, 1) := by decide +kernel
theorem dX12_lookedAt_1 : decode cX12_lookedAt 1 = .ok (.istore_n 2, 1) := by decide +kernel
theorem dX12_lookedAt_2 : decode cX12_lookedAt 2 = .ok (.iconst 0, 1) := by decide +kernel
theorem dX12_lookedAt_3 : decode cX12_lookedAt 3 = .ok (.istore_n 3, 1) := by decide +kernel
theorem dX12_lookedAt_4 : decode cX12_lookedAt 4 = .ok (.iload_n 3, 1) := by decide +kernel
theorem dX12_lookedAt_5 : decode cX12_lookedAt 5 = .ok (.aload_n 0, 1) := by decide +kernel
theorem dX12_lookedAt_6 : decode cX12_lookedAt 6 = .ok (.getfield 7, 3) := by decide +kernel
theorem dX12_lookedAt_9 : decode cX12_lookedAt 9 = .ok (.iconst 0, 1) := by decide +kernel
theorem dX12_lookedAt_10 : decode cX12_lookedAt 10 = .ok (.iaload, 1) := by decide +kernel
theorem dX12_lookedAt_11 : decode cX12_lookedAt 11 = .ok (.if_icmp .ge 30, 3) := by decide +kernel
theorem dX12_lookedAt_14 : decode cX12_lookedAt 14 = .ok (.iload_n 2, 1) := by decide +kernel
theorem dX12_lookedAt_15 : decode cX12_lookedAt 15 = .ok (.aload_n 0, 1) := by decide +kernel
theorem dX12_lookedAt_16 : decode cX12_lookedAt 16 = .ok (.getfield 7, 3) := by decide +kernel
theorem dX12_lookedAt_19 : decode cX12_lookedAt 19 = .ok (.bipush 6, 2) := by decide +kernel
theorem dX12_lookedAt_21 : decode cX12_lookedAt 21 = .ok (.iload_n 3, 1) := by decide +kernel
theorem dX12_lookedAt_22 : decode cX12_lookedAt 22 = .ok (.iadd, 1) := by decide +kernel
theorem dX12_lookedAt_23 : decode cX12_lookedAt 23 = .ok (.iaload, 1) := by decide +kernel
theorem dX12_lookedAt_24 : decode cX12_lookedAt 24 = .ok (.iload_n 1, 1) := by decide +kernel
theorem dX12_lookedAt_25 : decode cX12_lookedAt 25 = .ok (.if_icmp .ne 7, 3) := by decide +kernel
theorem dX12_lookedAt_28 : decode cX12_lookedAt 28 = .ok (.iconst 1, 1) := by decide +kernel
theorem dX12_lookedAt_29 : decode cX12_lookedAt 29 = .ok (.goto 4, 3) := by decide +kernel
theorem dX12_lookedAt_32 : decode cX12_lookedAt 32 = .ok (.iconst 0, 1) := by decide +kernel
theorem dX12_lookedAt_33 : decode cX12_lookedAt 33 = .ok (.iadd, 1) := by decide +kernel
theorem dX12_lookedAt_34 : decode cX12_lookedAt 34 = .ok (.istore_n 2, 1) := by decide +kernel
theorem dX12_lookedAt_35 : decode cX12_lookedAt 35 = .ok (.iinc 3 1, 3) := by decide +kernel
theorem dX12_lookedAt_38 : decode cX12_lookedAt 38 = .ok (.goto (-34), 3) := by decide +kernel
theorem dX12_lookedAt_41 : decode cX12_lookedAt 41 = .ok (.iload_n 2, 1) := by decide +kernel
theorem dX12_lookedAt_42 : decode cX12_lookedAt 42 = .ok (.ireturn, 1) := by decide +kernel
theorem dX12_toldOf_0 : decode cX12_toldOf 0 = .ok (.iload_n 2, 1) := by decide +kernel
theorem dX12_toldOf_1 : decode cX12_toldOf 1 = .ok (.ifCond .ne 12, 3) := by decide +kernel
theorem dX12_toldOf_4 : decode cX12_toldOf 4 = .ok (.aload_n 0, 1) := by decide +kernel
theorem dX12_toldOf_5 : decode cX12_toldOf 5 = .ok (.getfield 13, 3) := by decide +kernel
theorem dX12_toldOf_8 : decode cX12_toldOf 8 = .ok (.iload_n 1, 1) := by decide +kernel
theorem dX12_toldOf_9 : decode cX12_toldOf 9 = .ok (.iaload, 1) := by decide +kernel
theorem dX12_toldOf_10 : decode cX12_toldOf 10 = .ok (.goto 34, 3) := by decide +kernel
theorem dX12_toldOf_13 : decode cX12_toldOf 13 = .ok (.iload_n 2, 1) := by decide +kernel
theorem dX12_toldOf_14 : decode cX12_toldOf 14 = .ok (.iconst 1, 1) := by decide +kernel
theorem dX12_toldOf_15 : decode cX12_toldOf 15 = .ok (.if_icmp .ne 11, 3) := by decide +kernel
theorem dX12_toldOf_18 : decode cX12_toldOf 18 = .ok (.aload_n 0, 1) := by decide +kernel
theorem dX12_toldOf_19 : decode cX12_toldOf 19 = .ok (.iload_n 1, 1) := by decide +kernel
theorem dX12_toldOf_20 : decode cX12_toldOf 20 = .ok (.invokevirtual 151, 3) := by decide +kernel
theorem dX12_toldOf_23 : decode cX12_toldOf 23 = .ok (.goto 21, 3) := by decide +kernel
theorem dX12_toldOf_26 : decode cX12_toldOf 26 = .ok (.iload_n 2, 1) := by decide +kernel
theorem dX12_toldOf_27 : decode cX12_toldOf 27 = .ok (.iconst 2, 1) := by decide +kernel
theorem dX12_toldOf_28 : decode cX12_toldOf 28 = .ok (.if_icmp .ne 11, 3) := by decide +kernel
theorem dX12_toldOf_31 : decode cX12_toldOf 31 = .ok (.aload_n 0, 1) := by decide +kernel
theorem dX12_toldOf_32 : decode cX12_toldOf 32 = .ok (.iload_n 1, 1) := by decide +kernel
theorem dX12_toldOf_33 : decode cX12_toldOf 33 = .ok (.invokevirtual 177, 3) := by decide +kernel
theorem dX12_toldOf_36 : decode cX12_toldOf 36 = .ok (.goto 8, 3) := by decide +kernel
theorem dX12_toldOf_39 : decode cX12_toldOf 39 = .ok (.aload_n 0, 1) := by decide +kernel
theorem dX12_toldOf_40 : decode cX12_toldOf 40 = .ok (.iload_n 1, 1) := by decide +kernel
theorem dX12_toldOf_41 : decode cX12_toldOf 41 = .ok (.invokevirtual 180, 3) := by decide +kernel
theorem dX12_toldOf_44 : decode cX12_toldOf 44 = .ok (.ireturn, 1) := by decide +kernel
theorem dX12_person_0 : decode cX12_person 0 = .ok (.aload_n 0, 1) := by decide +kernel
theorem dX12_person_1 : decode cX12_person 1 = .ok (.iload_n 1, 1) := by decide +kernel
theorem dX12_person_2 : decode cX12_person 2 = .ok (.invokevirtual 183, 3) := by decide +kernel
theorem dX12_person_5 : decode cX12_person 5 = .ok (.ifCond .eq 28, 3) := by decide +kernel
theorem dX12_person_8 : decode cX12_person 8 = .ok (.iload_n 2, 1) := by decide +kernel
theorem dX12_person_9 : decode cX12_person 9 = .ok (.i2l, 1) := by decide +kernel
theorem dX12_person_10 : decode cX12_person 10 = .ok (.lconst 0, 1) := by decide +kernel
theorem dX12_person_11 : decode cX12_person 11 = .ok (.ldc2_w 61, 3) := by decide +kernel
theorem dX12_person_14 : decode cX12_person 14 = .ok (.invokestatic 57, 3) := by decide +kernel
theorem dX12_person_17 : decode cX12_person 17 = .ok (.ifCond .eq 16, 3) := by decide +kernel
theorem dX12_person_20 : decode cX12_person 20 = .ok (.aload_n 0, 1) := by decide +kernel
theorem dX12_person_21 : decode cX12_person 21 = .ok (.aload_n 0, 1) := by decide +kernel
theorem dX12_person_22 : decode cX12_person 22 = .ok (.iload_n 1, 1) := by decide +kernel
theorem dX12_person_23 : decode cX12_person 23 = .ok (.iload_n 2, 1) := by decide +kernel
theorem dX12_person_24 : decode cX12_person 24 = .ok (.invokevirtual 186, 3) := by decide +kernel
theorem dX12_person_27 : decode cX12_person 27 = .ok (.invokevirtual 79, 3) := by decide +kernel
theorem dX12_person_30 : decode cX12_person 30 = .ok (.goto 4, 3) := by decide +kernel
theorem dX12_person_33 : decode cX12_person 33 = .ok (.iconst (-1), 1) := by decide +kernel
theorem dX12_person_34 : decode cX12_person 34 = .ok (.ireturn, 1) := by decide +kernel
theorem dX12_isOf_0 : decode cX12_isOf 0 = .ok (.aload_n 0, 1) := by decide +kernel
theorem dX12_isOf_1 : decode cX12_isOf 1 = .ok (.getfield 13, 3) := by decide +kernel
theorem dX12_isOf_4 : decode cX12_isOf 4 = .ok (.iload_n 1, 1) := by decide +kernel
theorem dX12_isOf_5 : decode cX12_isOf 5 = .ok (.iaload, 1) := by decide +kernel
theorem dX12_isOf_6 : decode cX12_isOf 6 = .ok (.iload_n 2, 1) := by decide +kernel
theorem dX12_isOf_7 : decode cX12_isOf 7 = .ok (.if_icmp .eq 33, 3) := by decide +kernel
theorem dX12_isOf_10 : decode cX12_isOf 10 = .ok (.iload_n 2, 1) := by decide +kernel
theorem dX12_isOf_11 : decode cX12_isOf 11 = .ok (.iconst 1, 1) := by decide +kernel
theorem dX12_isOf_12 : decode cX12_isOf 12 = .ok (.if_icmp .ne 13, 3) := by decide +kernel
theorem dX12_isOf_15 : decode cX12_isOf 15 = .ok (.aload_n 0, 1) := by decide +kernel
theorem dX12_isOf_16 : decode cX12_isOf 16 = .ok (.getfield 13, 3) := by decide +kernel
theorem dX12_isOf_19 : decode cX12_isOf 19 = .ok (.iload_n 1, 1) := by decide +kernel
theorem dX12_isOf_20 : decode cX12_isOf 20 = .ok (.iaload, 1) := by decide +kernel
theorem dX12_isOf_21 : decode cX12_isOf 21 = .ok (.iconst 4, 1) := by decide +kernel
theorem dX12_isOf_22 : decode cX12_isOf 22 = .ok (.if_icmp .eq 18, 3) := by decide +kernel
theorem dX12_isOf_25 : decode cX12_isOf 25 = .ok (.iload_n 2, 1) := by decide +kernel
theorem dX12_isOf_26 : decode cX12_isOf 26 = .ok (.iconst 2, 1) := by decide +kernel
theorem dX12_isOf_27 : decode cX12_isOf 27 = .ok (.if_icmp .ne 17, 3) := by decide +kernel
theorem dX12_isOf_30 : decode cX12_isOf 30 = .ok (.aload_n 0, 1) := by decide +kernel
theorem dX12_isOf_31 : decode cX12_isOf 31 = .ok (.getfield 13, 3) := by decide +kernel
theorem dX12_isOf_34 : decode cX12_isOf 34 = .ok (.iload_n 1, 1) := by decide +kernel
theorem dX12_isOf_35 : decode cX12_isOf 35 = .ok (.iaload, 1) := by decide +kernel
theorem dX12_isOf_36 : decode cX12_isOf 36 = .ok (.iconst 5, 1) := by decide +kernel
theorem dX12_isOf_37 : decode cX12_isOf 37 = .ok (.if_icmp .ne 7, 3) := by decide +kernel
theorem dX12_isOf_40 : decode cX12_isOf 40 = .ok (.iconst 1, 1) := by decide +kernel
theorem dX12_isOf_41 : decode cX12_isOf 41 = .ok (.goto 4, 3) := by decide +kernel
theorem dX12_isOf_44 : decode cX12_isOf 44 = .ok (.iconst 0, 1) := by decide +kernel
theorem dX12_isOf_45 : decode cX12_isOf 45 = .ok (.ireturn, 1) := by decide +kernel
theorem dX12_sightsFrom_0 : decode cX12_sightsFrom 0 = .ok (.iconst 0, 1) := by decide +kernel
theorem dX12_sightsFrom_1 : decode cX12_sightsFrom 1 = .ok (.istore_n 2, 1) := by decide +kernel
theorem dX12_sightsFrom_2 : decode cX12_sightsFrom 2 = .ok (.iconst 0, 1) := by decide +kernel
theorem dX12_sightsFrom_3 : decode cX12_sightsFrom 3 = .ok (.istore_n 3, 1) := by decide +kernel
theorem dX12_sightsFrom_4 : decode cX12_sightsFrom 4 = .ok (.iload_n 3, 1) := by decide +kernel
theorem dX12_sightsFrom_5 : decode cX12_sightsFrom 5 = .ok (.aload_n 0, 1) := by decide +kernel
theorem dX12_sightsFrom_6 : decode cX12_sightsFrom 6 = .ok (.getfield 139, 3) := by decide +kernel
theorem dX12_sightsFrom_9 : decode cX12_sightsFrom 9 = .ok (.if_icmp .ge 27, 3) := by decide +kernel
theorem dX12_sightsFrom_12 : decode cX12_sightsFrom 12 = .ok (.iload_n 2, 1) := by decide +kernel
theorem dX12_sightsFrom_13 : decode cX12_sightsFrom 13 = .ok (.aload_n 0, 1) := by decide +kernel
theorem dX12_sightsFrom_14 : decode cX12_sightsFrom 14 = .ok (.iload_n 1, 1) := by decide +kernel
theorem dX12_sightsFrom_15 : decode cX12_sightsFrom 15 = .ok (.iconst 0, 1) := by decide +kernel
theorem dX12_sightsFrom_16 : decode cX12_sightsFrom 16 = .ok (.iload_n 3, 1) := by decide +kernel
theorem dX12_sightsFrom_17 : decode cX12_sightsFrom 17 = .ok (.invokevirtual 170, 3) := by decide +kernel
theorem dX12_sightsFrom_20 : decode cX12_sightsFrom 20 = .ok (.ifCond .le 7, 3) := by decide +kernel
theorem dX12_sightsFrom_23 : decode cX12_sightsFrom 23 = .ok (.iconst 1, 1) := by decide +kernel
theorem dX12_sightsFrom_24 : decode cX12_sightsFrom 24 = .ok (.goto 4, 3) := by decide +kernel
theorem dX12_sightsFrom_27 : decode cX12_sightsFrom 27 = .ok (.iconst 0, 1) := by decide +kernel
theorem dX12_sightsFrom_28 : decode cX12_sightsFrom 28 = .ok (.iadd, 1) := by decide +kernel
theorem dX12_sightsFrom_29 : decode cX12_sightsFrom 29 = .ok (.istore_n 2, 1) := by decide +kernel
theorem dX12_sightsFrom_30 : decode cX12_sightsFrom 30 = .ok (.iinc 3 1, 3) := by decide +kernel
theorem dX12_sightsFrom_33 : decode cX12_sightsFrom 33 = .ok (.goto (-29), 3) := by decide +kernel
theorem dX12_sightsFrom_36 : decode cX12_sightsFrom 36 = .ok (.iload_n 2, 1) := by decide +kernel
theorem dX12_sightsFrom_37 : decode cX12_sightsFrom 37 = .ok (.ireturn, 1) := by decide +kernel
theorem dX12_waysThatLeave_0 : decode cX12_waysThatLeave 0 = .ok (.iconst 0, 1) := by decide +kernel
theorem dX12_waysThatLeave_1 : decode cX12_waysThatLeave 1 = .ok (.istore_n 2, 1) := by decide +kernel
theorem dX12_waysThatLeave_2 : decode cX12_waysThatLeave 2 = .ok (.iconst 0, 1) := by decide +kernel
theorem dX12_waysThatLeave_3 : decode cX12_waysThatLeave 3 = .ok (.istore_n 3, 1) := by decide +kernel
theorem dX12_waysThatLeave_4 : decode cX12_waysThatLeave 4 = .ok (.iload_n 3, 1) := by decide +kernel
theorem dX12_waysThatLeave_5 : decode cX12_waysThatLeave 5 = .ok (.aload_n 0, 1) := by decide +kernel
theorem dX12_waysThatLeave_6 : decode cX12_waysThatLeave 6 = .ok (.getfield 139, 3) := by decide +kernel
theorem dX12_waysThatLeave_9 : decode cX12_waysThatLeave 9 = .ok (.if_icmp .ge 32, 3) := by decide +kernel
theorem dX12_waysThatLeave_12 : decode cX12_waysThatLeave 12 = .ok (.iload_n 2, 1) := by decide +kernel
theorem dX12_waysThatLeave_13 : decode cX12_waysThatLeave 13 = .ok (.aload_n 0, 1) := by decide +kernel
theorem dX12_waysThatLeave_14 : decode cX12_waysThatLeave 14 = .ok (.iload_n 3, 1) := by decide +kernel
theorem dX12_waysThatLeave_15 : decode cX12_waysThatLeave 15 = .ok (.iconst 0, 1) := by decide +kernel
theorem dX12_waysThatLeave_16 : decode cX12_waysThatLeave 16 = .ok (.invokevirtual 148, 3) := by decide +kernel
theorem dX12_waysThatLeave_19 : decode cX12_waysThatLeave 19 = .ok (.ifCond .ne 13, 3) := by decide +kernel
theorem dX12_waysThatLeave_22 : decode cX12_waysThatLeave 22 = .ok (.aload_n 0, 1) := by decide +kernel
theorem dX12_waysThatLeave_23 : decode cX12_waysThatLeave 23 = .ok (.iload_n 1, 1) := by decide +kernel
theorem dX12_waysThatLeave_24 : decode cX12_waysThatLeave 24 = .ok (.iconst 0, 1) := by decide +kernel
theorem dX12_waysThatLeave_25 : decode cX12_waysThatLeave 25 = .ok (.iload_n 3, 1) := by decide +kernel
theorem dX12_waysThatLeave_26 : decode cX12_waysThatLeave 26 = .ok (.invokevirtual 170, 3) := by decide +kernel
theorem dX12_waysThatLeave_29 : decode cX12_waysThatLeave 29 = .ok (.goto 4, 3) := by decide +kernel
theorem dX12_waysThatLeave_32 : decode cX12_waysThatLeave 32 = .ok (.iconst 0, 1) := by decide +kernel
theorem dX12_waysThatLeave_33 : decode cX12_waysThatLeave 33 = .ok (.iadd, 1) := by decide +kernel
theorem dX12_waysThatLeave_34 : decode cX12_waysThatLeave 34 = .ok (.istore_n 2, 1) := by decide +kernel
theorem dX12_waysThatLeave_35 : decode cX12_waysThatLeave 35 = .ok (.iinc 3 1, 3) := by decide +kernel
theorem dX12_waysThatLeave_38 : decode cX12_waysThatLeave 38 = .ok (.goto (-34), 3) := by decide +kernel
theorem dX12_waysThatLeave_41 : decode cX12_waysThatLeave 41 = .ok (.iload_n 2, 1) := by decide +kernel
theorem dX12_waysThatLeave_42 : decode cX12_waysThatLeave 42 = .ok (.ireturn, 1) := by decide +kernel
theorem dX12_notchesInAll_0 : decode cX12_notchesInAll 0 = .ok (.iconst 0, 1) := by decide +kernel
theorem dX12_notchesInAll_1 : decode cX12_notchesInAll 1 = .ok (.istore_n 2, 1) := by decide +kernel
theorem dX12_notchesInAll_2 : decode cX12_notchesInAll 2 = .ok (.iconst 0, 1) := by decide +kernel
theorem dX12_notchesInAll_3 : decode cX12_notchesInAll 3 = .ok (.istore_n 3, 1) := by decide +kernel
theorem dX12_notchesInAll_4 : decode cX12_notchesInAll 4 = .ok (.iload_n 3, 1) := by decide +kernel
theorem dX12_notchesInAll_5 : decode cX12_notchesInAll 5 = .ok (.aload_n 0, 1) := by decide +kernel
theorem dX12_notchesInAll_6 : decode cX12_notchesInAll 6 = .ok (.getfield 139, 3) := by decide +kernel
theorem dX12_notchesInAll_9 : decode cX12_notchesInAll 9 = .ok (.if_icmp .ge 45, 3) := by decide +kernel
theorem dX12_notchesInAll_12 : decode cX12_notchesInAll 12 = .ok (.iconst 0, 1) := by decide +kernel
theorem dX12_notchesInAll_13 : decode cX12_notchesInAll 13 = .ok (.istore 4, 2) := by decide +kernel
theorem dX12_notchesInAll_15 : decode cX12_notchesInAll 15 = .ok (.iload 4, 2) := by decide +kernel
theorem dX12_notchesInAll_17 : decode cX12_notchesInAll 17 = .ok (.aload_n 0, 1) := by decide +kernel
theorem dX12_notchesInAll_18 : decode cX12_notchesInAll 18 = .ok (.getfield 130, 3) := by decide +kernel
theorem dX12_notchesInAll_21 : decode cX12_notchesInAll 21 = .ok (.if_icmp .ge 27, 3) := by decide +kernel
theorem dX12_notchesInAll_24 : decode cX12_notchesInAll 24 = .ok (.iload_n 2, 1) := by decide +kernel
theorem dX12_notchesInAll_25 : decode cX12_notchesInAll 25 = .ok (.aload_n 0, 1) := by decide +kernel
theorem dX12_notchesInAll_26 : decode cX12_notchesInAll 26 = .ok (.iload_n 1, 1) := by decide +kernel
theorem dX12_notchesInAll_27 : decode cX12_notchesInAll 27 = .ok (.iconst 0, 1) := by decide +kernel
theorem dX12_notchesInAll_28 : decode cX12_notchesInAll 28 = .ok (.iload_n 3, 1) := by decide +kernel
theorem dX12_notchesInAll_29 : decode cX12_notchesInAll 29 = .ok (.invokevirtual 170, 3) := by decide +kernel
theorem dX12_notchesInAll_32 : decode cX12_notchesInAll 32 = .ok (.aload_n 0, 1) := by decide +kernel
theorem dX12_notchesInAll_33 : decode cX12_notchesInAll 33 = .ok (.iload_n 3, 1) := by decide +kernel
theorem dX12_notchesInAll_34 : decode cX12_notchesInAll 34 = .ok (.iload 4, 2) := by decide +kernel
theorem dX12_notchesInAll_36 : decode cX12_notchesInAll 36 = .ok (.invokevirtual 148, 3) := by decide +kernel
theorem dX12_notchesInAll_39 : decode cX12_notchesInAll 39 = .ok (.imul, 1) := by decide +kernel
theorem dX12_notchesInAll_40 : decode cX12_notchesInAll 40 = .ok (.iadd, 1) := by decide +kernel
theorem dX12_notchesInAll_41 : decode cX12_notchesInAll 41 = .ok (.istore_n 2, 1) := by decide +kernel
theorem dX12_notchesInAll_42 : decode cX12_notchesInAll 42 = .ok (.iinc 4 1, 3) := by decide +kernel
theorem dX12_notchesInAll_45 : decode cX12_notchesInAll 45 = .ok (.goto (-30), 3) := by decide +kernel
theorem dX12_notchesInAll_48 : decode cX12_notchesInAll 48 = .ok (.iinc 3 1, 3) := by decide +kernel
theorem dX12_notchesInAll_51 : decode cX12_notchesInAll 51 = .ok (.goto (-47), 3) := by decide +kernel
theorem dX12_notchesInAll_54 : decode cX12_notchesInAll 54 = .ok (.iload_n 2, 1) := by decide +kernel
theorem dX12_notchesInAll_55 : decode cX12_notchesInAll 55 = .ok (.ireturn, 1) := by decide +kernel
theorem dX12_mark_0 : decode cX12_mark 0 = .ok (.aload_n 0, 1) := by decide +kernel
theorem dX12_mark_1 : decode cX12_mark 1 = .ok (.iload_n 1, 1) := by decide +kernel
theorem dX12_mark_2 : decode cX12_mark 2 = .ok (.invokevirtual 183, 3) := by decide +kernel
theorem dX12_mark_5 : decode cX12_mark 5 = .ok (.ifCond .eq 15, 3) := by decide +kernel
theorem dX12_mark_8 : decode cX12_mark 8 = .ok (.iload_n 2, 1) := by decide +kernel
theorem dX12_mark_9 : decode cX12_mark 9 = .ok (.i2l, 1) := by decide +kernel
theorem dX12_mark_10 : decode cX12_mark 10 = .ok (.lconst 1, 1) := by decide +kernel
theorem dX12_mark_11 : decode cX12_mark 11 = .ok (.ldc2_w 55, 3) := by decide +kernel
theorem dX12_mark_14 : decode cX12_mark 14 = .ok (.invokestatic 57, 3) := by decide +kernel
theorem dX12_mark_17 : decode cX12_mark 17 = .ok (.ifCond .ne 5, 3) := by decide +kernel
theorem dX12_mark_20 : decode cX12_mark 20 = .ok (.iconst (-1), 1) := by decide +kernel
theorem dX12_mark_21 : decode cX12_mark 21 = .ok (.ireturn, 1) := by decide +kernel
theorem dX12_mark_22 : decode cX12_mark 22 = .ok (.aload_n 0, 1) := by decide +kernel
theorem dX12_mark_23 : decode cX12_mark 23 = .ok (.iload_n 1, 1) := by decide +kernel
theorem dX12_mark_24 : decode cX12_mark 24 = .ok (.iload_n 2, 1) := by decide +kernel
theorem dX12_mark_25 : decode cX12_mark 25 = .ok (.invokevirtual 189, 3) := by decide +kernel
theorem dX12_mark_28 : decode cX12_mark 28 = .ok (.ifCond .ne 9, 3) := by decide +kernel
theorem dX12_mark_31 : decode cX12_mark 31 = .ok (.aload_n 0, 1) := by decide +kernel
theorem dX12_mark_32 : decode cX12_mark 32 = .ok (.iconst 3, 1) := by decide +kernel
theorem dX12_mark_33 : decode cX12_mark 33 = .ok (.invokevirtual 67, 3) := by decide +kernel
theorem dX12_mark_36 : decode cX12_mark 36 = .ok (.ireturn, 1) := by decide +kernel
theorem dX12_mark_37 : decode cX12_mark 37 = .ok (.iload_n 2, 1) := by decide +kernel
theorem dX12_mark_38 : decode cX12_mark 38 = .ok (.tableswitch 52 1 4 #[30, 36, 42, 47], 30) := by decide +kernel
theorem dX12_mark_68 : decode cX12_mark 68 = .ok (.aload_n 0, 1) := by decide +kernel
theorem dX12_mark_69 : decode cX12_mark 69 = .ok (.iload_n 1, 1) := by decide +kernel
theorem dX12_mark_70 : decode cX12_mark 70 = .ok (.invokevirtual 193, 3) := by decide +kernel
theorem dX12_mark_73 : decode cX12_mark 73 = .ok (.ireturn, 1) := by decide +kernel
theorem dX12_mark_74 : decode cX12_mark 74 = .ok (.aload_n 0, 1) := by decide +kernel
theorem dX12_mark_75 : decode cX12_mark 75 = .ok (.iload_n 1, 1) := by decide +kernel
theorem dX12_mark_76 : decode cX12_mark 76 = .ok (.invokevirtual 196, 3) := by decide +kernel
theorem dX12_mark_79 : decode cX12_mark 79 = .ok (.ireturn, 1) := by decide +kernel
theorem dX12_mark_80 : decode cX12_mark 80 = .ok (.aload_n 0, 1) := by decide +kernel
theorem dX12_mark_81 : decode cX12_mark 81 = .ok (.invokevirtual 199, 3) := by decide +kernel
theorem dX12_mark_84 : decode cX12_mark 84 = .ok (.ireturn, 1) := by decide +kernel
theorem dX12_mark_85 : decode cX12_mark 85 = .ok (.aload_n 0, 1) := by decide +kernel
theorem dX12_mark_86 : decode cX12_mark 86 = .ok (.invokevirtual 167, 3) := by decide +kernel
theorem dX12_mark_89 : decode cX12_mark 89 = .ok (.ireturn, 1) := by decide +kernel
theorem dX12_mark_90 : decode cX12_mark 90 = .ok (.aload_n 0, 1) := by decide +kernel
theorem dX12_mark_91 : decode cX12_mark 91 = .ok (.iload_n 1, 1) := by decide +kernel
theorem dX12_mark_92 : decode cX12_mark 92 = .ok (.invokevirtual 202, 3) := by decide +kernel
theorem dX12_mark_95 : decode cX12_mark 95 = .ok (.ireturn, 1) := by decide +kernel
theorem dX12_flicks_0 : decode cX12_flicks 0 = .ok (.aload_n 0, 1) := by decide +kernel
theorem dX12_flicks_1 : decode cX12_flicks 1 = .ok (.iload_n 1, 1) := by decide +kernel
theorem dX12_flicks_2 : decode cX12_flicks 2 = .ok (.invokevirtual 183, 3) := by decide +kernel
theorem dX12_flicks_5 : decode cX12_flicks 5 = .ok (.ifCond .eq 15, 3) := by decide +kernel
theorem dX12_flicks_8 : decode cX12_flicks 8 = .ok (.iload_n 2, 1) := by decide +kernel
theorem dX12_flicks_9 : decode cX12_flicks 9 = .ok (.i2l, 1) := by decide +kernel
theorem dX12_flicks_10 : decode cX12_flicks 10 = .ok (.lconst 1, 1) := by decide +kernel
theorem dX12_flicks_11 : decode cX12_flicks 11 = .ok (.ldc2_w 61, 3) := by decide +kernel
theorem dX12_flicks_14 : decode cX12_flicks 14 = .ok (.invokestatic 57, 3) := by decide +kernel
theorem dX12_flicks_17 : decode cX12_flicks 17 = .ok (.ifCond .ne 5, 3) := by decide +kernel
theorem dX12_flicks_20 : decode cX12_flicks 20 = .ok (.iconst (-1), 1) := by decide +kernel
theorem dX12_flicks_21 : decode cX12_flicks 21 = .ok (.ireturn, 1) := by decide +kernel
theorem dX12_flicks_22 : decode cX12_flicks 22 = .ok (.aload_n 0, 1) := by decide +kernel
theorem dX12_flicks_23 : decode cX12_flicks 23 = .ok (.getfield 7, 3) := by decide +kernel
theorem dX12_flicks_26 : decode cX12_flicks 26 = .ok (.iconst 0, 1) := by decide +kernel
theorem dX12_flicks_27 : decode cX12_flicks 27 = .ok (.iaload, 1) := by decide +kernel
theorem dX12_flicks_28 : decode cX12_flicks 28 = .ok (.ifCond .le 6, 3) := by decide +kernel
theorem dX12_flicks_31 : decode cX12_flicks 31 = .ok (.bipush (-4), 2) := by decide +kernel
theorem dX12_flicks_33 : decode cX12_flicks 33 = .ok (.ireturn, 1) := by decide +kernel
theorem dX12_flicks_34 : decode cX12_flicks 34 = .ok (.aload_n 0, 1) := by decide +kernel
theorem dX12_flicks_35 : decode cX12_flicks 35 = .ok (.iload_n 1, 1) := by decide +kernel
theorem dX12_flicks_36 : decode cX12_flicks 36 = .ok (.invokevirtual 151, 3) := by decide +kernel
theorem dX12_flicks_39 : decode cX12_flicks 39 = .ok (.istore_n 3, 1) := by decide +kernel
theorem dX12_flicks_40 : decode cX12_flicks 40 = .ok (.aload_n 0, 1) := by decide +kernel
theorem dX12_flicks_41 : decode cX12_flicks 41 = .ok (.getfield 7, 3) := by decide +kernel
theorem dX12_flicks_44 : decode cX12_flicks 44 = .ok (.iconst 1, 1) := by decide +kernel
theorem dX12_flicks_45 : decode cX12_flicks 45 = .ok (.iload_n 1, 1) := by decide +kernel
theorem dX12_flicks_46 : decode cX12_flicks 46 = .ok (.iadd, 1) := by decide +kernel
theorem dX12_flicks_47 : decode cX12_flicks 47 = .ok (.iload_n 2, 1) := by decide +kernel
theorem dX12_flicks_48 : decode cX12_flicks 48 = .ok (.iastore, 1) := by decide +kernel
theorem dX12_flicks_49 : decode cX12_flicks 49 = .ok (.iload_n 3, 1) := by decide +kernel
theorem dX12_flicks_50 : decode cX12_flicks 50 = .ok (.ireturn, 1) := by decide +kernel
theorem dX12_doDeed_0 : decode cX12_doDeed 0 = .ok (.iconst 0, 1) := by decide +kernel
theorem dX12_doDeed_1 : decode cX12_doDeed 1 = .ok (.istore_n 3, 1) := by decide +kernel
theorem dX12_doDeed_2 : decode cX12_doDeed 2 = .ok (.iconst 0, 1) := by decide +kernel
theorem dX12_doDeed_3 : decode cX12_doDeed 3 = .ok (.istore 4, 2) := by decide +kernel
theorem dX12_doDeed_5 : decode cX12_doDeed 5 = .ok (.iload 4, 2) := by decide +kernel
theorem dX12_doDeed_7 : decode cX12_doDeed 7 = .ok (.aload_n 0, 1) := by decide +kernel
theorem dX12_doDeed_8 : decode cX12_doDeed 8 = .ok (.getfield 139, 3) := by decide +kernel
theorem dX12_doDeed_11 : decode cX12_doDeed 11 = .ok (.if_icmp .ge 37, 3) := by decide +kernel
theorem dX12_doDeed_14 : decode cX12_doDeed 14 = .ok (.iload_n 3, 1) := by decide +kernel
theorem dX12_doDeed_15 : decode cX12_doDeed 15 = .ok (.aload_n 0, 1) := by decide +kernel
theorem dX12_doDeed_16 : decode cX12_doDeed 16 = .ok (.aload_n 0, 1) := by decide +kernel
theorem dX12_doDeed_17 : decode cX12_doDeed 17 = .ok (.getfield 16, 3) := by decide +kernel
theorem dX12_doDeed_20 : decode cX12_doDeed 20 = .ok (.iload 4, 2) := by decide +kernel
theorem dX12_doDeed_22 : decode cX12_doDeed 22 = .ok (.laload, 1) := by decide +kernel
theorem dX12_doDeed_23 : decode cX12_doDeed 23 = .ok (.iload_n 1, 1) := by decide +kernel
theorem dX12_doDeed_24 : decode cX12_doDeed 24 = .ok (.iload_n 2, 1) := by decide +kernel
theorem dX12_doDeed_25 : decode cX12_doDeed 25 = .ok (.iload 4, 2) := by decide +kernel
theorem dX12_doDeed_27 : decode cX12_doDeed 27 = .ok (.invokevirtual 173, 3) := by decide +kernel
theorem dX12_doDeed_30 : decode cX12_doDeed 30 = .ok (.lconst 0, 1) := by decide +kernel
theorem dX12_doDeed_31 : decode cX12_doDeed 31 = .ok (.lcmp, 1) := by decide +kernel
theorem dX12_doDeed_32 : decode cX12_doDeed 32 = .ok (.ifCond .le 7, 3) := by decide +kernel
theorem dX12_doDeed_35 : decode cX12_doDeed 35 = .ok (.iconst 1, 1) := by decide +kernel
theorem dX12_doDeed_36 : decode cX12_doDeed 36 = .ok (.goto 4, 3) := by decide +kernel
theorem dX12_doDeed_39 : decode cX12_doDeed 39 = .ok (.iconst 0, 1) := by decide +kernel
theorem dX12_doDeed_40 : decode cX12_doDeed 40 = .ok (.iadd, 1) := by decide +kernel
theorem dX12_doDeed_41 : decode cX12_doDeed 41 = .ok (.istore_n 3, 1) := by decide +kernel
theorem dX12_doDeed_42 : decode cX12_doDeed 42 = .ok (.iinc 4 1, 3) := by decide +kernel
theorem dX12_doDeed_45 : decode cX12_doDeed 45 = .ok (.goto (-40), 3) := by decide +kernel
theorem dX12_doDeed_48 : decode cX12_doDeed 48 = .ok (.iload_n 3, 1) := by decide +kernel
theorem dX12_doDeed_49 : decode cX12_doDeed 49 = .ok (.ifCond .ne 9, 3) := by decide +kernel
theorem dX12_doDeed_52 : decode cX12_doDeed 52 = .ok (.aload_n 0, 1) := by decide +kernel
theorem dX12_doDeed_53 : decode cX12_doDeed 53 = .ok (.iconst 4, 1) := by decide +kernel
theorem dX12_doDeed_54 : decode cX12_doDeed 54 = .ok (.invokevirtual 67, 3) := by decide +kernel
theorem dX12_doDeed_57 : decode cX12_doDeed 57 = .ok (.ireturn, 1) := by decide +kernel
theorem dX12_doDeed_58 : decode cX12_doDeed 58 = .ok (.aload_n 0, 1) := by decide +kernel
theorem dX12_doDeed_59 : decode cX12_doDeed 59 = .ok (.getfield 7, 3) := by decide +kernel
theorem dX12_doDeed_62 : decode cX12_doDeed 62 = .ok (.iconst 0, 1) := by decide +kernel
theorem dX12_doDeed_63 : decode cX12_doDeed 63 = .ok (.iaload, 1) := by decide +kernel
theorem dX12_doDeed_64 : decode cX12_doDeed 64 = .ok (.bipush 16, 2) := by decide +kernel
theorem dX12_doDeed_66 : decode cX12_doDeed 66 = .ok (.if_icmp .ne 6, 3) := by decide +kernel
theorem dX12_doDeed_69 : decode cX12_doDeed 69 = .ok (.bipush (-2), 2) := by decide +kernel
theorem dX12_doDeed_71 : decode cX12_doDeed 71 = .ok (.ireturn, 1) := by decide +kernel
theorem dX12_doDeed_72 : decode cX12_doDeed 72 = .ok (.aload_n 0, 1) := by decide +kernel
theorem dX12_doDeed_73 : decode cX12_doDeed 73 = .ok (.getfield 7, 3) := by decide +kernel
theorem dX12_doDeed_76 : decode cX12_doDeed 76 = .ok (.bipush 6, 2) := by decide +kernel
theorem dX12_doDeed_78 : decode cX12_doDeed 78 = .ok (.aload_n 0, 1) := by decide +kernel
theorem dX12_doDeed_79 : decode cX12_doDeed 79 = .ok (.getfield 7, 3) := by decide +kernel
theorem dX12_doDeed_82 : decode cX12_doDeed 82 = .ok (.iconst 0, 1) := by decide +kernel
theorem dX12_doDeed_83 : decode cX12_doDeed 83 = .ok (.iaload, 1) := by decide +kernel
theorem dX12_doDeed_84 : decode cX12_doDeed 84 = .ok (.iadd, 1) := by decide +kernel
theorem dX12_doDeed_85 : decode cX12_doDeed 85 = .ok (.iload_n 1, 1) := by decide +kernel
theorem dX12_doDeed_86 : decode cX12_doDeed 86 = .ok (.iastore, 1) := by decide +kernel
theorem dX12_doDeed_87 : decode cX12_doDeed 87 = .ok (.aload_n 0, 1) := by decide +kernel
theorem dX12_doDeed_88 : decode cX12_doDeed 88 = .ok (.getfield 7, 3) := by decide +kernel
theorem dX12_doDeed_91 : decode cX12_doDeed 91 = .ok (.bipush 22, 2) := by decide +kernel
theorem dX12_doDeed_93 : decode cX12_doDeed 93 = .ok (.aload_n 0, 1) := by decide +kernel
theorem dX12_doDeed_94 : decode cX12_doDeed 94 = .ok (.getfield 7, 3) := by decide +kernel
theorem dX12_doDeed_97 : decode cX12_doDeed 97 = .ok (.iconst 0, 1) := by decide +kernel
theorem dX12_doDeed_98 : decode cX12_doDeed 98 = .ok (.iaload, 1) := by decide +kernel
theorem dX12_doDeed_99 : decode cX12_doDeed 99 = .ok (.iadd, 1) := by decide +kernel
theorem dX12_doDeed_100 : decode cX12_doDeed 100 = .ok (.iload_n 2, 1) := by decide +kernel
theorem dX12_doDeed_101 : decode cX12_doDeed 101 = .ok (.iastore, 1) := by decide +kernel
theorem dX12_doDeed_102 : decode cX12_doDeed 102 = .ok (.aload_n 0, 1) := by decide +kernel
theorem dX12_doDeed_103 : decode cX12_doDeed 103 = .ok (.getfield 7, 3) := by decide +kernel
theorem dX12_doDeed_106 : decode cX12_doDeed 106 = .ok (.iconst 0, 1) := by decide +kernel
theorem dX12_doDeed_107 : decode cX12_doDeed 107 = .ok (.dup2, 1) := by decide +kernel
theorem dX12_doDeed_108 : decode cX12_doDeed 108 = .ok (.iaload, 1) := by decide +kernel
theorem dX12_doDeed_109 : decode cX12_doDeed 109 = .ok (.iconst 1, 1) := by decide +kernel
theorem dX12_doDeed_110 : decode cX12_doDeed 110 = .ok (.iadd, 1) := by decide +kernel
theorem dX12_doDeed_111 : decode cX12_doDeed 111 = .ok (.iastore, 1) := by decide +kernel
theorem dX12_doDeed_112 : decode cX12_doDeed 112 = .ok (.aload_n 0, 1) := by decide +kernel
theorem dX12_doDeed_113 : decode cX12_doDeed 113 = .ok (.invokevirtual 145, 3) := by decide +kernel
theorem dX12_doDeed_116 : decode cX12_doDeed 116 = .ok (.iload_n 3, 1) := by decide +kernel
theorem dX12_doDeed_117 : decode cX12_doDeed 117 = .ok (.ireturn, 1) := by decide +kernel
theorem dX12_look_0 : decode cX12_look 0 = .ok (.aload_n 0, 1) := by decide +kernel
theorem dX12_look_1 : decode cX12_look 1 = .ok (.iload_n 1, 1) := by decide +kernel
theorem dX12_look_2 : decode cX12_look 2 = .ok (.invokevirtual 183, 3) := by decide +kernel
theorem dX12_look_5 : decode cX12_look 5 = .ok (.ifCond .eq 20, 3) := by decide +kernel
theorem dX12_look_8 : decode cX12_look 8 = .ok (.aload_n 0, 1) := by decide +kernel
theorem dX12_look_9 : decode cX12_look 9 = .ok (.iload_n 2, 1) := by decide +kernel
theorem dX12_look_10 : decode cX12_look 10 = .ok (.invokevirtual 205, 3) := by decide +kernel
theorem dX12_look_13 : decode cX12_look 13 = .ok (.ifCond .eq 12, 3) := by decide +kernel
theorem dX12_look_16 : decode cX12_look 16 = .ok (.aload_n 0, 1) := by decide +kernel
theorem dX12_look_17 : decode cX12_look 17 = .ok (.iload_n 1, 1) := by decide +kernel
theorem dX12_look_18 : decode cX12_look 18 = .ok (.iload_n 2, 1) := by decide +kernel
theorem dX12_look_19 : decode cX12_look 19 = .ok (.invokevirtual 208, 3) := by decide +kernel
theorem dX12_look_22 : decode cX12_look 22 = .ok (.goto 4, 3) := by decide +kernel
theorem dX12_look_25 : decode cX12_look 25 = .ok (.iconst (-1), 1) := by decide +kernel
theorem dX12_look_26 : decode cX12_look 26 = .ok (.ireturn, 1) := by decide +kernel
theorem dX12_vain_0 : decode cX12_vain 0 = .ok (.aload_n 0, 1) := by decide +kernel
theorem dX12_vain_1 : decode cX12_vain 1 = .ok (.iload_n 1, 1) := by decide +kernel
theorem dX12_vain_2 : decode cX12_vain 2 = .ok (.invokevirtual 205, 3) := by decide +kernel
theorem dX12_vain_5 : decode cX12_vain 5 = .ok (.ifCond .eq 13, 3) := by decide +kernel
theorem dX12_vain_8 : decode cX12_vain 8 = .ok (.aload_n 0, 1) := by decide +kernel
theorem dX12_vain_9 : decode cX12_vain 9 = .ok (.bipush (-9), 2) := by decide +kernel
theorem dX12_vain_11 : decode cX12_vain 11 = .ok (.iload_n 1, 1) := by decide +kernel
theorem dX12_vain_12 : decode cX12_vain 12 = .ok (.invokevirtual 208, 3) := by decide +kernel
theorem dX12_vain_15 : decode cX12_vain 15 = .ok (.goto 4, 3) := by decide +kernel
theorem dX12_vain_18 : decode cX12_vain 18 = .ok (.iconst (-1), 1) := by decide +kernel
theorem dX12_vain_19 : decode cX12_vain 19 = .ok (.ireturn, 1) := by decide +kernel
theorem dX12_undo_0 : decode cX12_undo 0 = .ok (.iload_n 1, 1) := by decide +kernel
theorem dX12_undo_1 : decode cX12_undo 1 = .ok (.i2l, 1) := by decide +kernel
theorem dX12_undo_2 : decode cX12_undo 2 = .ok (.lconst 0, 1) := by decide +kernel
theorem dX12_undo_3 : decode cX12_undo 3 = .ok (.aload_n 0, 1) := by decide +kernel
theorem dX12_undo_4 : decode cX12_undo 4 = .ok (.getfield 7, 3) := by decide +kernel
theorem dX12_undo_7 : decode cX12_undo 7 = .ok (.iconst 0, 1) := by decide +kernel
theorem dX12_undo_8 : decode cX12_undo 8 = .ok (.iaload, 1) := by decide +kernel
theorem dX12_undo_9 : decode cX12_undo 9 = .ok (.i2l, 1) := by decide +kernel
theorem dX12_undo_10 : decode cX12_undo 10 = .ok (.invokestatic 57, 3) := by decide +kernel
theorem dX12_undo_13 : decode cX12_undo 13 = .ok (.ifCond .ne 5, 3) := by decide +kernel
theorem dX12_undo_16 : decode cX12_undo 16 = .ok (.iconst (-1), 1) := by decide +kernel
theorem dX12_undo_17 : decode cX12_undo 17 = .ok (.ireturn, 1) := by decide +kernel
theorem dX12_undo_18 : decode cX12_undo 18 = .ok (.aload_n 0, 1) := by decide +kernel
theorem dX12_undo_19 : decode cX12_undo 19 = .ok (.getfield 7, 3) := by decide +kernel
theorem dX12_undo_22 : decode cX12_undo 22 = .ok (.iconst 0, 1) := by decide +kernel
theorem dX12_undo_23 : decode cX12_undo 23 = .ok (.iaload, 1) := by decide +kernel
theorem dX12_undo_24 : decode cX12_undo 24 = .ok (.iload_n 1, 1) := by decide +kernel
theorem dX12_undo_25 : decode cX12_undo 25 = .ok (.isub, 1) := by decide +kernel
theorem dX12_undo_26 : decode cX12_undo 26 = .ok (.istore_n 2, 1) := by decide +kernel
theorem dX12_undo_27 : decode cX12_undo 27 = .ok (.aload_n 0, 1) := by decide +kernel
theorem dX12_undo_28 : decode cX12_undo 28 = .ok (.getfield 7, 3) := by decide +kernel
theorem dX12_undo_31 : decode cX12_undo 31 = .ok (.iconst 0, 1) := by decide +kernel
theorem dX12_undo_32 : decode cX12_undo 32 = .ok (.iload_n 1, 1) := by decide +kernel
theorem dX12_undo_33 : decode cX12_undo 33 = .ok (.iastore, 1) := by decide +kernel
theorem dX12_undo_34 : decode cX12_undo 34 = .ok (.aload_n 0, 1) := by decide +kernel
theorem dX12_undo_35 : decode cX12_undo 35 = .ok (.invokevirtual 145, 3) := by decide +kernel
theorem dX12_undo_38 : decode cX12_undo 38 = .ok (.iload_n 2, 1) := by decide +kernel
theorem dX12_undo_39 : decode cX12_undo 39 = .ok (.ireturn, 1) := by decide +kernel
theorem dX12_copyShed_0 : decode cX12_copyShed 0 = .ok (.iconst 0, 1) := by decide +kernel
theorem dX12_copyShed_1 : decode cX12_copyShed 1 = .ok (.istore_n 3, 1) := by decide +kernel
theorem dX12_copyShed_2 : decode cX12_copyShed 2 = .ok (.iload_n 3, 1) := by decide +kernel
theorem dX12_copyShed_3 : decode cX12_copyShed 3 = .ok (.bipush 38, 2) := by decide +kernel
theorem dX12_copyShed_5 : decode cX12_copyShed 5 = .ok (.if_icmp .ge 25, 3) := by decide +kernel
theorem dX12_copyShed_8 : decode cX12_copyShed 8 = .ok (.aload_n 0, 1) := by decide +kernel
theorem dX12_copyShed_9 : decode cX12_copyShed 9 = .ok (.getfield 7, 3) := by decide +kernel
theorem dX12_copyShed_12 : decode cX12_copyShed 12 = .ok (.iload_n 2, 1) := by decide +kernel
theorem dX12_copyShed_13 : decode cX12_copyShed 13 = .ok (.iload_n 3, 1) := by decide +kernel
theorem dX12_copyShed_14 : decode cX12_copyShed 14 = .ok (.iadd, 1) := by decide +kernel
theorem dX12_copyShed_15 : decode cX12_copyShed 15 = .ok (.aload_n 0, 1) := by decide +kernel
theorem dX12_copyShed_16 : decode cX12_copyShed 16 = .ok (.getfield 7, 3) := by decide +kernel
theorem dX12_copyShed_19 : decode cX12_copyShed 19 = .ok (.iload_n 1, 1) := by decide +kernel
theorem dX12_copyShed_20 : decode cX12_copyShed 20 = .ok (.iload_n 3, 1) := by decide +kernel
theorem dX12_copyShed_21 : decode cX12_copyShed 21 = .ok (.iadd, 1) := by decide +kernel
theorem dX12_copyShed_22 : decode cX12_copyShed 22 = .ok (.iaload, 1) := by decide +kernel
theorem dX12_copyShed_23 : decode cX12_copyShed 23 = .ok (.iastore, 1) := by decide +kernel
theorem dX12_copyShed_24 : decode cX12_copyShed 24 = .ok (.iinc 3 1, 3) := by decide +kernel
theorem dX12_copyShed_27 : decode cX12_copyShed 27 = .ok (.goto (-25), 3) := by decide +kernel
theorem dX12_copyShed_30 : decode cX12_copyShed 30 = .ok (.return_, 1) := by decide +kernel
theorem dX12_keep_0 : decode cX12_keep 0 = .ok (.iload_n 1, 1) := by decide +kernel
theorem dX12_keep_1 : decode cX12_keep 1 = .ok (.i2l, 1) := by decide +kernel
theorem dX12_keep_2 : decode cX12_keep 2 = .ok (.lconst 0, 1) := by decide +kernel
theorem dX12_keep_3 : decode cX12_keep 3 = .ok (.ldc2_w 211, 3) := by decide +kernel
theorem dX12_keep_6 : decode cX12_keep 6 = .ok (.invokestatic 57, 3) := by decide +kernel
theorem dX12_keep_9 : decode cX12_keep 9 = .ok (.ifCond .ne 5, 3) := by decide +kernel
theorem dX12_keep_12 : decode cX12_keep 12 = .ok (.iconst (-1), 1) := by decide +kernel
theorem dX12_keep_13 : decode cX12_keep 13 = .ok (.ireturn, 1) := by decide +kernel
theorem dX12_keep_14 : decode cX12_keep 14 = .ok (.aload_n 0, 1) := by decide +kernel
theorem dX12_keep_15 : decode cX12_keep 15 = .ok (.getfield 142, 3) := by decide +kernel
theorem dX12_keep_18 : decode cX12_keep 18 = .ok (.ifCond .ne 6, 3) := by decide +kernel
theorem dX12_keep_21 : decode cX12_keep 21 = .ok (.bipush (-4), 2) := by decide +kernel
theorem dX12_keep_23 : decode cX12_keep 23 = .ok (.ireturn, 1) := by decide +kernel
theorem dX12_keep_24 : decode cX12_keep 24 = .ok (.aload_n 0, 1) := by decide +kernel
theorem dX12_keep_25 : decode cX12_keep 25 = .ok (.iconst 0, 1) := by decide +kernel
theorem dX12_keep_26 : decode cX12_keep 26 = .ok (.bipush 38, 2) := by decide +kernel
theorem dX12_keep_28 : decode cX12_keep 28 = .ok (.iconst 1, 1) := by decide +kernel
theorem dX12_keep_29 : decode cX12_keep 29 = .ok (.iload_n 1, 1) := by decide +kernel
theorem dX12_keep_30 : decode cX12_keep 30 = .ok (.iadd, 1) := by decide +kernel
theorem dX12_keep_31 : decode cX12_keep 31 = .ok (.imul, 1) := by decide +kernel
theorem dX12_keep_32 : decode cX12_keep 32 = .ok (.invokevirtual 213, 3) := by decide +kernel
theorem dX12_keep_35 : decode cX12_keep 35 = .ok (.aload_n 0, 1) := by decide +kernel
theorem dX12_keep_36 : decode cX12_keep 36 = .ok (.getfield 7, 3) := by decide +kernel
theorem dX12_keep_39 : decode cX12_keep 39 = .ok (.iconst 0, 1) := by decide +kernel
theorem dX12_keep_40 : decode cX12_keep 40 = .ok (.iaload, 1) := by decide +kernel
theorem dX12_keep_41 : decode cX12_keep 41 = .ok (.ireturn, 1) := by decide +kernel
theorem dX12_on_0 : decode cX12_on 0 = .ok (.iload_n 1, 1) := by decide +kernel
theorem dX12_on_1 : decode cX12_on 1 = .ok (.i2l, 1) := by decide +kernel
theorem dX12_on_2 : decode cX12_on 2 = .ok (.lconst 0, 1) := by decide +kernel
theorem dX12_on_3 : decode cX12_on 3 = .ok (.ldc2_w 211, 3) := by decide +kernel
theorem dX12_on_6 : decode cX12_on 6 = .ok (.invokestatic 57, 3) := by decide +kernel
theorem dX12_on_9 : decode cX12_on 9 = .ok (.ifCond .ne 5, 3) := by decide +kernel
theorem dX12_on_12 : decode cX12_on 12 = .ok (.iconst (-1), 1) := by decide +kernel
theorem dX12_on_13 : decode cX12_on 13 = .ok (.ireturn, 1) := by decide +kernel
theorem dX12_on_14 : decode cX12_on 14 = .ok (.aload_n 0, 1) := by decide +kernel
theorem dX12_on_15 : decode cX12_on 15 = .ok (.getfield 7, 3) := by decide +kernel
theorem dX12_on_18 : decode cX12_on 18 = .ok (.bipush 38, 2) := by decide +kernel
theorem dX12_on_20 : decode cX12_on 20 = .ok (.iconst 1, 1) := by decide +kernel
theorem dX12_on_21 : decode cX12_on 21 = .ok (.iload_n 1, 1) := by decide +kernel
theorem dX12_on_22 : decode cX12_on 22 = .ok (.iadd, 1) := by decide +kernel
theorem dX12_on_23 : decode cX12_on 23 = .ok (.imul, 1) := by decide +kernel
theorem dX12_on_24 : decode cX12_on 24 = .ok (.iconst 0, 1) := by decide +kernel
theorem dX12_on_25 : decode cX12_on 25 = .ok (.iadd, 1) := by decide +kernel
theorem dX12_on_26 : decode cX12_on 26 = .ok (.iaload, 1) := by decide +kernel
theorem dX12_on_27 : decode cX12_on 27 = .ok (.ifCond .ge 9, 3) := by decide +kernel
theorem dX12_on_30 : decode cX12_on 30 = .ok (.aload_n 0, 1) := by decide +kernel
theorem dX12_on_31 : decode cX12_on 31 = .ok (.iconst 1, 1) := by decide +kernel
theorem dX12_on_32 : decode cX12_on 32 = .ok (.invokevirtual 67, 3) := by decide +kernel
theorem dX12_on_35 : decode cX12_on 35 = .ok (.ireturn, 1) := by decide +kernel
theorem dX12_on_36 : decode cX12_on 36 = .ok (.aload_n 0, 1) := by decide +kernel
theorem dX12_on_37 : decode cX12_on 37 = .ok (.bipush 38, 2) := by decide +kernel
theorem dX12_on_39 : decode cX12_on 39 = .ok (.iconst 1, 1) := by decide +kernel
theorem dX12_on_40 : decode cX12_on 40 = .ok (.iload_n 1, 1) := by decide +kernel
theorem dX12_on_41 : decode cX12_on 41 = .ok (.iadd, 1) := by decide +kernel
theorem dX12_on_42 : decode cX12_on 42 = .ok (.imul, 1) := by decide +kernel
theorem dX12_on_43 : decode cX12_on 43 = .ok (.iconst 0, 1) := by decide +kernel
theorem dX12_on_44 : decode cX12_on 44 = .ok (.invokevirtual 213, 3) := by decide +kernel
theorem dX12_on_47 : decode cX12_on 47 = .ok (.aload_n 0, 1) := by decide +kernel
theorem dX12_on_48 : decode cX12_on 48 = .ok (.invokevirtual 145, 3) := by decide +kernel
theorem dX12_on_51 : decode cX12_on 51 = .ok (.aload_n 0, 1) := by decide +kernel
theorem dX12_on_52 : decode cX12_on 52 = .ok (.getfield 7, 3) := by decide +kernel
theorem dX12_on_55 : decode cX12_on 55 = .ok (.iconst 0, 1) := by decide +kernel
theorem dX12_on_56 : decode cX12_on 56 = .ok (.iaload, 1) := by decide +kernel
theorem dX12_on_57 : decode cX12_on 57 = .ok (.ireturn, 1) := by decide +kernel
theorem dX12_tellParts_0 : decode cX12_tellParts 0 = .ok (.lload_n 1, 1) := by decide +kernel
theorem dX12_tellParts_1 : decode cX12_tellParts 1 = .ok (.lstore 5, 2) := by decide +kernel
theorem dX12_tellParts_3 : decode cX12_tellParts 3 = .ok (.lload_n 3, 1) := by decide +kernel
theorem dX12_tellParts_4 : decode cX12_tellParts 4 = .ok (.lstore 7, 2) := by decide +kernel
theorem dX12_tellParts_6 : decode cX12_tellParts 6 = .ok (.lload 7, 2) := by decide +kernel
theorem dX12_tellParts_8 : decode cX12_tellParts 8 = .ok (.lconst 0, 1) := by decide +kernel
theorem dX12_tellParts_9 : decode cX12_tellParts 9 = .ok (.lcmp, 1) := by decide +kernel
theorem dX12_tellParts_10 : decode cX12_tellParts 10 = .ok (.ifCond .eq 21, 3) := by decide +kernel
theorem dX12_tellParts_13 : decode cX12_tellParts 13 = .ok (.lload 5, 2) := by decide +kernel
theorem dX12_tellParts_15 : decode cX12_tellParts 15 = .ok (.lload 7, 2) := by decide +kernel
theorem dX12_tellParts_17 : decode cX12_tellParts 17 = .ok (.lrem, 1) := by decide +kernel
theorem dX12_tellParts_18 : decode cX12_tellParts 18 = .ok (.lstore 9, 2) := by decide +kernel
theorem dX12_tellParts_20 : decode cX12_tellParts 20 = .ok (.lload 7, 2) := by decide +kernel
theorem dX12_tellParts_22 : decode cX12_tellParts 22 = .ok (.lstore 5, 2) := by decide +kernel
theorem dX12_tellParts_24 : decode cX12_tellParts 24 = .ok (.lload 9, 2) := by decide +kernel
theorem dX12_tellParts_26 : decode cX12_tellParts 26 = .ok (.lstore 7, 2) := by decide +kernel
theorem dX12_tellParts_28 : decode cX12_tellParts 28 = .ok (.goto (-22), 3) := by decide +kernel
theorem dX12_tellParts_31 : decode cX12_tellParts 31 = .ok (.aload_n 0, 1) := by decide +kernel
theorem dX12_tellParts_32 : decode cX12_tellParts 32 = .ok (.lload_n 1, 1) := by decide +kernel
theorem dX12_tellParts_33 : decode cX12_tellParts 33 = .ok (.lload 5, 2) := by decide +kernel
theorem dX12_tellParts_35 : decode cX12_tellParts 35 = .ok (.ldiv, 1) := by decide +kernel
theorem dX12_tellParts_36 : decode cX12_tellParts 36 = .ok (.putfield 216, 3) := by decide +kernel
theorem dX12_tellParts_39 : decode cX12_tellParts 39 = .ok (.aload_n 0, 1) := by decide +kernel
theorem dX12_tellParts_40 : decode cX12_tellParts 40 = .ok (.lload_n 3, 1) := by decide +kernel
theorem dX12_tellParts_41 : decode cX12_tellParts 41 = .ok (.lload 5, 2) := by decide +kernel
theorem dX12_tellParts_43 : decode cX12_tellParts 43 = .ok (.ldiv, 1) := by decide +kernel
theorem dX12_tellParts_44 : decode cX12_tellParts 44 = .ok (.putfield 32, 3) := by decide +kernel
theorem dX12_tellParts_47 : decode cX12_tellParts 47 = .ok (.iconst 1, 1) := by decide +kernel
theorem dX12_tellParts_48 : decode cX12_tellParts 48 = .ok (.ireturn, 1) := by decide +kernel
theorem dX12_likely_0 : decode cX12_likely 0 = .ok (.aload_n 0, 1) := by decide +kernel
theorem dX12_likely_1 : decode cX12_likely 1 = .ok (.iload_n 1, 1) := by decide +kernel
theorem dX12_likely_2 : decode cX12_likely 2 = .ok (.invokevirtual 205, 3) := by decide +kernel
theorem dX12_likely_5 : decode cX12_likely 5 = .ok (.ifCond .eq 20, 3) := by decide +kernel
theorem dX12_likely_8 : decode cX12_likely 8 = .ok (.aload_n 0, 1) := by decide +kernel
theorem dX12_likely_9 : decode cX12_likely 9 = .ok (.aload_n 0, 1) := by decide +kernel
theorem dX12_likely_10 : decode cX12_likely 10 = .ok (.getfield 16, 3) := by decide +kernel
theorem dX12_likely_13 : decode cX12_likely 13 = .ok (.iload_n 1, 1) := by decide +kernel
theorem dX12_likely_14 : decode cX12_likely 14 = .ok (.laload, 1) := by decide +kernel
theorem dX12_likely_15 : decode cX12_likely 15 = .ok (.aload_n 0, 1) := by decide +kernel
theorem dX12_likely_16 : decode cX12_likely 16 = .ok (.invokevirtual 219, 3) := by decide +kernel
theorem dX12_likely_19 : decode cX12_likely 19 = .ok (.invokevirtual 223, 3) := by decide +kernel
theorem dX12_likely_22 : decode cX12_likely 22 = .ok (.goto 4, 3) := by decide +kernel
theorem dX12_likely_25 : decode cX12_likely 25 = .ok (.iconst (-1), 1) := by decide +kernel
theorem dX12_likely_26 : decode cX12_likely 26 = .ok (.ireturn, 1) := by decide +kernel
theorem dX12_best_0 : decode cX12_best 0 = .ok (.aload_n 0, 1) := by decide +kernel
theorem dX12_best_1 : decode cX12_best 1 = .ok (.getfield 142, 3) := by decide +kernel
theorem dX12_best_4 : decode cX12_best 4 = .ok (.ifCond .ne 6, 3) := by decide +kernel
theorem dX12_best_7 : decode cX12_best 7 = .ok (.bipush (-4), 2) := by decide +kernel
theorem dX12_best_9 : decode cX12_best 9 = .ok (.ireturn, 1) := by decide +kernel
theorem dX12_best_10 : decode cX12_best 10 = .ok (.iconst 0, 1) := by decide +kernel
theorem dX12_best_11 : decode cX12_best 11 = .ok (.istore_n 1, 1) := by decide +kernel
theorem dX12_best_12 : decode cX12_best 12 = .ok (.aload_n 0, 1) := by decide +kernel
theorem dX12_best_13 : decode cX12_best 13 = .ok (.iconst 0, 1) := by decide +kernel
theorem dX12_best_14 : decode cX12_best 14 = .ok (.putfield 52, 3) := by decide +kernel
theorem dX12_best_17 : decode cX12_best 17 = .ok (.iconst 0, 1) := by decide +kernel
theorem dX12_best_18 : decode cX12_best 18 = .ok (.istore_n 2, 1) := by decide +kernel
theorem dX12_best_19 : decode cX12_best 19 = .ok (.iload_n 2, 1) := by decide +kernel
theorem dX12_best_20 : decode cX12_best 20 = .ok (.aload_n 0, 1) := by decide +kernel
theorem dX12_best_21 : decode cX12_best 21 = .ok (.getfield 139, 3) := by decide +kernel
theorem dX12_best_24 : decode cX12_best 24 = .ok (.if_icmp .ge 84, 3) := by decide +kernel
theorem dX12_best_27 : decode cX12_best 27 = .ok (.aload_n 0, 1) := by decide +kernel
theorem dX12_best_28 : decode cX12_best 28 = .ok (.aload_n 0, 1) := by decide +kernel
theorem dX12_best_29 : decode cX12_best 29 = .ok (.getfield 16, 3) := by decide +kernel
theorem dX12_best_32 : decode cX12_best 32 = .ok (.iload_n 2, 1) := by decide +kernel
theorem dX12_best_33 : decode cX12_best 33 = .ok (.laload, 1) := by decide +kernel
theorem dX12_best_34 : decode cX12_best 34 = .ok (.aload_n 0, 1) := by decide +kernel
theorem dX12_best_35 : decode cX12_best 35 = .ok (.getfield 16, 3) := by decide +kernel
theorem dX12_best_38 : decode cX12_best 38 = .ok (.iload_n 1, 1) := by decide +kernel
theorem dX12_best_39 : decode cX12_best 39 = .ok (.laload, 1) := by decide +kernel
theorem dX12_best_40 : decode cX12_best 40 = .ok (.lcmp, 1) := by decide +kernel
theorem dX12_best_41 : decode cX12_best 41 = .ok (.ifCond .le 7, 3) := by decide +kernel
theorem dX12_best_44 : decode cX12_best 44 = .ok (.iconst 1, 1) := by decide +kernel
theorem dX12_best_45 : decode cX12_best 45 = .ok (.goto 32, 3) := by decide +kernel
theorem dX12_best_48 : decode cX12_best 48 = .ok (.aload_n 0, 1) := by decide +kernel
theorem dX12_best_49 : decode cX12_best 49 = .ok (.getfield 16, 3) := by decide +kernel
theorem dX12_best_52 : decode cX12_best 52 = .ok (.iload_n 2, 1) := by decide +kernel
theorem dX12_best_53 : decode cX12_best 53 = .ok (.laload, 1) := by decide +kernel
theorem dX12_best_54 : decode cX12_best 54 = .ok (.aload_n 0, 1) := by decide +kernel
theorem dX12_best_55 : decode cX12_best 55 = .ok (.getfield 16, 3) := by decide +kernel
theorem dX12_best_58 : decode cX12_best 58 = .ok (.iload_n 1, 1) := by decide +kernel
theorem dX12_best_59 : decode cX12_best 59 = .ok (.laload, 1) := by decide +kernel
theorem dX12_best_60 : decode cX12_best 60 = .ok (.lcmp, 1) := by decide +kernel
theorem dX12_best_61 : decode cX12_best 61 = .ok (.ifCond .ne 12, 3) := by decide +kernel
theorem dX12_best_64 : decode cX12_best 64 = .ok (.aload_n 0, 1) := by decide +kernel
theorem dX12_best_65 : decode cX12_best 65 = .ok (.getfield 52, 3) := by decide +kernel
theorem dX12_best_68 : decode cX12_best 68 = .ok (.iconst 1, 1) := by decide +kernel
theorem dX12_best_69 : decode cX12_best 69 = .ok (.iadd, 1) := by decide +kernel
theorem dX12_best_70 : decode cX12_best 70 = .ok (.goto 7, 3) := by decide +kernel
theorem dX12_best_73 : decode cX12_best 73 = .ok (.aload_n 0, 1) := by decide +kernel
theorem dX12_best_74 : decode cX12_best 74 = .ok (.getfield 52, 3) := by decide +kernel
theorem dX12_best_77 : decode cX12_best 77 = .ok (.putfield 52, 3) := by decide +kernel
theorem dX12_best_80 : decode cX12_best 80 = .ok (.aload_n 0, 1) := by decide +kernel
theorem dX12_best_81 : decode cX12_best 81 = .ok (.getfield 16, 3) := by decide +kernel
theorem dX12_best_84 : decode cX12_best 84 = .ok (.iload_n 2, 1) := by decide +kernel
theorem dX12_best_85 : decode cX12_best 85 = .ok (.laload, 1) := by decide +kernel
theorem dX12_best_86 : decode cX12_best 86 = .ok (.aload_n 0, 1) := by decide +kernel
theorem dX12_best_87 : decode cX12_best 87 = .ok (.getfield 16, 3) := by decide +kernel
theorem dX12_best_90 : decode cX12_best 90 = .ok (.iload_n 1, 1) := by decide +kernel
theorem dX12_best_91 : decode cX12_best 91 = .ok (.laload, 1) := by decide +kernel
theorem dX12_best_92 : decode cX12_best 92 = .ok (.lcmp, 1) := by decide +kernel
theorem dX12_best_93 : decode cX12_best 93 = .ok (.ifCond .le 7, 3) := by decide +kernel
theorem dX12_best_96 : decode cX12_best 96 = .ok (.iload_n 2, 1) := by decide +kernel
theorem dX12_best_97 : decode cX12_best 97 = .ok (.goto 4, 3) := by decide +kernel
theorem dX12_best_100 : decode cX12_best 100 = .ok (.iload_n 1, 1) := by decide +kernel
theorem dX12_best_101 : decode cX12_best 101 = .ok (.istore_n 1, 1) := by decide +kernel
theorem dX12_best_102 : decode cX12_best 102 = .ok (.iinc 2 1, 3) := by decide +kernel
theorem dX12_best_105 : decode cX12_best 105 = .ok (.goto (-86), 3) := by decide +kernel
theorem dX12_best_108 : decode cX12_best 108 = .ok (.iload_n 1, 1) := by decide +kernel
theorem dX12_best_109 : decode cX12_best 109 = .ok (.ireturn, 1) := by decide +kernel
theorem dX12_weightsAt_0 : decode cX12_weightsAt 0 = .ok (.lconst 0, 1) := by decide +kernel
theorem dX12_weightsAt_1 : decode cX12_weightsAt 1 = .ok (.lstore_n 3, 1) := by decide +kernel
theorem dX12_weightsAt_2 : decode cX12_weightsAt 2 = .ok (.iconst 0, 1) := by decide +kernel
theorem dX12_weightsAt_3 : decode cX12_weightsAt 3 = .ok (.istore 5, 2) := by decide +kernel
theorem dX12_weightsAt_5 : decode cX12_weightsAt 5 = .ok (.iload 5, 2) := by decide +kernel
theorem dX12_weightsAt_7 : decode cX12_weightsAt 7 = .ok (.aload_n 0, 1) := by decide +kernel
theorem dX12_weightsAt_8 : decode cX12_weightsAt 8 = .ok (.getfield 139, 3) := by decide +kernel
theorem dX12_weightsAt_11 : decode cX12_weightsAt 11 = .ok (.if_icmp .ge 34, 3) := by decide +kernel
theorem dX12_weightsAt_14 : decode cX12_weightsAt 14 = .ok (.lload_n 3, 1) := by decide +kernel
theorem dX12_weightsAt_15 : decode cX12_weightsAt 15 = .ok (.aload_n 0, 1) := by decide +kernel
theorem dX12_weightsAt_16 : decode cX12_weightsAt 16 = .ok (.iload 5, 2) := by decide +kernel
theorem dX12_weightsAt_18 : decode cX12_weightsAt 18 = .ok (.iload_n 1, 1) := by decide +kernel
theorem dX12_weightsAt_19 : decode cX12_weightsAt 19 = .ok (.invokevirtual 148, 3) := by decide +kernel
theorem dX12_weightsAt_22 : decode cX12_weightsAt 22 = .ok (.iload_n 2, 1) := by decide +kernel
theorem dX12_weightsAt_23 : decode cX12_weightsAt 23 = .ok (.if_icmp .ne 13, 3) := by decide +kernel
theorem dX12_weightsAt_26 : decode cX12_weightsAt 26 = .ok (.aload_n 0, 1) := by decide +kernel
theorem dX12_weightsAt_27 : decode cX12_weightsAt 27 = .ok (.getfield 16, 3) := by decide +kernel
theorem dX12_weightsAt_30 : decode cX12_weightsAt 30 = .ok (.iload 5, 2) := by decide +kernel
theorem dX12_weightsAt_32 : decode cX12_weightsAt 32 = .ok (.laload, 1) := by decide +kernel
theorem dX12_weightsAt_33 : decode cX12_weightsAt 33 = .ok (.goto 4, 3) := by decide +kernel
theorem dX12_weightsAt_36 : decode cX12_weightsAt 36 = .ok (.lconst 0, 1) := by decide +kernel
theorem dX12_weightsAt_37 : decode cX12_weightsAt 37 = .ok (.ladd, 1) := by decide +kernel
theorem dX12_weightsAt_38 : decode cX12_weightsAt 38 = .ok (.lstore_n 3, 1) := by decide +kernel
theorem dX12_weightsAt_39 : decode cX12_weightsAt 39 = .ok (.iinc 5 1, 3) := by decide +kernel
theorem dX12_weightsAt_42 : decode cX12_weightsAt 42 = .ok (.goto (-37), 3) := by decide +kernel
theorem dX12_weightsAt_45 : decode cX12_weightsAt 45 = .ok (.lload_n 3, 1) := by decide +kernel
theorem dX12_weightsAt_46 : decode cX12_weightsAt 46 = .ok (.lreturn, 1) := by decide +kernel
theorem dX12_wheel_0 : decode cX12_wheel 0 = .ok (.iload_n 1, 1) := by decide +kernel
theorem dX12_wheel_1 : decode cX12_wheel 1 = .ok (.i2l, 1) := by decide +kernel
theorem dX12_wheel_2 : decode cX12_wheel 2 = .ok (.lconst 0, 1) := by decide +kernel
theorem dX12_wheel_3 : decode cX12_wheel 3 = .ok (.aload_n 0, 1) := by decide +kernel
theorem dX12_wheel_4 : decode cX12_wheel 4 = .ok (.getfield 130, 3) := by decide +kernel
theorem dX12_wheel_7 : decode cX12_wheel 7 = .ok (.iconst 1, 1) := by decide +kernel
theorem dX12_wheel_8 : decode cX12_wheel 8 = .ok (.isub, 1) := by decide +kernel
theorem dX12_wheel_9 : decode cX12_wheel 9 = .ok (.i2l, 1) := by decide +kernel
theorem dX12_wheel_10 : decode cX12_wheel 10 = .ok (.invokestatic 57, 3) := by decide +kernel
theorem dX12_wheel_13 : decode cX12_wheel 13 = .ok (.ifCond .eq 36, 3) := by decide +kernel
theorem dX12_wheel_16 : decode cX12_wheel 16 = .ok (.iload_n 2, 1) := by decide +kernel
theorem dX12_wheel_17 : decode cX12_wheel 17 = .ok (.i2l, 1) := by decide +kernel
theorem dX12_wheel_18 : decode cX12_wheel 18 = .ok (.lconst 0, 1) := by decide +kernel
theorem dX12_wheel_19 : decode cX12_wheel 19 = .ok (.aload_n 0, 1) := by decide +kernel
theorem dX12_wheel_20 : decode cX12_wheel 20 = .ok (.getfield 133, 3) := by decide +kernel
theorem dX12_wheel_23 : decode cX12_wheel 23 = .ok (.iconst 1, 1) := by decide +kernel
theorem dX12_wheel_24 : decode cX12_wheel 24 = .ok (.isub, 1) := by decide +kernel
theorem dX12_wheel_25 : decode cX12_wheel 25 = .ok (.i2l, 1) := by decide +kernel
theorem dX12_wheel_26 : decode cX12_wheel 26 = .ok (.invokestatic 57, 3) := by decide +kernel
theorem dX12_wheel_29 : decode cX12_wheel 29 = .ok (.ifCond .eq 20, 3) := by decide +kernel
theorem dX12_wheel_32 : decode cX12_wheel 32 = .ok (.aload_n 0, 1) := by decide +kernel
theorem dX12_wheel_33 : decode cX12_wheel 33 = .ok (.aload_n 0, 1) := by decide +kernel
theorem dX12_wheel_34 : decode cX12_wheel 34 = .ok (.iload_n 1, 1) := by decide +kernel
theorem dX12_wheel_35 : decode cX12_wheel 35 = .ok (.iload_n 2, 1) := by decide +kernel
theorem dX12_wheel_36 : decode cX12_wheel 36 = .ok (.invokevirtual 227, 3) := by decide +kernel
theorem dX12_wheel_39 : decode cX12_wheel 39 = .ok (.aload_n 0, 1) := by decide +kernel
theorem dX12_wheel_40 : decode cX12_wheel 40 = .ok (.invokevirtual 219, 3) := by decide +kernel
theorem dX12_wheel_43 : decode cX12_wheel 43 = .ok (.invokevirtual 223, 3) := by decide +kernel
theorem dX12_wheel_46 : decode cX12_wheel 46 = .ok (.goto 4, 3) := by decide +kernel
theorem dX12_wheel_49 : decode cX12_wheel 49 = .ok (.iconst (-1), 1) := by decide +kernel
theorem dX12_wheel_50 : decode cX12_wheel 50 = .ok (.ireturn, 1) := by decide +kernel
theorem dX12_certain_0 : decode cX12_certain 0 = .ok (.aload_n 0, 1) := by decide +kernel
theorem dX12_certain_1 : decode cX12_certain 1 = .ok (.getfield 142, 3) := by decide +kernel
theorem dX12_certain_4 : decode cX12_certain 4 = .ok (.ifCond .ne 6, 3) := by decide +kernel
theorem dX12_certain_7 : decode cX12_certain 7 = .ok (.bipush (-4), 2) := by decide +kernel
theorem dX12_certain_9 : decode cX12_certain 9 = .ok (.ireturn, 1) := by decide +kernel
theorem dX12_certain_10 : decode cX12_certain 10 = .ok (.aload_n 0, 1) := by decide +kernel
theorem dX12_certain_11 : decode cX12_certain 11 = .ok (.invokevirtual 219, 3) := by decide +kernel
theorem dX12_certain_14 : decode cX12_certain 14 = .ok (.lstore_n 1, 1) := by decide +kernel
theorem dX12_certain_15 : decode cX12_certain 15 = .ok (.iconst 0, 1) := by decide +kernel
theorem dX12_certain_16 : decode cX12_certain 16 = .ok (.istore_n 3, 1) := by decide +kernel
theorem dX12_certain_17 : decode cX12_certain 17 = .ok (.aload_n 0, 1) := by decide +kernel
theorem dX12_certain_18 : decode cX12_certain 18 = .ok (.iconst 0, 1) := by decide +kernel
theorem dX12_certain_19 : decode cX12_certain 19 = .ok (.putfield 52, 3) := by decide +kernel
theorem dX12_certain_22 : decode cX12_certain 22 = .ok (.iconst 0, 1) := by decide +kernel
theorem dX12_certain_23 : decode cX12_certain 23 = .ok (.istore 4, 2) := by decide +kernel
theorem dX12_certain_25 : decode cX12_certain 25 = .ok (.iload 4, 2) := by decide +kernel
theorem dX12_certain_27 : decode cX12_certain 27 = .ok (.aload_n 0, 1) := by decide +kernel
theorem dX12_certain_28 : decode cX12_certain 28 = .ok (.getfield 130, 3) := by decide +kernel
theorem dX12_certain_31 : decode cX12_certain 31 = .ok (.if_icmp .ge 85, 3) := by decide +kernel
theorem dX12_certain_34 : decode cX12_certain 34 = .ok (.bipush 9, 2) := by decide +kernel
theorem dX12_certain_36 : decode cX12_certain 36 = .ok (.istore 5, 2) := by decide +kernel
theorem dX12_certain_38 : decode cX12_certain 38 = .ok (.iconst 0, 1) := by decide +kernel
theorem dX12_certain_39 : decode cX12_certain 39 = .ok (.istore 6, 2) := by decide +kernel
theorem dX12_certain_41 : decode cX12_certain 41 = .ok (.iload 6, 2) := by decide +kernel
theorem dX12_certain_43 : decode cX12_certain 43 = .ok (.aload_n 0, 1) := by decide +kernel
theorem dX12_certain_44 : decode cX12_certain 44 = .ok (.getfield 133, 3) := by decide +kernel
theorem dX12_certain_47 : decode cX12_certain 47 = .ok (.if_icmp .ge 31, 3) := by decide +kernel
theorem dX12_certain_50 : decode cX12_certain 50 = .ok (.aload_n 0, 1) := by decide +kernel
theorem dX12_certain_51 : decode cX12_certain 51 = .ok (.iload 4, 2) := by decide +kernel
theorem dX12_certain_53 : decode cX12_certain 53 = .ok (.iload 6, 2) := by decide +kernel
theorem dX12_certain_55 : decode cX12_certain 55 = .ok (.invokevirtual 227, 3) := by decide +kernel
theorem dX12_certain_58 : decode cX12_certain 58 = .ok (.lload_n 1, 1) := by decide +kernel
theorem dX12_certain_59 : decode cX12_certain 59 = .ok (.lcmp, 1) := by decide +kernel
theorem dX12_certain_60 : decode cX12_certain 60 = .ok (.ifCond .ne 8, 3) := by decide +kernel
theorem dX12_certain_63 : decode cX12_certain 63 = .ok (.iload 6, 2) := by decide +kernel
theorem dX12_certain_65 : decode cX12_certain 65 = .ok (.goto 5, 3) := by decide +kernel
theorem dX12_certain_68 : decode cX12_certain 68 = .ok (.iload 5, 2) := by decide +kernel
theorem dX12_certain_70 : decode cX12_certain 70 = .ok (.istore 5, 2) := by decide +kernel
theorem dX12_certain_72 : decode cX12_certain 72 = .ok (.iinc 6 1, 3) := by decide +kernel
theorem dX12_certain_75 : decode cX12_certain 75 = .ok (.goto (-34), 3) := by decide +kernel
theorem dX12_certain_78 : decode cX12_certain 78 = .ok (.iload_n 3, 1) := by decide +kernel
theorem dX12_certain_79 : decode cX12_certain 79 = .ok (.iload 5, 2) := by decide +kernel
theorem dX12_certain_81 : decode cX12_certain 81 = .ok (.bipush 9, 2) := by decide +kernel
theorem dX12_certain_83 : decode cX12_certain 83 = .ok (.if_icmp .ge 10, 3) := by decide +kernel
theorem dX12_certain_86 : decode cX12_certain 86 = .ok (.iconst 1, 1) := by decide +kernel
theorem dX12_certain_87 : decode cX12_certain 87 = .ok (.iload 4, 2) := by decide +kernel
theorem dX12_certain_89 : decode cX12_certain 89 = .ok (.ishl, 1) := by decide +kernel
theorem dX12_certain_90 : decode cX12_certain 90 = .ok (.goto 4, 3) := by decide +kernel
theorem dX12_certain_93 : decode cX12_certain 93 = .ok (.iconst 0, 1) := by decide +kernel
theorem dX12_certain_94 : decode cX12_certain 94 = .ok (.ior, 1) := by decide +kernel
theorem dX12_certain_95 : decode cX12_certain 95 = .ok (.istore_n 3, 1) := by decide +kernel
theorem dX12_certain_96 : decode cX12_certain 96 = .ok (.aload_n 0, 1) := by decide +kernel
theorem dX12_certain_97 : decode cX12_certain 97 = .ok (.bipush 10, 2) := by decide +kernel
theorem dX12_certain_99 : decode cX12_certain 99 = .ok (.aload_n 0, 1) := by decide +kernel
theorem dX12_certain_100 : decode cX12_certain 100 = .ok (.getfield 52, 3) := by decide +kernel
theorem dX12_certain_103 : decode cX12_certain 103 = .ok (.imul, 1) := by decide +kernel
theorem dX12_certain_104 : decode cX12_certain 104 = .ok (.iload 5, 2) := by decide +kernel
theorem dX12_certain_106 : decode cX12_certain 106 = .ok (.iadd, 1) := by decide +kernel
theorem dX12_certain_107 : decode cX12_certain 107 = .ok (.putfield 52, 3) := by decide +kernel
theorem dX12_certain_110 : decode cX12_certain 110 = .ok (.iinc 4 1, 3) := by decide +kernel
theorem dX12_certain_113 : decode cX12_certain 113 = .ok (.goto (-88), 3) := by decide +kernel
theorem dX12_certain_116 : decode cX12_certain 116 = .ok (.iload_n 3, 1) := by decide +kernel
theorem dX12_certain_117 : decode cX12_certain 117 = .ok (.ireturn, 1) := by decide +kernel
theorem dX12_laySorted_0 : decode cX12_laySorted 0 = .ok (.iconst 0, 1) := by decide +kernel
theorem dX12_laySorted_1 : decode cX12_laySorted 1 = .ok (.istore_n 1, 1) := by decide +kernel
theorem dX12_laySorted_2 : decode cX12_laySorted 2 = .ok (.iconst 0, 1) := by decide +kernel
theorem dX12_laySorted_3 : decode cX12_laySorted 3 = .ok (.istore_n 2, 1) := by decide +kernel
theorem dX12_laySorted_4 : decode cX12_laySorted 4 = .ok (.iload_n 2, 1) := by decide +kernel
theorem dX12_laySorted_5 : decode cX12_laySorted 5 = .ok (.aload_n 0, 1) := by decide +kernel
theorem dX12_laySorted_6 : decode cX12_laySorted 6 = .ok (.getfield 139, 3) := by decide +kernel
theorem dX12_laySorted_9 : decode cX12_laySorted 9 = .ok (.if_icmp .ge 79, 3) := by decide +kernel
theorem dX12_laySorted_12 : decode cX12_laySorted 12 = .ok (.aload_n 0, 1) := by decide +kernel
theorem dX12_laySorted_13 : decode cX12_laySorted 13 = .ok (.getfield 16, 3) := by decide +kernel
theorem dX12_laySorted_16 : decode cX12_laySorted 16 = .ok (.iload_n 2, 1) := by decide +kernel
theorem dX12_laySorted_17 : decode cX12_laySorted 17 = .ok (.laload, 1) := by decide +kernel
theorem dX12_laySorted_18 : decode cX12_laySorted 18 = .ok (.lconst 0, 1) := by decide +kernel
theorem dX12_laySorted_19 : decode cX12_laySorted 19 = .ok (.lcmp, 1) := by decide +kernel
theorem dX12_laySorted_20 : decode cX12_laySorted 20 = .ok (.ifCond .le 62, 3) := by decide +kernel
theorem dX12_laySorted_23 : decode cX12_laySorted 23 = .ok (.iload_n 1, 1) := by decide +kernel
theorem dX12_laySorted_24 : decode cX12_laySorted 24 = .ok (.istore_n 3, 1) := by decide +kernel
theorem dX12_laySorted_25 : decode cX12_laySorted 25 = .ok (.iload_n 3, 1) := by decide +kernel
theorem dX12_laySorted_26 : decode cX12_laySorted 26 = .ok (.ifCond .le 46, 3) := by decide +kernel
theorem dX12_laySorted_29 : decode cX12_laySorted 29 = .ok (.aload_n 0, 1) := by decide +kernel
theorem dX12_laySorted_30 : decode cX12_laySorted 30 = .ok (.getfield 16, 3) := by decide +kernel
theorem dX12_laySorted_33 : decode cX12_laySorted 33 = .ok (.aload_n 0, 1) := by decide +kernel
theorem dX12_laySorted_34 : decode cX12_laySorted 34 = .ok (.getfield 42, 3) := by decide +kernel
theorem dX12_laySorted_37 : decode cX12_laySorted 37 = .ok (.iload_n 3, 1) := by decide +kernel
theorem dX12_laySorted_38 : decode cX12_laySorted 38 = .ok (.iconst 1, 1) := by decide +kernel
theorem dX12_laySorted_39 : decode cX12_laySorted 39 = .ok (.isub, 1) := by decide +kernel
theorem dX12_laySorted_40 : decode cX12_laySorted 40 = .ok (.iaload, 1) := by decide +kernel
theorem dX12_laySorted_41 : decode cX12_laySorted 41 = .ok (.laload, 1) := by decide +kernel
theorem dX12_laySorted_42 : decode cX12_laySorted 42 = .ok (.aload_n 0, 1) := by decide +kernel
theorem dX12_laySorted_43 : decode cX12_laySorted 43 = .ok (.getfield 16, 3) := by decide +kernel
theorem dX12_laySorted_46 : decode cX12_laySorted 46 = .ok (.iload_n 2, 1) := by decide +kernel
theorem dX12_laySorted_47 : decode cX12_laySorted 47 = .ok (.laload, 1) := by decide +kernel
theorem dX12_laySorted_48 : decode cX12_laySorted 48 = .ok (.lcmp, 1) := by decide +kernel
theorem dX12_laySorted_49 : decode cX12_laySorted 49 = .ok (.ifCond .ge 23, 3) := by decide +kernel
theorem dX12_laySorted_52 : decode cX12_laySorted 52 = .ok (.aload_n 0, 1) := by decide +kernel
theorem dX12_laySorted_53 : decode cX12_laySorted 53 = .ok (.getfield 42, 3) := by decide +kernel
theorem dX12_laySorted_56 : decode cX12_laySorted 56 = .ok (.iload_n 3, 1) := by decide +kernel
theorem dX12_laySorted_57 : decode cX12_laySorted 57 = .ok (.aload_n 0, 1) := by decide +kernel
theorem dX12_laySorted_58 : decode cX12_laySorted 58 = .ok (.getfield 42, 3) := by decide +kernel
theorem dX12_laySorted_61 : decode cX12_laySorted 61 = .ok (.iload_n 3, 1) := by decide +kernel
theorem dX12_laySorted_62 : decode cX12_laySorted 62 = .ok (.iconst 1, 1) := by decide +kernel
theorem dX12_laySorted_63 : decode cX12_laySorted 63 = .ok (.isub, 1) := by decide +kernel
theorem dX12_laySorted_64 : decode cX12_laySorted 64 = .ok (.iaload, 1) := by decide +kernel
theorem dX12_laySorted_65 : decode cX12_laySorted 65 = .ok (.iastore, 1) := by decide +kernel
theorem dX12_laySorted_66 : decode cX12_laySorted 66 = .ok (.iinc 3 (-1), 3) := by decide +kernel
theorem dX12_laySorted_69 : decode cX12_laySorted 69 = .ok (.goto (-44), 3) := by decide +kernel
theorem dX12_laySorted_72 : decode cX12_laySorted 72 = .ok (.aload_n 0, 1) := by decide +kernel
theorem dX12_laySorted_73 : decode cX12_laySorted 73 = .ok (.getfield 42, 3) := by decide +kernel
theorem dX12_laySorted_76 : decode cX12_laySorted 76 = .ok (.iload_n 3, 1) := by decide +kernel
theorem dX12_laySorted_77 : decode cX12_laySorted 77 = .ok (.iload_n 2, 1) := by decide +kernel
theorem dX12_laySorted_78 : decode cX12_laySorted 78 = .ok (.iastore, 1) := by decide +kernel
theorem dX12_laySorted_79 : decode cX12_laySorted 79 = .ok (.iinc 1 1, 3) := by decide +kernel
theorem dX12_laySorted_82 : decode cX12_laySorted 82 = .ok (.iinc 2 1, 3) := by decide +kernel
theorem dX12_laySorted_85 : decode cX12_laySorted 85 = .ok (.goto (-81), 3) := by decide +kernel
theorem dX12_laySorted_88 : decode cX12_laySorted 88 = .ok (.iload_n 1, 1) := by decide +kernel
theorem dX12_laySorted_89 : decode cX12_laySorted 89 = .ok (.ireturn, 1) := by decide +kernel
theorem dX12_order_0 : decode cX12_order 0 = .ok (.iload_n 1, 1) := by decide +kernel
theorem dX12_order_1 : decode cX12_order 1 = .ok (.i2l, 1) := by decide +kernel
theorem dX12_order_2 : decode cX12_order 2 = .ok (.lconst 1, 1) := by decide +kernel
theorem dX12_order_3 : decode cX12_order 3 = .ok (.ldc2_w 231, 3) := by decide +kernel
theorem dX12_order_6 : decode cX12_order 6 = .ok (.invokestatic 57, 3) := by decide +kernel
theorem dX12_order_9 : decode cX12_order 9 = .ok (.ifCond .eq 10, 3) := by decide +kernel
theorem dX12_order_12 : decode cX12_order 12 = .ok (.iload_n 2, 1) := by decide +kernel
theorem dX12_order_13 : decode cX12_order 13 = .ok (.invokestatic 63, 3) := by decide +kernel
theorem dX12_order_16 : decode cX12_order 16 = .ok (.ifCond .ne 5, 3) := by decide +kernel
theorem dX12_order_19 : decode cX12_order 19 = .ok (.iconst (-1), 1) := by decide +kernel
theorem dX12_order_20 : decode cX12_order 20 = .ok (.ireturn, 1) := by decide +kernel
theorem dX12_order_21 : decode cX12_order 21 = .ok (.aload_n 0, 1) := by decide +kernel
theorem dX12_order_22 : decode cX12_order 22 = .ok (.getfield 142, 3) := by decide +kernel
theorem dX12_order_25 : decode cX12_order 25 = .ok (.ifCond .ne 6, 3) := by decide +kernel
theorem dX12_order_28 : decode cX12_order 28 = .ok (.bipush (-4), 2) := by decide +kernel
theorem dX12_order_30 : decode cX12_order 30 = .ok (.ireturn, 1) := by decide +kernel
theorem dX12_order_31 : decode cX12_order 31 = .ok (.aload_n 0, 1) := by decide +kernel
theorem dX12_order_32 : decode cX12_order 32 = .ok (.invokevirtual 233, 3) := by decide +kernel
theorem dX12_order_35 : decode cX12_order 35 = .ok (.istore_n 3, 1) := by decide +kernel
theorem dX12_order_36 : decode cX12_order 36 = .ok (.iload_n 3, 1) := by decide +kernel
theorem dX12_order_37 : decode cX12_order 37 = .ok (.iload_n 1, 1) := by decide +kernel
theorem dX12_order_38 : decode cX12_order 38 = .ok (.if_icmp .le 7, 3) := by decide +kernel
theorem dX12_order_41 : decode cX12_order 41 = .ok (.iload_n 1, 1) := by decide +kernel
theorem dX12_order_42 : decode cX12_order 42 = .ok (.goto 4, 3) := by decide +kernel
theorem dX12_order_45 : decode cX12_order 45 = .ok (.iload_n 3, 1) := by decide +kernel
theorem dX12_order_46 : decode cX12_order 46 = .ok (.istore_n 3, 1) := by decide +kernel
theorem dX12_order_47 : decode cX12_order 47 = .ok (.aload_n 0, 1) := by decide +kernel
theorem dX12_order_48 : decode cX12_order 48 = .ok (.iload_n 2, 1) := by decide +kernel
theorem dX12_order_49 : decode cX12_order 49 = .ok (.iload_n 3, 1) := by decide +kernel
theorem dX12_order_50 : decode cX12_order 50 = .ok (.invokevirtual 71, 3) := by decide +kernel
theorem dX12_order_53 : decode cX12_order 53 = .ok (.iconst 0, 1) := by decide +kernel
theorem dX12_order_54 : decode cX12_order 54 = .ok (.istore 4, 2) := by decide +kernel
theorem dX12_order_56 : decode cX12_order 56 = .ok (.iload 4, 2) := by decide +kernel
theorem dX12_order_58 : decode cX12_order 58 = .ok (.iload_n 3, 1) := by decide +kernel
theorem dX12_order_59 : decode cX12_order 59 = .ok (.if_icmp .ge 28, 3) := by decide +kernel
theorem dX12_order_62 : decode cX12_order 62 = .ok (.aload_n 0, 1) := by decide +kernel
theorem dX12_order_63 : decode cX12_order 63 = .ok (.getfield 23, 3) := by decide +kernel
theorem dX12_order_66 : decode cX12_order 66 = .ok (.bipush 40, 2) := by decide +kernel
theorem dX12_order_68 : decode cX12_order 68 = .ok (.iload_n 2, 1) := by decide +kernel
theorem dX12_order_69 : decode cX12_order 69 = .ok (.imul, 1) := by decide +kernel
theorem dX12_order_70 : decode cX12_order 70 = .ok (.iload 4, 2) := by decide +kernel
theorem dX12_order_72 : decode cX12_order 72 = .ok (.iadd, 1) := by decide +kernel
theorem dX12_order_73 : decode cX12_order 73 = .ok (.aload_n 0, 1) := by decide +kernel
theorem dX12_order_74 : decode cX12_order 74 = .ok (.getfield 42, 3) := by decide +kernel
theorem dX12_order_77 : decode cX12_order 77 = .ok (.iload 4, 2) := by decide +kernel
theorem dX12_order_79 : decode cX12_order 79 = .ok (.iaload, 1) := by decide +kernel
theorem dX12_order_80 : decode cX12_order 80 = .ok (.iastore, 1) := by decide +kernel
theorem dX12_order_81 : decode cX12_order 81 = .ok (.iinc 4 1, 3) := by decide +kernel
theorem dX12_order_84 : decode cX12_order 84 = .ok (.goto (-28), 3) := by decide +kernel
theorem dX12_order_87 : decode cX12_order 87 = .ok (.iload_n 3, 1) := by decide +kernel
theorem dX12_order_88 : decode cX12_order 88 = .ok (.ireturn, 1) := by decide +kernel
theorem dX12_tries_0 : decode cX12_tries 0 = .ok (.aload_n 0, 1) := by decide +kernel
theorem dX12_tries_1 : decode cX12_tries 1 = .ok (.getfield 142, 3) := by decide +kernel
theorem dX12_tries_4 : decode cX12_tries 4 = .ok (.ifCond .ne 6, 3) := by decide +kernel
theorem dX12_tries_7 : decode cX12_tries 7 = .ok (.bipush (-4), 2) := by decide +kernel
theorem dX12_tries_9 : decode cX12_tries 9 = .ok (.ireturn, 1) := by decide +kernel
theorem dX12_tries_10 : decode cX12_tries 10 = .ok (.aload_n 0, 1) := by decide +kernel
theorem dX12_tries_11 : decode cX12_tries 11 = .ok (.invokevirtual 233, 3) := by decide +kernel
theorem dX12_tries_14 : decode cX12_tries 14 = .ok (.istore_n 1, 1) := by decide +kernel
theorem dX12_tries_15 : decode cX12_tries 15 = .ok (.lconst 0, 1) := by decide +kernel
theorem dX12_tries_16 : decode cX12_tries 16 = .ok (.lstore_n 2, 1) := by decide +kernel
theorem dX12_tries_17 : decode cX12_tries 17 = .ok (.iconst 0, 1) := by decide +kernel
theorem dX12_tries_18 : decode cX12_tries 18 = .ok (.istore 4, 2) := by decide +kernel
theorem dX12_tries_20 : decode cX12_tries 20 = .ok (.iload 4, 2) := by decide +kernel
theorem dX12_tries_22 : decode cX12_tries 22 = .ok (.iload_n 1, 1) := by decide +kernel
theorem dX12_tries_23 : decode cX12_tries 23 = .ok (.if_icmp .ge 30, 3) := by decide +kernel
theorem dX12_tries_26 : decode cX12_tries 26 = .ok (.lload_n 2, 1) := by decide +kernel
theorem dX12_tries_27 : decode cX12_tries 27 = .ok (.iload 4, 2) := by decide +kernel
theorem dX12_tries_29 : decode cX12_tries 29 = .ok (.iconst 1, 1) := by decide +kernel
theorem dX12_tries_30 : decode cX12_tries 30 = .ok (.iadd, 1) := by decide +kernel
theorem dX12_tries_31 : decode cX12_tries 31 = .ok (.i2l, 1) := by decide +kernel
theorem dX12_tries_32 : decode cX12_tries 32 = .ok (.aload_n 0, 1) := by decide +kernel
theorem dX12_tries_33 : decode cX12_tries 33 = .ok (.getfield 16, 3) := by decide +kernel
theorem dX12_tries_36 : decode cX12_tries 36 = .ok (.aload_n 0, 1) := by decide +kernel
theorem dX12_tries_37 : decode cX12_tries 37 = .ok (.getfield 42, 3) := by decide +kernel
theorem dX12_tries_40 : decode cX12_tries 40 = .ok (.iload 4, 2) := by decide +kernel
theorem dX12_tries_42 : decode cX12_tries 42 = .ok (.iaload, 1) := by decide +kernel
theorem dX12_tries_43 : decode cX12_tries 43 = .ok (.laload, 1) := by decide +kernel
theorem dX12_tries_44 : decode cX12_tries 44 = .ok (.lmul, 1) := by decide +kernel
theorem dX12_tries_45 : decode cX12_tries 45 = .ok (.ladd, 1) := by decide +kernel
theorem dX12_tries_46 : decode cX12_tries 46 = .ok (.lstore_n 2, 1) := by decide +kernel
theorem dX12_tries_47 : decode cX12_tries 47 = .ok (.iinc 4 1, 3) := by decide +kernel
theorem dX12_tries_50 : decode cX12_tries 50 = .ok (.goto (-30), 3) := by decide +kernel
theorem dX12_tries_53 : decode cX12_tries 53 = .ok (.aload_n 0, 1) := by decide +kernel
theorem dX12_tries_54 : decode cX12_tries 54 = .ok (.lload_n 2, 1) := by decide +kernel
theorem dX12_tries_55 : decode cX12_tries 55 = .ok (.aload_n 0, 1) := by decide +kernel
theorem dX12_tries_56 : decode cX12_tries 56 = .ok (.invokevirtual 219, 3) := by decide +kernel
theorem dX12_tries_59 : decode cX12_tries 59 = .ok (.invokevirtual 223, 3) := by decide +kernel
theorem dX12_tries_62 : decode cX12_tries 62 = .ok (.ireturn, 1) := by decide +kernel
theorem dX12_within_0 : decode cX12_within 0 = .ok (.iload_n 1, 1) := by decide +kernel
theorem dX12_within_1 : decode cX12_within 1 = .ok (.i2l, 1) := by decide +kernel
theorem dX12_within_2 : decode cX12_within 2 = .ok (.lconst 0, 1) := by decide +kernel
theorem dX12_within_3 : decode cX12_within 3 = .ok (.ldc2_w 236, 3) := by decide +kernel
theorem dX12_within_6 : decode cX12_within 6 = .ok (.invokestatic 57, 3) := by decide +kernel
theorem dX12_within_9 : decode cX12_within 9 = .ok (.ifCond .ne 5, 3) := by decide +kernel
theorem dX12_within_12 : decode cX12_within 12 = .ok (.iconst (-1), 1) := by decide +kernel
theorem dX12_within_13 : decode cX12_within 13 = .ok (.ireturn, 1) := by decide +kernel
theorem dX12_within_14 : decode cX12_within 14 = .ok (.aload_n 0, 1) := by decide +kernel
theorem dX12_within_15 : decode cX12_within 15 = .ok (.getfield 142, 3) := by decide +kernel
theorem dX12_within_18 : decode cX12_within 18 = .ok (.ifCond .ne 6, 3) := by decide +kernel
theorem dX12_within_21 : decode cX12_within 21 = .ok (.bipush (-4), 2) := by decide +kernel
theorem dX12_within_23 : decode cX12_within 23 = .ok (.ireturn, 1) := by decide +kernel
theorem dX12_within_24 : decode cX12_within 24 = .ok (.aload_n 0, 1) := by decide +kernel
theorem dX12_within_25 : decode cX12_within 25 = .ok (.invokevirtual 233, 3) := by decide +kernel
theorem dX12_within_28 : decode cX12_within 28 = .ok (.istore_n 2, 1) := by decide +kernel
theorem dX12_within_29 : decode cX12_within 29 = .ok (.lconst 0, 1) := by decide +kernel
theorem dX12_within_30 : decode cX12_within 30 = .ok (.lstore_n 3, 1) := by decide +kernel
theorem dX12_within_31 : decode cX12_within 31 = .ok (.iconst 0, 1) := by decide +kernel
theorem dX12_within_32 : decode cX12_within 32 = .ok (.istore 5, 2) := by decide +kernel
theorem dX12_within_34 : decode cX12_within 34 = .ok (.iload 5, 2) := by decide +kernel
theorem dX12_within_36 : decode cX12_within 36 = .ok (.iload_n 2, 1) := by decide +kernel
theorem dX12_within_37 : decode cX12_within 37 = .ok (.if_icmp .ge 30, 3) := by decide +kernel
theorem dX12_within_40 : decode cX12_within 40 = .ok (.iload 5, 2) := by decide +kernel
theorem dX12_within_42 : decode cX12_within 42 = .ok (.iload_n 1, 1) := by decide +kernel
theorem dX12_within_43 : decode cX12_within 43 = .ok (.if_icmp .ge 24, 3) := by decide +kernel
theorem dX12_within_46 : decode cX12_within 46 = .ok (.lload_n 3, 1) := by decide +kernel
theorem dX12_within_47 : decode cX12_within 47 = .ok (.aload_n 0, 1) := by decide +kernel
theorem dX12_within_48 : decode cX12_within 48 = .ok (.getfield 16, 3) := by decide +kernel
theorem dX12_within_51 : decode cX12_within 51 = .ok (.aload_n 0, 1) := by decide +kernel
theorem dX12_within_52 : decode cX12_within 52 = .ok (.getfield 42, 3) := by decide +kernel
theorem dX12_within_55 : decode cX12_within 55 = .ok (.iload 5, 2) := by decide +kernel
theorem dX12_within_57 : decode cX12_within 57 = .ok (.iaload, 1) := by decide +kernel
theorem dX12_within_58 : decode cX12_within 58 = .ok (.laload, 1) := by decide +kernel
theorem dX12_within_59 : decode cX12_within 59 = .ok (.ladd, 1) := by decide +kernel
theorem dX12_within_60 : decode cX12_within 60 = .ok (.lstore_n 3, 1) := by decide +kernel
theorem dX12_within_61 : decode cX12_within 61 = .ok (.iinc 5 1, 3) := by decide +kernel
theorem dX12_within_64 : decode cX12_within 64 = .ok (.goto (-30), 3) := by decide +kernel
theorem dX12_within_67 : decode cX12_within 67 = .ok (.aload_n 0, 1) := by decide +kernel
theorem dX12_within_68 : decode cX12_within 68 = .ok (.lload_n 3, 1) := by decide +kernel
theorem dX12_within_69 : decode cX12_within 69 = .ok (.aload_n 0, 1) := by decide +kernel
theorem dX12_within_70 : decode cX12_within 70 = .ok (.invokevirtual 219, 3) := by decide +kernel
theorem dX12_within_73 : decode cX12_within 73 = .ok (.invokevirtual 223, 3) := by decide +kernel
theorem dX12_within_76 : decode cX12_within 76 = .ok (.ireturn, 1) := by decide +kernel
theorem dX12_seenBy_0 : decode cX12_seenBy 0 = .ok (.lconst 0, 1) := by decide +kernel
theorem dX12_seenBy_1 : decode cX12_seenBy 1 = .ok (.lstore_n 3, 1) := by decide +kernel
theorem dX12_seenBy_2 : decode cX12_seenBy 2 = .ok (.iconst 0, 1) := by decide +kernel
theorem dX12_seenBy_3 : decode cX12_seenBy 3 = .ok (.istore 5, 2) := by decide +kernel
theorem dX12_seenBy_5 : decode cX12_seenBy 5 = .ok (.iload 5, 2) := by decide +kernel
theorem dX12_seenBy_7 : decode cX12_seenBy 7 = .ok (.aload_n 0, 1) := by decide +kernel
theorem dX12_seenBy_8 : decode cX12_seenBy 8 = .ok (.getfield 139, 3) := by decide +kernel
theorem dX12_seenBy_11 : decode cX12_seenBy 11 = .ok (.if_icmp .ge 29, 3) := by decide +kernel
theorem dX12_seenBy_14 : decode cX12_seenBy 14 = .ok (.lload_n 3, 1) := by decide +kernel
theorem dX12_seenBy_15 : decode cX12_seenBy 15 = .ok (.aload_n 0, 1) := by decide +kernel
theorem dX12_seenBy_16 : decode cX12_seenBy 16 = .ok (.getfield 16, 3) := by decide +kernel
theorem dX12_seenBy_19 : decode cX12_seenBy 19 = .ok (.iload 5, 2) := by decide +kernel
theorem dX12_seenBy_21 : decode cX12_seenBy 21 = .ok (.laload, 1) := by decide +kernel
theorem dX12_seenBy_22 : decode cX12_seenBy 22 = .ok (.aload_n 0, 1) := by decide +kernel
theorem dX12_seenBy_23 : decode cX12_seenBy 23 = .ok (.iload_n 1, 1) := by decide +kernel
theorem dX12_seenBy_24 : decode cX12_seenBy 24 = .ok (.iload 5, 2) := by decide +kernel
theorem dX12_seenBy_26 : decode cX12_seenBy 26 = .ok (.iload_n 2, 1) := by decide +kernel
theorem dX12_seenBy_27 : decode cX12_seenBy 27 = .ok (.invokevirtual 170, 3) := by decide +kernel
theorem dX12_seenBy_30 : decode cX12_seenBy 30 = .ok (.i2l, 1) := by decide +kernel
theorem dX12_seenBy_31 : decode cX12_seenBy 31 = .ok (.lmul, 1) := by decide +kernel
theorem dX12_seenBy_32 : decode cX12_seenBy 32 = .ok (.ladd, 1) := by decide +kernel
theorem dX12_seenBy_33 : decode cX12_seenBy 33 = .ok (.lstore_n 3, 1) := by decide +kernel
theorem dX12_seenBy_34 : decode cX12_seenBy 34 = .ok (.iinc 5 1, 3) := by decide +kernel
theorem dX12_seenBy_37 : decode cX12_seenBy 37 = .ok (.goto (-32), 3) := by decide +kernel
theorem dX12_seenBy_40 : decode cX12_seenBy 40 = .ok (.lload_n 3, 1) := by decide +kernel
theorem dX12_seenBy_41 : decode cX12_seenBy 41 = .ok (.lreturn, 1) := by decide +kernel
theorem dX12_worthOf_0 : decode cX12_worthOf 0 = .ok (.lconst 0, 1) := by decide +kernel
theorem dX12_worthOf_1 : decode cX12_worthOf 1 = .ok (.lstore_n 2, 1) := by decide +kernel
theorem dX12_worthOf_2 : decode cX12_worthOf 2 = .ok (.iconst 0, 1) := by decide +kernel
theorem dX12_worthOf_3 : decode cX12_worthOf 3 = .ok (.istore 4, 2) := by decide +kernel
theorem dX12_worthOf_5 : decode cX12_worthOf 5 = .ok (.iload 4, 2) := by decide +kernel
theorem dX12_worthOf_7 : decode cX12_worthOf 7 = .ok (.aload_n 0, 1) := by decide +kernel
theorem dX12_worthOf_8 : decode cX12_worthOf 8 = .ok (.getfield 139, 3) := by decide +kernel
theorem dX12_worthOf_11 : decode cX12_worthOf 11 = .ok (.if_icmp .ge 72, 3) := by decide +kernel
theorem dX12_worthOf_14 : decode cX12_worthOf 14 = .ok (.lconst 0, 1) := by decide +kernel
theorem dX12_worthOf_15 : decode cX12_worthOf 15 = .ok (.lstore 5, 2) := by decide +kernel
theorem dX12_worthOf_17 : decode cX12_worthOf 17 = .ok (.iconst 0, 1) := by decide +kernel
theorem dX12_worthOf_18 : decode cX12_worthOf 18 = .ok (.istore 7, 2) := by decide +kernel
theorem dX12_worthOf_20 : decode cX12_worthOf 20 = .ok (.iload 7, 2) := by decide +kernel
theorem dX12_worthOf_22 : decode cX12_worthOf 22 = .ok (.aload_n 0, 1) := by decide +kernel
theorem dX12_worthOf_23 : decode cX12_worthOf 23 = .ok (.getfield 139, 3) := by decide +kernel
theorem dX12_worthOf_26 : decode cX12_worthOf 26 = .ok (.if_icmp .ge 46, 3) := by decide +kernel
theorem dX12_worthOf_29 : decode cX12_worthOf 29 = .ok (.aload_n 0, 1) := by decide +kernel
theorem dX12_worthOf_30 : decode cX12_worthOf 30 = .ok (.getfield 16, 3) := by decide +kernel
theorem dX12_worthOf_33 : decode cX12_worthOf 33 = .ok (.iload 7, 2) := by decide +kernel
theorem dX12_worthOf_35 : decode cX12_worthOf 35 = .ok (.laload, 1) := by decide +kernel
theorem dX12_worthOf_36 : decode cX12_worthOf 36 = .ok (.aload_n 0, 1) := by decide +kernel
theorem dX12_worthOf_37 : decode cX12_worthOf 37 = .ok (.iload_n 1, 1) := by decide +kernel
theorem dX12_worthOf_38 : decode cX12_worthOf 38 = .ok (.iload 7, 2) := by decide +kernel
theorem dX12_worthOf_40 : decode cX12_worthOf 40 = .ok (.iload 4, 2) := by decide +kernel
theorem dX12_worthOf_42 : decode cX12_worthOf 42 = .ok (.invokevirtual 170, 3) := by decide +kernel
theorem dX12_worthOf_45 : decode cX12_worthOf 45 = .ok (.i2l, 1) := by decide +kernel
theorem dX12_worthOf_46 : decode cX12_worthOf 46 = .ok (.lmul, 1) := by decide +kernel
theorem dX12_worthOf_47 : decode cX12_worthOf 47 = .ok (.lstore 8, 2) := by decide +kernel
theorem dX12_worthOf_49 : decode cX12_worthOf 49 = .ok (.lload 8, 2) := by decide +kernel
theorem dX12_worthOf_51 : decode cX12_worthOf 51 = .ok (.lload 5, 2) := by decide +kernel
theorem dX12_worthOf_53 : decode cX12_worthOf 53 = .ok (.lcmp, 1) := by decide +kernel
theorem dX12_worthOf_54 : decode cX12_worthOf 54 = .ok (.ifCond .le 8, 3) := by decide +kernel
theorem dX12_worthOf_57 : decode cX12_worthOf 57 = .ok (.lload 8, 2) := by decide +kernel
theorem dX12_worthOf_59 : decode cX12_worthOf 59 = .ok (.goto 5, 3) := by decide +kernel
theorem dX12_worthOf_62 : decode cX12_worthOf 62 = .ok (.lload 5, 2) := by decide +kernel
theorem dX12_worthOf_64 : decode cX12_worthOf 64 = .ok (.lstore 5, 2) := by decide +kernel
theorem dX12_worthOf_66 : decode cX12_worthOf 66 = .ok (.iinc 7 1, 3) := by decide +kernel
theorem dX12_worthOf_69 : decode cX12_worthOf 69 = .ok (.goto (-49), 3) := by decide +kernel
theorem dX12_worthOf_72 : decode cX12_worthOf 72 = .ok (.lload_n 2, 1) := by decide +kernel
theorem dX12_worthOf_73 : decode cX12_worthOf 73 = .ok (.lload 5, 2) := by decide +kernel
theorem dX12_worthOf_75 : decode cX12_worthOf 75 = .ok (.ladd, 1) := by decide +kernel
theorem dX12_worthOf_76 : decode cX12_worthOf 76 = .ok (.lstore_n 2, 1) := by decide +kernel
theorem dX12_worthOf_77 : decode cX12_worthOf 77 = .ok (.iinc 4 1, 3) := by decide +kernel
theorem dX12_worthOf_80 : decode cX12_worthOf 80 = .ok (.goto (-75), 3) := by decide +kernel
theorem dX12_worthOf_83 : decode cX12_worthOf 83 = .ok (.lload_n 2, 1) := by decide +kernel
theorem dX12_worthOf_84 : decode cX12_worthOf 84 = .ok (.lreturn, 1) := by decide +kernel
theorem dX12_worth_0 : decode cX12_worth 0 = .ok (.aload_n 0, 1) := by decide +kernel
theorem dX12_worth_1 : decode cX12_worth 1 = .ok (.iload_n 1, 1) := by decide +kernel
theorem dX12_worth_2 : decode cX12_worth 2 = .ok (.invokevirtual 183, 3) := by decide +kernel
theorem dX12_worth_5 : decode cX12_worth 5 = .ok (.ifCond .eq 26, 3) := by decide +kernel
theorem dX12_worth_8 : decode cX12_worth 8 = .ok (.aload_n 0, 1) := by decide +kernel
theorem dX12_worth_9 : decode cX12_worth 9 = .ok (.aload_n 0, 1) := by decide +kernel
theorem dX12_worth_10 : decode cX12_worth 10 = .ok (.iload_n 1, 1) := by decide +kernel
theorem dX12_worth_11 : decode cX12_worth 11 = .ok (.invokevirtual 238, 3) := by decide +kernel
theorem dX12_worth_14 : decode cX12_worth 14 = .ok (.aload_n 0, 1) := by decide +kernel
theorem dX12_worth_15 : decode cX12_worth 15 = .ok (.invokevirtual 219, 3) := by decide +kernel
theorem dX12_worth_18 : decode cX12_worth 18 = .ok (.aload_n 0, 1) := by decide +kernel
theorem dX12_worth_19 : decode cX12_worth 19 = .ok (.iload_n 1, 1) := by decide +kernel
theorem dX12_worth_20 : decode cX12_worth 20 = .ok (.invokevirtual 177, 3) := by decide +kernel
theorem dX12_worth_23 : decode cX12_worth 23 = .ok (.i2l, 1) := by decide +kernel
theorem dX12_worth_24 : decode cX12_worth 24 = .ok (.lmul, 1) := by decide +kernel
theorem dX12_worth_25 : decode cX12_worth 25 = .ok (.invokevirtual 223, 3) := by decide +kernel
theorem dX12_worth_28 : decode cX12_worth 28 = .ok (.goto 4, 3) := by decide +kernel
theorem dX12_worth_31 : decode cX12_worth 31 = .ok (.iconst (-1), 1) := by decide +kernel
theorem dX12_worth_32 : decode cX12_worth 32 = .ok (.ireturn, 1) := by decide +kernel
theorem dX12_whose_0 : decode cX12_whose 0 = .ok (.aload_n 0, 1) := by decide +kernel
theorem dX12_whose_1 : decode cX12_whose 1 = .ok (.getfield 142, 3) := by decide +kernel
theorem dX12_whose_4 : decode cX12_whose 4 = .ok (.ifCond .ne 6, 3) := by decide +kernel
theorem dX12_whose_7 : decode cX12_whose 7 = .ok (.bipush (-4), 2) := by decide +kernel
theorem dX12_whose_9 : decode cX12_whose 9 = .ok (.ireturn, 1) := by decide +kernel
theorem dX12_whose_10 : decode cX12_whose 10 = .ok (.iconst 0, 1) := by decide +kernel
theorem dX12_whose_11 : decode cX12_whose 11 = .ok (.istore_n 1, 1) := by decide +kernel
theorem dX12_whose_12 : decode cX12_whose 12 = .ok (.iconst 0, 1) := by decide +kernel
theorem dX12_whose_13 : decode cX12_whose 13 = .ok (.istore_n 2, 1) := by decide +kernel
theorem dX12_whose_14 : decode cX12_whose 14 = .ok (.aload_n 0, 1) := by decide +kernel
theorem dX12_whose_15 : decode cX12_whose 15 = .ok (.iconst 0, 1) := by decide +kernel
theorem dX12_whose_16 : decode cX12_whose 16 = .ok (.invokevirtual 238, 3) := by decide +kernel
theorem dX12_whose_19 : decode cX12_whose 19 = .ok (.lstore_n 3, 1) := by decide +kernel
theorem dX12_whose_20 : decode cX12_whose 20 = .ok (.lload_n 3, 1) := by decide +kernel
theorem dX12_whose_21 : decode cX12_whose 21 = .ok (.lstore 5, 2) := by decide +kernel
theorem dX12_whose_23 : decode cX12_whose 23 = .ok (.iconst 1, 1) := by decide +kernel
theorem dX12_whose_24 : decode cX12_whose 24 = .ok (.istore 7, 2) := by decide +kernel
theorem dX12_whose_26 : decode cX12_whose 26 = .ok (.iload 7, 2) := by decide +kernel
theorem dX12_whose_28 : decode cX12_whose 28 = .ok (.aload_n 0, 1) := by decide +kernel
theorem dX12_whose_29 : decode cX12_whose 29 = .ok (.getfield 142, 3) := by decide +kernel
theorem dX12_whose_32 : decode cX12_whose 32 = .ok (.if_icmp .ge 75, 3) := by decide +kernel
theorem dX12_whose_35 : decode cX12_whose 35 = .ok (.aload_n 0, 1) := by decide +kernel
theorem dX12_whose_36 : decode cX12_whose 36 = .ok (.iload 7, 2) := by decide +kernel
theorem dX12_whose_38 : decode cX12_whose 38 = .ok (.invokevirtual 238, 3) := by decide +kernel
theorem dX12_whose_41 : decode cX12_whose 41 = .ok (.lstore 8, 2) := by decide +kernel
theorem dX12_whose_43 : decode cX12_whose 43 = .ok (.lload 8, 2) := by decide +kernel
theorem dX12_whose_45 : decode cX12_whose 45 = .ok (.aload_n 0, 1) := by decide +kernel
theorem dX12_whose_46 : decode cX12_whose 46 = .ok (.iload_n 1, 1) := by decide +kernel
theorem dX12_whose_47 : decode cX12_whose 47 = .ok (.invokevirtual 177, 3) := by decide +kernel
theorem dX12_whose_50 : decode cX12_whose 50 = .ok (.i2l, 1) := by decide +kernel
theorem dX12_whose_51 : decode cX12_whose 51 = .ok (.lmul, 1) := by decide +kernel
theorem dX12_whose_52 : decode cX12_whose 52 = .ok (.lload_n 3, 1) := by decide +kernel
theorem dX12_whose_53 : decode cX12_whose 53 = .ok (.aload_n 0, 1) := by decide +kernel
theorem dX12_whose_54 : decode cX12_whose 54 = .ok (.iload 7, 2) := by decide +kernel
theorem dX12_whose_56 : decode cX12_whose 56 = .ok (.invokevirtual 177, 3) := by decide +kernel
theorem dX12_whose_59 : decode cX12_whose 59 = .ok (.i2l, 1) := by decide +kernel
theorem dX12_whose_60 : decode cX12_whose 60 = .ok (.lmul, 1) := by decide +kernel
theorem dX12_whose_61 : decode cX12_whose 61 = .ok (.lcmp, 1) := by decide +kernel
theorem dX12_whose_62 : decode cX12_whose 62 = .ok (.ifCond .le 9, 3) := by decide +kernel
theorem dX12_whose_65 : decode cX12_whose 65 = .ok (.iload 7, 2) := by decide +kernel
theorem dX12_whose_67 : decode cX12_whose 67 = .ok (.istore_n 1, 1) := by decide +kernel
theorem dX12_whose_68 : decode cX12_whose 68 = .ok (.lload 8, 2) := by decide +kernel
theorem dX12_whose_70 : decode cX12_whose 70 = .ok (.lstore_n 3, 1) := by decide +kernel
theorem dX12_whose_71 : decode cX12_whose 71 = .ok (.lload 8, 2) := by decide +kernel
theorem dX12_whose_73 : decode cX12_whose 73 = .ok (.aload_n 0, 1) := by decide +kernel
theorem dX12_whose_74 : decode cX12_whose 74 = .ok (.iload_n 2, 1) := by decide +kernel
theorem dX12_whose_75 : decode cX12_whose 75 = .ok (.invokevirtual 177, 3) := by decide +kernel
theorem dX12_whose_78 : decode cX12_whose 78 = .ok (.i2l, 1) := by decide +kernel
theorem dX12_whose_79 : decode cX12_whose 79 = .ok (.lmul, 1) := by decide +kernel
theorem dX12_whose_80 : decode cX12_whose 80 = .ok (.lload 5, 2) := by decide +kernel
theorem dX12_whose_82 : decode cX12_whose 82 = .ok (.aload_n 0, 1) := by decide +kernel
theorem dX12_whose_83 : decode cX12_whose 83 = .ok (.iload 7, 2) := by decide +kernel
theorem dX12_whose_85 : decode cX12_whose 85 = .ok (.invokevirtual 177, 3) := by decide +kernel
theorem dX12_whose_88 : decode cX12_whose 88 = .ok (.i2l, 1) := by decide +kernel
theorem dX12_whose_89 : decode cX12_whose 89 = .ok (.lmul, 1) := by decide +kernel
theorem dX12_whose_90 : decode cX12_whose 90 = .ok (.lcmp, 1) := by decide +kernel
theorem dX12_whose_91 : decode cX12_whose 91 = .ok (.ifCond .ge 10, 3) := by decide +kernel
theorem dX12_whose_94 : decode cX12_whose 94 = .ok (.iload 7, 2) := by decide +kernel
theorem dX12_whose_96 : decode cX12_whose 96 = .ok (.istore_n 2, 1) := by decide +kernel
theorem dX12_whose_97 : decode cX12_whose 97 = .ok (.lload 8, 2) := by decide +kernel
theorem dX12_whose_99 : decode cX12_whose 99 = .ok (.lstore 5, 2) := by decide +kernel
theorem dX12_whose_101 : decode cX12_whose 101 = .ok (.iinc 7 1, 3) := by decide +kernel
theorem dX12_whose_104 : decode cX12_whose 104 = .ok (.goto (-78), 3) := by decide +kernel
theorem dX12_whose_107 : decode cX12_whose 107 = .ok (.aload_n 0, 1) := by decide +kernel
theorem dX12_whose_108 : decode cX12_whose 108 = .ok (.iload_n 2, 1) := by decide +kernel
theorem dX12_whose_109 : decode cX12_whose 109 = .ok (.putfield 52, 3) := by decide +kernel
theorem dX12_whose_112 : decode cX12_whose 112 = .ok (.iload_n 1, 1) := by decide +kernel
theorem dX12_whose_113 : decode cX12_whose 113 = .ok (.ireturn, 1) := by decide +kernel
theorem dX12_seen_0 : decode cX12_seen 0 = .ok (.aload_n 0, 1) := by decide +kernel
theorem dX12_seen_1 : decode cX12_seen 1 = .ok (.iload_n 1, 1) := by decide +kernel
theorem dX12_seen_2 : decode cX12_seen 2 = .ok (.invokevirtual 183, 3) := by decide +kernel
theorem dX12_seen_5 : decode cX12_seen 5 = .ok (.ifCond .eq 35, 3) := by decide +kernel
theorem dX12_seen_8 : decode cX12_seen 8 = .ok (.aload_n 0, 1) := by decide +kernel
theorem dX12_seen_9 : decode cX12_seen 9 = .ok (.iload_n 2, 1) := by decide +kernel
theorem dX12_seen_10 : decode cX12_seen 10 = .ok (.invokevirtual 205, 3) := by decide +kernel
theorem dX12_seen_13 : decode cX12_seen 13 = .ok (.ifCond .eq 27, 3) := by decide +kernel
theorem dX12_seen_16 : decode cX12_seen 16 = .ok (.aload_n 0, 1) := by decide +kernel
theorem dX12_seen_17 : decode cX12_seen 17 = .ok (.aload_n 0, 1) := by decide +kernel
theorem dX12_seen_18 : decode cX12_seen 18 = .ok (.iload_n 1, 1) := by decide +kernel
theorem dX12_seen_19 : decode cX12_seen 19 = .ok (.iload_n 2, 1) := by decide +kernel
theorem dX12_seen_20 : decode cX12_seen 20 = .ok (.invokevirtual 242, 3) := by decide +kernel
theorem dX12_seen_23 : decode cX12_seen 23 = .ok (.aload_n 0, 1) := by decide +kernel
theorem dX12_seen_24 : decode cX12_seen 24 = .ok (.invokevirtual 219, 3) := by decide +kernel
theorem dX12_seen_27 : decode cX12_seen 27 = .ok (.aload_n 0, 1) := by decide +kernel
theorem dX12_seen_28 : decode cX12_seen 28 = .ok (.iload_n 1, 1) := by decide +kernel
theorem dX12_seen_29 : decode cX12_seen 29 = .ok (.invokevirtual 177, 3) := by decide +kernel
theorem dX12_seen_32 : decode cX12_seen 32 = .ok (.i2l, 1) := by decide +kernel
end
section
theorem dX12_seen_33 : decode cX12_seen 33 = .ok (.lmul, 1) := by decide +kernel
theorem dX12_seen_34 : decode cX12_seen 34 = .ok (.invokevirtual 223, 3) := by decide +kernel
theorem dX12_seen_37 : decode cX12_seen 37 = .ok (.goto 4, 3) := by decide +kernel
theorem dX12_seen_40 : decode cX12_seen 40 = .ok (.iconst (-1), 1) := by decide +kernel
theorem dX12_seen_41 : decode cX12_seen 41 = .ok (.ireturn, 1) := by decide +kernel
theorem dX12_sights_0 : decode cX12_sights 0 = .ok (.aload_n 0, 1) := by decide +kernel
theorem dX12_sights_1 : decode cX12_sights 1 = .ok (.iload_n 1, 1) := by decide +kernel
theorem dX12_sights_2 : decode cX12_sights 2 = .ok (.invokevirtual 183, 3) := by decide +kernel
theorem dX12_sights_5 : decode cX12_sights 5 = .ok (.ifCond .ne 5, 3) := by decide +kernel
theorem dX12_sights_8 : decode cX12_sights 8 = .ok (.iconst (-1), 1) := by decide +kernel
theorem dX12_sights_9 : decode cX12_sights 9 = .ok (.ireturn, 1) := by decide +kernel
theorem dX12_sights_10 : decode cX12_sights 10 = .ok (.iconst 0, 1) := by decide +kernel
theorem dX12_sights_11 : decode cX12_sights 11 = .ok (.istore_n 2, 1) := by decide +kernel
theorem dX12_sights_12 : decode cX12_sights 12 = .ok (.lconst 0, 1) := by decide +kernel
theorem dX12_sights_13 : decode cX12_sights 13 = .ok (.lstore_n 3, 1) := by decide +kernel
theorem dX12_sights_14 : decode cX12_sights 14 = .ok (.iconst 0, 1) := by decide +kernel
theorem dX12_sights_15 : decode cX12_sights 15 = .ok (.istore 5, 2) := by decide +kernel
theorem dX12_sights_17 : decode cX12_sights 17 = .ok (.iload 5, 2) := by decide +kernel
theorem dX12_sights_19 : decode cX12_sights 19 = .ok (.aload_n 0, 1) := by decide +kernel
theorem dX12_sights_20 : decode cX12_sights 20 = .ok (.getfield 139, 3) := by decide +kernel
theorem dX12_sights_23 : decode cX12_sights 23 = .ok (.if_icmp .ge 67, 3) := by decide +kernel
theorem dX12_sights_26 : decode cX12_sights 26 = .ok (.aload_n 0, 1) := by decide +kernel
theorem dX12_sights_27 : decode cX12_sights 27 = .ok (.iload_n 1, 1) := by decide +kernel
theorem dX12_sights_28 : decode cX12_sights 28 = .ok (.iload 5, 2) := by decide +kernel
theorem dX12_sights_30 : decode cX12_sights 30 = .ok (.invokevirtual 242, 3) := by decide +kernel
theorem dX12_sights_33 : decode cX12_sights 33 = .ok (.lstore 6, 2) := by decide +kernel
theorem dX12_sights_35 : decode cX12_sights 35 = .ok (.iload_n 2, 1) := by decide +kernel
theorem dX12_sights_36 : decode cX12_sights 36 = .ok (.lload 6, 2) := by decide +kernel
theorem dX12_sights_38 : decode cX12_sights 38 = .ok (.lconst 0, 1) := by decide +kernel
theorem dX12_sights_39 : decode cX12_sights 39 = .ok (.lcmp, 1) := by decide +kernel
theorem dX12_sights_40 : decode cX12_sights 40 = .ok (.ifCond .le 7, 3) := by decide +kernel
theorem dX12_sights_43 : decode cX12_sights 43 = .ok (.iconst 1, 1) := by decide +kernel
theorem dX12_sights_44 : decode cX12_sights 44 = .ok (.goto 4, 3) := by decide +kernel
theorem dX12_sights_47 : decode cX12_sights 47 = .ok (.iconst 0, 1) := by decide +kernel
theorem dX12_sights_48 : decode cX12_sights 48 = .ok (.iadd, 1) := by decide +kernel
theorem dX12_sights_49 : decode cX12_sights 49 = .ok (.istore_n 2, 1) := by decide +kernel
theorem dX12_sights_50 : decode cX12_sights 50 = .ok (.aload_n 0, 1) := by decide +kernel
theorem dX12_sights_51 : decode cX12_sights 51 = .ok (.lload 6, 2) := by decide +kernel
theorem dX12_sights_53 : decode cX12_sights 53 = .ok (.lload_n 3, 1) := by decide +kernel
theorem dX12_sights_54 : decode cX12_sights 54 = .ok (.lcmp, 1) := by decide +kernel
theorem dX12_sights_55 : decode cX12_sights 55 = .ok (.ifCond .le 8, 3) := by decide +kernel
theorem dX12_sights_58 : decode cX12_sights 58 = .ok (.iload 5, 2) := by decide +kernel
theorem dX12_sights_60 : decode cX12_sights 60 = .ok (.goto 7, 3) := by decide +kernel
theorem dX12_sights_63 : decode cX12_sights 63 = .ok (.aload_n 0, 1) := by decide +kernel
theorem dX12_sights_64 : decode cX12_sights 64 = .ok (.getfield 52, 3) := by decide +kernel
theorem dX12_sights_67 : decode cX12_sights 67 = .ok (.putfield 52, 3) := by decide +kernel
theorem dX12_sights_70 : decode cX12_sights 70 = .ok (.lload 6, 2) := by decide +kernel
theorem dX12_sights_72 : decode cX12_sights 72 = .ok (.lload_n 3, 1) := by decide +kernel
theorem dX12_sights_73 : decode cX12_sights 73 = .ok (.lcmp, 1) := by decide +kernel
theorem dX12_sights_74 : decode cX12_sights 74 = .ok (.ifCond .le 8, 3) := by decide +kernel
theorem dX12_sights_77 : decode cX12_sights 77 = .ok (.lload 6, 2) := by decide +kernel
theorem dX12_sights_79 : decode cX12_sights 79 = .ok (.goto 4, 3) := by decide +kernel
theorem dX12_sights_82 : decode cX12_sights 82 = .ok (.lload_n 3, 1) := by decide +kernel
theorem dX12_sights_83 : decode cX12_sights 83 = .ok (.lstore_n 3, 1) := by decide +kernel
theorem dX12_sights_84 : decode cX12_sights 84 = .ok (.iinc 5 1, 3) := by decide +kernel
theorem dX12_sights_87 : decode cX12_sights 87 = .ok (.goto (-70), 3) := by decide +kernel
theorem dX12_sights_90 : decode cX12_sights 90 = .ok (.iload_n 2, 1) := by decide +kernel
theorem dX12_sights_91 : decode cX12_sights 91 = .ok (.ireturn, 1) := by decide +kernel
theorem dX12_noLooks_0 : decode cX12_noLooks 0 = .ok (.aload_n 0, 1) := by decide +kernel
theorem dX12_noLooks_1 : decode cX12_noLooks 1 = .ok (.getfield 142, 3) := by decide +kernel
theorem dX12_noLooks_4 : decode cX12_noLooks 4 = .ok (.ifCond .ne 6, 3) := by decide +kernel
theorem dX12_noLooks_7 : decode cX12_noLooks 7 = .ok (.bipush (-4), 2) := by decide +kernel
theorem dX12_noLooks_9 : decode cX12_noLooks 9 = .ok (.ireturn, 1) := by decide +kernel
theorem dX12_noLooks_10 : decode cX12_noLooks 10 = .ok (.aload_n 0, 1) := by decide +kernel
theorem dX12_noLooks_11 : decode cX12_noLooks 11 = .ok (.getfield 20, 3) := by decide +kernel
theorem dX12_noLooks_14 : decode cX12_noLooks 14 = .ok (.iload_n 1, 1) := by decide +kernel
theorem dX12_noLooks_15 : decode cX12_noLooks 15 = .ok (.iaload, 1) := by decide +kernel
theorem dX12_noLooks_16 : decode cX12_noLooks 16 = .ok (.ifCond .ge 9, 3) := by decide +kernel
theorem dX12_noLooks_19 : decode cX12_noLooks 19 = .ok (.aload_n 0, 1) := by decide +kernel
theorem dX12_noLooks_20 : decode cX12_noLooks 20 = .ok (.iconst 1, 1) := by decide +kernel
theorem dX12_noLooks_21 : decode cX12_noLooks 21 = .ok (.invokevirtual 67, 3) := by decide +kernel
theorem dX12_noLooks_24 : decode cX12_noLooks 24 = .ok (.ireturn, 1) := by decide +kernel
theorem dX12_noLooks_25 : decode cX12_noLooks 25 = .ok (.aload_n 0, 1) := by decide +kernel
theorem dX12_noLooks_26 : decode cX12_noLooks 26 = .ok (.getfield 20, 3) := by decide +kernel
theorem dX12_noLooks_29 : decode cX12_noLooks 29 = .ok (.iload_n 1, 1) := by decide +kernel
theorem dX12_noLooks_30 : decode cX12_noLooks 30 = .ok (.iaload, 1) := by decide +kernel
theorem dX12_noLooks_31 : decode cX12_noLooks 31 = .ok (.iconst 2, 1) := by decide +kernel
theorem dX12_noLooks_32 : decode cX12_noLooks 32 = .ok (.irem, 1) := by decide +kernel
theorem dX12_noLooks_33 : decode cX12_noLooks 33 = .ok (.ifCond .ne 14, 3) := by decide +kernel
theorem dX12_noLooks_36 : decode cX12_noLooks 36 = .ok (.aload_n 0, 1) := by decide +kernel
theorem dX12_noLooks_37 : decode cX12_noLooks 37 = .ok (.getfield 20, 3) := by decide +kernel
theorem dX12_noLooks_40 : decode cX12_noLooks 40 = .ok (.iload_n 1, 1) := by decide +kernel
theorem dX12_noLooks_41 : decode cX12_noLooks 41 = .ok (.iaload, 1) := by decide +kernel
theorem dX12_noLooks_42 : decode cX12_noLooks 42 = .ok (.bipush 12, 2) := by decide +kernel
theorem dX12_noLooks_44 : decode cX12_noLooks 44 = .ok (.if_icmp .le 9, 3) := by decide +kernel
theorem dX12_noLooks_47 : decode cX12_noLooks 47 = .ok (.aload_n 0, 1) := by decide +kernel
theorem dX12_noLooks_48 : decode cX12_noLooks 48 = .ok (.iconst 5, 1) := by decide +kernel
theorem dX12_noLooks_49 : decode cX12_noLooks 49 = .ok (.invokevirtual 67, 3) := by decide +kernel
theorem dX12_noLooks_52 : decode cX12_noLooks 52 = .ok (.ireturn, 1) := by decide +kernel
theorem dX12_noLooks_53 : decode cX12_noLooks 53 = .ok (.iconst 1, 1) := by decide +kernel
theorem dX12_noLooks_54 : decode cX12_noLooks 54 = .ok (.istore_n 2, 1) := by decide +kernel
theorem dX12_noLooks_55 : decode cX12_noLooks 55 = .ok (.bipush 40, 2) := by decide +kernel
theorem dX12_noLooks_57 : decode cX12_noLooks 57 = .ok (.iload_n 1, 1) := by decide +kernel
theorem dX12_noLooks_58 : decode cX12_noLooks 58 = .ok (.imul, 1) := by decide +kernel
theorem dX12_noLooks_59 : decode cX12_noLooks 59 = .ok (.istore_n 3, 1) := by decide +kernel
theorem dX12_noLooks_60 : decode cX12_noLooks 60 = .ok (.iload_n 3, 1) := by decide +kernel
theorem dX12_noLooks_61 : decode cX12_noLooks 61 = .ok (.bipush 40, 2) := by decide +kernel
theorem dX12_noLooks_63 : decode cX12_noLooks 63 = .ok (.iload_n 1, 1) := by decide +kernel
theorem dX12_noLooks_64 : decode cX12_noLooks 64 = .ok (.imul, 1) := by decide +kernel
theorem dX12_noLooks_65 : decode cX12_noLooks 65 = .ok (.aload_n 0, 1) := by decide +kernel
theorem dX12_noLooks_66 : decode cX12_noLooks 66 = .ok (.getfield 20, 3) := by decide +kernel
theorem dX12_noLooks_69 : decode cX12_noLooks 69 = .ok (.iload_n 1, 1) := by decide +kernel
theorem dX12_noLooks_70 : decode cX12_noLooks 70 = .ok (.iaload, 1) := by decide +kernel
theorem dX12_noLooks_71 : decode cX12_noLooks 71 = .ok (.iadd, 1) := by decide +kernel
theorem dX12_noLooks_72 : decode cX12_noLooks 72 = .ok (.if_icmp .ge 47, 3) := by decide +kernel
theorem dX12_noLooks_75 : decode cX12_noLooks 75 = .ok (.iload_n 2, 1) := by decide +kernel
theorem dX12_noLooks_76 : decode cX12_noLooks 76 = .ok (.ifCond .eq 35, 3) := by decide +kernel
theorem dX12_noLooks_79 : decode cX12_noLooks 79 = .ok (.aload_n 0, 1) := by decide +kernel
theorem dX12_noLooks_80 : decode cX12_noLooks 80 = .ok (.aload_n 0, 1) := by decide +kernel
theorem dX12_noLooks_81 : decode cX12_noLooks 81 = .ok (.getfield 23, 3) := by decide +kernel
theorem dX12_noLooks_84 : decode cX12_noLooks 84 = .ok (.iload_n 3, 1) := by decide +kernel
theorem dX12_noLooks_85 : decode cX12_noLooks 85 = .ok (.iaload, 1) := by decide +kernel
theorem dX12_noLooks_86 : decode cX12_noLooks 86 = .ok (.invokevirtual 183, 3) := by decide +kernel
theorem dX12_noLooks_89 : decode cX12_noLooks 89 = .ok (.ifCond .eq 22, 3) := by decide +kernel
theorem dX12_noLooks_92 : decode cX12_noLooks 92 = .ok (.aload_n 0, 1) := by decide +kernel
theorem dX12_noLooks_93 : decode cX12_noLooks 93 = .ok (.aload_n 0, 1) := by decide +kernel
theorem dX12_noLooks_94 : decode cX12_noLooks 94 = .ok (.getfield 23, 3) := by decide +kernel
theorem dX12_noLooks_97 : decode cX12_noLooks 97 = .ok (.iload_n 3, 1) := by decide +kernel
theorem dX12_noLooks_98 : decode cX12_noLooks 98 = .ok (.iconst 1, 1) := by decide +kernel
theorem dX12_noLooks_99 : decode cX12_noLooks 99 = .ok (.iadd, 1) := by decide +kernel
theorem dX12_noLooks_100 : decode cX12_noLooks 100 = .ok (.iaload, 1) := by decide +kernel
theorem dX12_noLooks_101 : decode cX12_noLooks 101 = .ok (.invokevirtual 205, 3) := by decide +kernel
theorem dX12_noLooks_104 : decode cX12_noLooks 104 = .ok (.ifCond .eq 7, 3) := by decide +kernel
theorem dX12_noLooks_107 : decode cX12_noLooks 107 = .ok (.iconst 1, 1) := by decide +kernel
theorem dX12_noLooks_108 : decode cX12_noLooks 108 = .ok (.goto 4, 3) := by decide +kernel
theorem dX12_noLooks_111 : decode cX12_noLooks 111 = .ok (.iconst 0, 1) := by decide +kernel
theorem dX12_noLooks_112 : decode cX12_noLooks 112 = .ok (.istore_n 2, 1) := by decide +kernel
theorem dX12_noLooks_113 : decode cX12_noLooks 113 = .ok (.iinc 3 2, 3) := by decide +kernel
theorem dX12_noLooks_116 : decode cX12_noLooks 116 = .ok (.goto (-56), 3) := by decide +kernel
theorem dX12_noLooks_119 : decode cX12_noLooks 119 = .ok (.iconst 0, 1) := by decide +kernel
theorem dX12_noLooks_120 : decode cX12_noLooks 120 = .ok (.istore_n 3, 1) := by decide +kernel
theorem dX12_noLooks_121 : decode cX12_noLooks 121 = .ok (.iload_n 3, 1) := by decide +kernel
theorem dX12_noLooks_122 : decode cX12_noLooks 122 = .ok (.aload_n 0, 1) := by decide +kernel
theorem dX12_noLooks_123 : decode cX12_noLooks 123 = .ok (.getfield 139, 3) := by decide +kernel
theorem dX12_noLooks_126 : decode cX12_noLooks 126 = .ok (.if_icmp .ge 79, 3) := by decide +kernel
theorem dX12_noLooks_129 : decode cX12_noLooks 129 = .ok (.iload_n 2, 1) := by decide +kernel
theorem dX12_noLooks_130 : decode cX12_noLooks 130 = .ok (.ifCond .eq 75, 3) := by decide +kernel
theorem dX12_noLooks_133 : decode cX12_noLooks 133 = .ok (.aload_n 0, 1) := by decide +kernel
theorem dX12_noLooks_134 : decode cX12_noLooks 134 = .ok (.getfield 45, 3) := by decide +kernel
theorem dX12_noLooks_137 : decode cX12_noLooks 137 = .ok (.iload_n 3, 1) := by decide +kernel
theorem dX12_noLooks_138 : decode cX12_noLooks 138 = .ok (.lconst 1, 1) := by decide +kernel
theorem dX12_noLooks_139 : decode cX12_noLooks 139 = .ok (.lastore, 1) := by decide +kernel
theorem dX12_noLooks_140 : decode cX12_noLooks 140 = .ok (.bipush 40, 2) := by decide +kernel
theorem dX12_noLooks_142 : decode cX12_noLooks 142 = .ok (.iload_n 1, 1) := by decide +kernel
theorem dX12_noLooks_143 : decode cX12_noLooks 143 = .ok (.imul, 1) := by decide +kernel
theorem dX12_noLooks_144 : decode cX12_noLooks 144 = .ok (.istore 4, 2) := by decide +kernel
theorem dX12_noLooks_146 : decode cX12_noLooks 146 = .ok (.iload 4, 2) := by decide +kernel
theorem dX12_noLooks_148 : decode cX12_noLooks 148 = .ok (.bipush 40, 2) := by decide +kernel
theorem dX12_noLooks_150 : decode cX12_noLooks 150 = .ok (.iload_n 1, 1) := by decide +kernel
theorem dX12_noLooks_151 : decode cX12_noLooks 151 = .ok (.imul, 1) := by decide +kernel
theorem dX12_noLooks_152 : decode cX12_noLooks 152 = .ok (.aload_n 0, 1) := by decide +kernel
theorem dX12_noLooks_153 : decode cX12_noLooks 153 = .ok (.getfield 20, 3) := by decide +kernel
theorem dX12_noLooks_156 : decode cX12_noLooks 156 = .ok (.iload_n 1, 1) := by decide +kernel
theorem dX12_noLooks_157 : decode cX12_noLooks 157 = .ok (.iaload, 1) := by decide +kernel
theorem dX12_noLooks_158 : decode cX12_noLooks 158 = .ok (.iadd, 1) := by decide +kernel
theorem dX12_noLooks_159 : decode cX12_noLooks 159 = .ok (.if_icmp .ge 40, 3) := by decide +kernel
theorem dX12_noLooks_162 : decode cX12_noLooks 162 = .ok (.aload_n 0, 1) := by decide +kernel
theorem dX12_noLooks_163 : decode cX12_noLooks 163 = .ok (.getfield 45, 3) := by decide +kernel
theorem dX12_noLooks_166 : decode cX12_noLooks 166 = .ok (.iload_n 3, 1) := by decide +kernel
theorem dX12_noLooks_167 : decode cX12_noLooks 167 = .ok (.dup2, 1) := by decide +kernel
theorem dX12_noLooks_168 : decode cX12_noLooks 168 = .ok (.laload, 1) := by decide +kernel
theorem dX12_noLooks_169 : decode cX12_noLooks 169 = .ok (.aload_n 0, 1) := by decide +kernel
theorem dX12_noLooks_170 : decode cX12_noLooks 170 = .ok (.aload_n 0, 1) := by decide +kernel
theorem dX12_noLooks_171 : decode cX12_noLooks 171 = .ok (.getfield 23, 3) := by decide +kernel
theorem dX12_noLooks_174 : decode cX12_noLooks 174 = .ok (.iload 4, 2) := by decide +kernel
theorem dX12_noLooks_176 : decode cX12_noLooks 176 = .ok (.iaload, 1) := by decide +kernel
theorem dX12_noLooks_177 : decode cX12_noLooks 177 = .ok (.iload_n 3, 1) := by decide +kernel
theorem dX12_noLooks_178 : decode cX12_noLooks 178 = .ok (.aload_n 0, 1) := by decide +kernel
theorem dX12_noLooks_179 : decode cX12_noLooks 179 = .ok (.getfield 23, 3) := by decide +kernel
theorem dX12_noLooks_182 : decode cX12_noLooks 182 = .ok (.iload 4, 2) := by decide +kernel
theorem dX12_noLooks_184 : decode cX12_noLooks 184 = .ok (.iconst 1, 1) := by decide +kernel
theorem dX12_noLooks_185 : decode cX12_noLooks 185 = .ok (.iadd, 1) := by decide +kernel
theorem dX12_noLooks_186 : decode cX12_noLooks 186 = .ok (.iaload, 1) := by decide +kernel
theorem dX12_noLooks_187 : decode cX12_noLooks 187 = .ok (.invokevirtual 170, 3) := by decide +kernel
theorem dX12_noLooks_190 : decode cX12_noLooks 190 = .ok (.i2l, 1) := by decide +kernel
theorem dX12_noLooks_191 : decode cX12_noLooks 191 = .ok (.lmul, 1) := by decide +kernel
theorem dX12_noLooks_192 : decode cX12_noLooks 192 = .ok (.lastore, 1) := by decide +kernel
theorem dX12_noLooks_193 : decode cX12_noLooks 193 = .ok (.iinc 4 2, 3) := by decide +kernel
theorem dX12_noLooks_196 : decode cX12_noLooks 196 = .ok (.goto (-50), 3) := by decide +kernel
theorem dX12_noLooks_199 : decode cX12_noLooks 199 = .ok (.iinc 3 1, 3) := by decide +kernel
theorem dX12_noLooks_202 : decode cX12_noLooks 202 = .ok (.goto (-81), 3) := by decide +kernel
theorem dX12_noLooks_205 : decode cX12_noLooks 205 = .ok (.iload_n 2, 1) := by decide +kernel
theorem dX12_noLooks_206 : decode cX12_noLooks 206 = .ok (.ifCond .eq 7, 3) := by decide +kernel
theorem dX12_noLooks_209 : decode cX12_noLooks 209 = .ok (.iconst 0, 1) := by decide +kernel
theorem dX12_noLooks_210 : decode cX12_noLooks 210 = .ok (.goto 8, 3) := by decide +kernel
theorem dX12_noLooks_213 : decode cX12_noLooks 213 = .ok (.aload_n 0, 1) := by decide +kernel
theorem dX12_noLooks_214 : decode cX12_noLooks 214 = .ok (.iconst 3, 1) := by decide +kernel
theorem dX12_noLooks_215 : decode cX12_noLooks 215 = .ok (.invokevirtual 67, 3) := by decide +kernel
theorem dX12_noLooks_218 : decode cX12_noLooks 218 = .ok (.ireturn, 1) := by decide +kernel
theorem dX12_fits_0 : decode cX12_fits 0 = .ok (.iload_n 1, 1) := by decide +kernel
theorem dX12_fits_1 : decode cX12_fits 1 = .ok (.invokestatic 63, 3) := by decide +kernel
theorem dX12_fits_4 : decode cX12_fits 4 = .ok (.ifCond .ne 5, 3) := by decide +kernel
theorem dX12_fits_7 : decode cX12_fits 7 = .ok (.iconst (-1), 1) := by decide +kernel
theorem dX12_fits_8 : decode cX12_fits 8 = .ok (.ireturn, 1) := by decide +kernel
theorem dX12_fits_9 : decode cX12_fits 9 = .ok (.aload_n 0, 1) := by decide +kernel
theorem dX12_fits_10 : decode cX12_fits 10 = .ok (.iload_n 1, 1) := by decide +kernel
theorem dX12_fits_11 : decode cX12_fits 11 = .ok (.invokevirtual 245, 3) := by decide +kernel
theorem dX12_fits_14 : decode cX12_fits 14 = .ok (.istore_n 2, 1) := by decide +kernel
theorem dX12_fits_15 : decode cX12_fits 15 = .ok (.iload_n 2, 1) := by decide +kernel
theorem dX12_fits_16 : decode cX12_fits 16 = .ok (.ifCond .eq 5, 3) := by decide +kernel
theorem dX12_fits_19 : decode cX12_fits 19 = .ok (.iload_n 2, 1) := by decide +kernel
theorem dX12_fits_20 : decode cX12_fits 20 = .ok (.ireturn, 1) := by decide +kernel
theorem dX12_fits_21 : decode cX12_fits 21 = .ok (.iconst 0, 1) := by decide +kernel
theorem dX12_fits_22 : decode cX12_fits 22 = .ok (.istore_n 3, 1) := by decide +kernel
theorem dX12_fits_23 : decode cX12_fits 23 = .ok (.aload_n 0, 1) := by decide +kernel
theorem dX12_fits_24 : decode cX12_fits 24 = .ok (.bipush (-9), 2) := by decide +kernel
theorem dX12_fits_26 : decode cX12_fits 26 = .ok (.putfield 52, 3) := by decide +kernel
theorem dX12_fits_29 : decode cX12_fits 29 = .ok (.aload_n 0, 1) := by decide +kernel
theorem dX12_fits_30 : decode cX12_fits 30 = .ok (.getfield 139, 3) := by decide +kernel
theorem dX12_fits_33 : decode cX12_fits 33 = .ok (.iconst 1, 1) := by decide +kernel
theorem dX12_fits_34 : decode cX12_fits 34 = .ok (.isub, 1) := by decide +kernel
theorem dX12_fits_35 : decode cX12_fits 35 = .ok (.istore 4, 2) := by decide +kernel
theorem dX12_fits_37 : decode cX12_fits 37 = .ok (.iload 4, 2) := by decide +kernel
theorem dX12_fits_39 : decode cX12_fits 39 = .ok (.ifCond .lt 54, 3) := by decide +kernel
theorem dX12_fits_42 : decode cX12_fits 42 = .ok (.iload_n 3, 1) := by decide +kernel
theorem dX12_fits_43 : decode cX12_fits 43 = .ok (.aload_n 0, 1) := by decide +kernel
theorem dX12_fits_44 : decode cX12_fits 44 = .ok (.getfield 45, 3) := by decide +kernel
theorem dX12_fits_47 : decode cX12_fits 47 = .ok (.iload 4, 2) := by decide +kernel
theorem dX12_fits_49 : decode cX12_fits 49 = .ok (.laload, 1) := by decide +kernel
theorem dX12_fits_50 : decode cX12_fits 50 = .ok (.lconst 0, 1) := by decide +kernel
theorem dX12_fits_51 : decode cX12_fits 51 = .ok (.lcmp, 1) := by decide +kernel
theorem dX12_fits_52 : decode cX12_fits 52 = .ok (.ifCond .le 7, 3) := by decide +kernel
theorem dX12_fits_55 : decode cX12_fits 55 = .ok (.iconst 1, 1) := by decide +kernel
theorem dX12_fits_56 : decode cX12_fits 56 = .ok (.goto 4, 3) := by decide +kernel
theorem dX12_fits_59 : decode cX12_fits 59 = .ok (.iconst 0, 1) := by decide +kernel
theorem dX12_fits_60 : decode cX12_fits 60 = .ok (.iadd, 1) := by decide +kernel
theorem dX12_fits_61 : decode cX12_fits 61 = .ok (.istore_n 3, 1) := by decide +kernel
theorem dX12_fits_62 : decode cX12_fits 62 = .ok (.aload_n 0, 1) := by decide +kernel
theorem dX12_fits_63 : decode cX12_fits 63 = .ok (.aload_n 0, 1) := by decide +kernel
theorem dX12_fits_64 : decode cX12_fits 64 = .ok (.getfield 45, 3) := by decide +kernel
theorem dX12_fits_67 : decode cX12_fits 67 = .ok (.iload 4, 2) := by decide +kernel
theorem dX12_fits_69 : decode cX12_fits 69 = .ok (.laload, 1) := by decide +kernel
theorem dX12_fits_70 : decode cX12_fits 70 = .ok (.lconst 0, 1) := by decide +kernel
theorem dX12_fits_71 : decode cX12_fits 71 = .ok (.lcmp, 1) := by decide +kernel
theorem dX12_fits_72 : decode cX12_fits 72 = .ok (.ifCond .le 8, 3) := by decide +kernel
theorem dX12_fits_75 : decode cX12_fits 75 = .ok (.iload 4, 2) := by decide +kernel
theorem dX12_fits_77 : decode cX12_fits 77 = .ok (.goto 7, 3) := by decide +kernel
theorem dX12_fits_80 : decode cX12_fits 80 = .ok (.aload_n 0, 1) := by decide +kernel
theorem dX12_fits_81 : decode cX12_fits 81 = .ok (.getfield 52, 3) := by decide +kernel
theorem dX12_fits_84 : decode cX12_fits 84 = .ok (.putfield 52, 3) := by decide +kernel
theorem dX12_fits_87 : decode cX12_fits 87 = .ok (.iinc 4 (-1), 3) := by decide +kernel
theorem dX12_fits_90 : decode cX12_fits 90 = .ok (.goto (-53), 3) := by decide +kernel
theorem dX12_fits_93 : decode cX12_fits 93 = .ok (.iload_n 3, 1) := by decide +kernel
theorem dX12_fits_94 : decode cX12_fits 94 = .ok (.ireturn, 1) := by decide +kernel
theorem dX12_chance_0 : decode cX12_chance 0 = .ok (.iload_n 1, 1) := by decide +kernel
theorem dX12_chance_1 : decode cX12_chance 1 = .ok (.invokestatic 63, 3) := by decide +kernel
theorem dX12_chance_4 : decode cX12_chance 4 = .ok (.ifCond .ne 5, 3) := by decide +kernel
theorem dX12_chance_7 : decode cX12_chance 7 = .ok (.iconst (-1), 1) := by decide +kernel
theorem dX12_chance_8 : decode cX12_chance 8 = .ok (.ireturn, 1) := by decide +kernel
theorem dX12_chance_9 : decode cX12_chance 9 = .ok (.aload_n 0, 1) := by decide +kernel
theorem dX12_chance_10 : decode cX12_chance 10 = .ok (.iload_n 1, 1) := by decide +kernel
theorem dX12_chance_11 : decode cX12_chance 11 = .ok (.invokevirtual 245, 3) := by decide +kernel
theorem dX12_chance_14 : decode cX12_chance 14 = .ok (.istore_n 2, 1) := by decide +kernel
theorem dX12_chance_15 : decode cX12_chance 15 = .ok (.iload_n 2, 1) := by decide +kernel
theorem dX12_chance_16 : decode cX12_chance 16 = .ok (.ifCond .eq 5, 3) := by decide +kernel
theorem dX12_chance_19 : decode cX12_chance 19 = .ok (.iload_n 2, 1) := by decide +kernel
theorem dX12_chance_20 : decode cX12_chance 20 = .ok (.ireturn, 1) := by decide +kernel
theorem dX12_chance_21 : decode cX12_chance 21 = .ok (.lconst 0, 1) := by decide +kernel
theorem dX12_chance_22 : decode cX12_chance 22 = .ok (.lstore_n 3, 1) := by decide +kernel
theorem dX12_chance_23 : decode cX12_chance 23 = .ok (.aload_n 0, 1) := by decide +kernel
theorem dX12_chance_24 : decode cX12_chance 24 = .ok (.getfield 139, 3) := by decide +kernel
theorem dX12_chance_27 : decode cX12_chance 27 = .ok (.i2l, 1) := by decide +kernel
theorem dX12_chance_28 : decode cX12_chance 28 = .ok (.lstore 5, 2) := by decide +kernel
theorem dX12_chance_30 : decode cX12_chance 30 = .ok (.iconst 0, 1) := by decide +kernel
theorem dX12_chance_31 : decode cX12_chance 31 = .ok (.istore 7, 2) := by decide +kernel
theorem dX12_chance_33 : decode cX12_chance 33 = .ok (.iload 7, 2) := by decide +kernel
theorem dX12_chance_35 : decode cX12_chance 35 = .ok (.aload_n 0, 1) := by decide +kernel
theorem dX12_chance_36 : decode cX12_chance 36 = .ok (.getfield 139, 3) := by decide +kernel
theorem dX12_chance_39 : decode cX12_chance 39 = .ok (.if_icmp .ge 19, 3) := by decide +kernel
theorem dX12_chance_42 : decode cX12_chance 42 = .ok (.lload_n 3, 1) := by decide +kernel
theorem dX12_chance_43 : decode cX12_chance 43 = .ok (.aload_n 0, 1) := by decide +kernel
theorem dX12_chance_44 : decode cX12_chance 44 = .ok (.getfield 45, 3) := by decide +kernel
theorem dX12_chance_47 : decode cX12_chance 47 = .ok (.iload 7, 2) := by decide +kernel
theorem dX12_chance_49 : decode cX12_chance 49 = .ok (.laload, 1) := by decide +kernel
theorem dX12_chance_50 : decode cX12_chance 50 = .ok (.ladd, 1) := by decide +kernel
theorem dX12_chance_51 : decode cX12_chance 51 = .ok (.lstore_n 3, 1) := by decide +kernel
theorem dX12_chance_52 : decode cX12_chance 52 = .ok (.iinc 7 1, 3) := by decide +kernel
theorem dX12_chance_55 : decode cX12_chance 55 = .ok (.goto (-22), 3) := by decide +kernel
theorem dX12_chance_58 : decode cX12_chance 58 = .ok (.bipush 40, 2) := by decide +kernel
theorem dX12_chance_60 : decode cX12_chance 60 = .ok (.iload_n 1, 1) := by decide +kernel
theorem dX12_chance_61 : decode cX12_chance 61 = .ok (.imul, 1) := by decide +kernel
theorem dX12_chance_62 : decode cX12_chance 62 = .ok (.istore 7, 2) := by decide +kernel
theorem dX12_chance_64 : decode cX12_chance 64 = .ok (.iload 7, 2) := by decide +kernel
theorem dX12_chance_66 : decode cX12_chance 66 = .ok (.bipush 40, 2) := by decide +kernel
theorem dX12_chance_68 : decode cX12_chance 68 = .ok (.iload_n 1, 1) := by decide +kernel
theorem dX12_chance_69 : decode cX12_chance 69 = .ok (.imul, 1) := by decide +kernel
theorem dX12_chance_70 : decode cX12_chance 70 = .ok (.aload_n 0, 1) := by decide +kernel
theorem dX12_chance_71 : decode cX12_chance 71 = .ok (.getfield 20, 3) := by decide +kernel
theorem dX12_chance_74 : decode cX12_chance 74 = .ok (.iload_n 1, 1) := by decide +kernel
theorem dX12_chance_75 : decode cX12_chance 75 = .ok (.iaload, 1) := by decide +kernel
theorem dX12_chance_76 : decode cX12_chance 76 = .ok (.iadd, 1) := by decide +kernel
theorem dX12_chance_77 : decode cX12_chance 77 = .ok (.if_icmp .ge 26, 3) := by decide +kernel
theorem dX12_chance_80 : decode cX12_chance 80 = .ok (.lload 5, 2) := by decide +kernel
theorem dX12_chance_82 : decode cX12_chance 82 = .ok (.aload_n 0, 1) := by decide +kernel
theorem dX12_chance_83 : decode cX12_chance 83 = .ok (.aload_n 0, 1) := by decide +kernel
theorem dX12_chance_84 : decode cX12_chance 84 = .ok (.getfield 23, 3) := by decide +kernel
theorem dX12_chance_87 : decode cX12_chance 87 = .ok (.iload 7, 2) := by decide +kernel
theorem dX12_chance_89 : decode cX12_chance 89 = .ok (.iaload, 1) := by decide +kernel
theorem dX12_chance_90 : decode cX12_chance 90 = .ok (.invokevirtual 177, 3) := by decide +kernel
theorem dX12_chance_93 : decode cX12_chance 93 = .ok (.i2l, 1) := by decide +kernel
theorem dX12_chance_94 : decode cX12_chance 94 = .ok (.lmul, 1) := by decide +kernel
theorem dX12_chance_95 : decode cX12_chance 95 = .ok (.lstore 5, 2) := by decide +kernel
theorem dX12_chance_97 : decode cX12_chance 97 = .ok (.iinc 7 2, 3) := by decide +kernel
theorem dX12_chance_100 : decode cX12_chance 100 = .ok (.goto (-36), 3) := by decide +kernel
theorem dX12_chance_103 : decode cX12_chance 103 = .ok (.aload_n 0, 1) := by decide +kernel
theorem dX12_chance_104 : decode cX12_chance 104 = .ok (.lload_n 3, 1) := by decide +kernel
theorem dX12_chance_105 : decode cX12_chance 105 = .ok (.lload 5, 2) := by decide +kernel
theorem dX12_chance_107 : decode cX12_chance 107 = .ok (.invokevirtual 223, 3) := by decide +kernel
theorem dX12_chance_110 : decode cX12_chance 110 = .ok (.ireturn, 1) := by decide +kernel
theorem dX12_read_0 : decode cX12_read 0 = .ok (.iload_n 1, 1) := by decide +kernel
theorem dX12_read_1 : decode cX12_read 1 = .ok (.invokestatic 63, 3) := by decide +kernel
theorem dX12_read_4 : decode cX12_read 4 = .ok (.ifCond .ne 5, 3) := by decide +kernel
theorem dX12_read_7 : decode cX12_read 7 = .ok (.iconst (-1), 1) := by decide +kernel
theorem dX12_read_8 : decode cX12_read 8 = .ok (.ireturn, 1) := by decide +kernel
theorem dX12_read_9 : decode cX12_read 9 = .ok (.aload_n 0, 1) := by decide +kernel
theorem dX12_read_10 : decode cX12_read 10 = .ok (.iload_n 1, 1) := by decide +kernel
theorem dX12_read_11 : decode cX12_read 11 = .ok (.invokevirtual 245, 3) := by decide +kernel
theorem dX12_read_14 : decode cX12_read 14 = .ok (.istore_n 2, 1) := by decide +kernel
theorem dX12_read_15 : decode cX12_read 15 = .ok (.iload_n 2, 1) := by decide +kernel
theorem dX12_read_16 : decode cX12_read 16 = .ok (.ifCond .eq 5, 3) := by decide +kernel
theorem dX12_read_19 : decode cX12_read 19 = .ok (.iload_n 2, 1) := by decide +kernel
theorem dX12_read_20 : decode cX12_read 20 = .ok (.ireturn, 1) := by decide +kernel
theorem dX12_read_21 : decode cX12_read 21 = .ok (.iconst 0, 1) := by decide +kernel
theorem dX12_read_22 : decode cX12_read 22 = .ok (.istore_n 3, 1) := by decide +kernel
theorem dX12_read_23 : decode cX12_read 23 = .ok (.iconst 0, 1) := by decide +kernel
theorem dX12_read_24 : decode cX12_read 24 = .ok (.istore 4, 2) := by decide +kernel
theorem dX12_read_26 : decode cX12_read 26 = .ok (.iload 4, 2) := by decide +kernel
theorem dX12_read_28 : decode cX12_read 28 = .ok (.aload_n 0, 1) := by decide +kernel
theorem dX12_read_29 : decode cX12_read 29 = .ok (.getfield 139, 3) := by decide +kernel
theorem dX12_read_32 : decode cX12_read 32 = .ok (.if_icmp .ge 33, 3) := by decide +kernel
theorem dX12_read_35 : decode cX12_read 35 = .ok (.aload_n 0, 1) := by decide +kernel
theorem dX12_read_36 : decode cX12_read 36 = .ok (.getfield 45, 3) := by decide +kernel
theorem dX12_read_39 : decode cX12_read 39 = .ok (.iload 4, 2) := by decide +kernel
theorem dX12_read_41 : decode cX12_read 41 = .ok (.laload, 1) := by decide +kernel
theorem dX12_read_42 : decode cX12_read 42 = .ok (.aload_n 0, 1) := by decide +kernel
theorem dX12_read_43 : decode cX12_read 43 = .ok (.getfield 45, 3) := by decide +kernel
theorem dX12_read_46 : decode cX12_read 46 = .ok (.iload_n 3, 1) := by decide +kernel
theorem dX12_read_47 : decode cX12_read 47 = .ok (.laload, 1) := by decide +kernel
theorem dX12_read_48 : decode cX12_read 48 = .ok (.lcmp, 1) := by decide +kernel
theorem dX12_read_49 : decode cX12_read 49 = .ok (.ifCond .le 8, 3) := by decide +kernel
theorem dX12_read_52 : decode cX12_read 52 = .ok (.iload 4, 2) := by decide +kernel
theorem dX12_read_54 : decode cX12_read 54 = .ok (.goto 4, 3) := by decide +kernel
theorem dX12_read_57 : decode cX12_read 57 = .ok (.iload_n 3, 1) := by decide +kernel
theorem dX12_read_58 : decode cX12_read 58 = .ok (.istore_n 3, 1) := by decide +kernel
theorem dX12_read_59 : decode cX12_read 59 = .ok (.iinc 4 1, 3) := by decide +kernel
theorem dX12_read_62 : decode cX12_read 62 = .ok (.goto (-36), 3) := by decide +kernel
theorem dX12_read_65 : decode cX12_read 65 = .ok (.aload_n 0, 1) := by decide +kernel
theorem dX12_read_66 : decode cX12_read 66 = .ok (.getfield 45, 3) := by decide +kernel
theorem dX12_read_69 : decode cX12_read 69 = .ok (.iload_n 3, 1) := by decide +kernel
theorem dX12_read_70 : decode cX12_read 70 = .ok (.laload, 1) := by decide +kernel
theorem dX12_read_71 : decode cX12_read 71 = .ok (.lconst 0, 1) := by decide +kernel
theorem dX12_read_72 : decode cX12_read 72 = .ok (.lcmp, 1) := by decide +kernel
theorem dX12_read_73 : decode cX12_read 73 = .ok (.ifCond .ne 11, 3) := by decide +kernel
theorem dX12_read_76 : decode cX12_read 76 = .ok (.aload_n 0, 1) := by decide +kernel
theorem dX12_read_77 : decode cX12_read 77 = .ok (.iconst 4, 1) := by decide +kernel
theorem dX12_read_78 : decode cX12_read 78 = .ok (.invokevirtual 67, 3) := by decide +kernel
theorem dX12_read_81 : decode cX12_read 81 = .ok (.goto 4, 3) := by decide +kernel
theorem dX12_read_84 : decode cX12_read 84 = .ok (.iload_n 3, 1) := by decide +kernel
theorem dX12_read_85 : decode cX12_read 85 = .ok (.ireturn, 1) := by decide +kernel
theorem dX12_who_0 : decode cX12_who 0 = .ok (.aload_n 0, 1) := by decide +kernel
theorem dX12_who_1 : decode cX12_who 1 = .ok (.iload_n 1, 1) := by decide +kernel
theorem dX12_who_2 : decode cX12_who 2 = .ok (.invokevirtual 205, 3) := by decide +kernel
theorem dX12_who_5 : decode cX12_who 5 = .ok (.ifCond .eq 11, 3) := by decide +kernel
theorem dX12_who_8 : decode cX12_who 8 = .ok (.aload_n 0, 1) := by decide +kernel
theorem dX12_who_9 : decode cX12_who 9 = .ok (.iload_n 2, 1) := by decide +kernel
theorem dX12_who_10 : decode cX12_who 10 = .ok (.invokevirtual 205, 3) := by decide +kernel
theorem dX12_who_13 : decode cX12_who 13 = .ok (.ifCond .ne 5, 3) := by decide +kernel
theorem dX12_who_16 : decode cX12_who 16 = .ok (.iconst (-1), 1) := by decide +kernel
theorem dX12_who_17 : decode cX12_who 17 = .ok (.ireturn, 1) := by decide +kernel
theorem dX12_who_18 : decode cX12_who 18 = .ok (.iconst 0, 1) := by decide +kernel
theorem dX12_who_19 : decode cX12_who 19 = .ok (.istore_n 3, 1) := by decide +kernel
theorem dX12_who_20 : decode cX12_who 20 = .ok (.aload_n 0, 1) := by decide +kernel
theorem dX12_who_21 : decode cX12_who 21 = .ok (.bipush (-9), 2) := by decide +kernel
theorem dX12_who_23 : decode cX12_who 23 = .ok (.putfield 52, 3) := by decide +kernel
theorem dX12_who_26 : decode cX12_who 26 = .ok (.iconst 0, 1) := by decide +kernel
theorem dX12_who_27 : decode cX12_who 27 = .ok (.istore 4, 2) := by decide +kernel
theorem dX12_who_29 : decode cX12_who 29 = .ok (.iload 4, 2) := by decide +kernel
theorem dX12_who_31 : decode cX12_who 31 = .ok (.aload_n 0, 1) := by decide +kernel
theorem dX12_who_32 : decode cX12_who 32 = .ok (.getfield 142, 3) := by decide +kernel
theorem dX12_who_35 : decode cX12_who 35 = .ok (.if_icmp .ge 105, 3) := by decide +kernel
theorem dX12_who_38 : decode cX12_who 38 = .ok (.aload_n 0, 1) := by decide +kernel
theorem dX12_who_39 : decode cX12_who 39 = .ok (.iload 4, 2) := by decide +kernel
theorem dX12_who_41 : decode cX12_who 41 = .ok (.iload_n 1, 1) := by decide +kernel
theorem dX12_who_42 : decode cX12_who 42 = .ok (.iload_n 2, 1) := by decide +kernel
theorem dX12_who_43 : decode cX12_who 43 = .ok (.invokevirtual 170, 3) := by decide +kernel
theorem dX12_who_46 : decode cX12_who 46 = .ok (.istore 5, 2) := by decide +kernel
theorem dX12_who_48 : decode cX12_who 48 = .ok (.iload_n 3, 1) := by decide +kernel
theorem dX12_who_49 : decode cX12_who 49 = .ok (.iload 5, 2) := by decide +kernel
theorem dX12_who_51 : decode cX12_who 51 = .ok (.ifCond .le 10, 3) := by decide +kernel
theorem dX12_who_54 : decode cX12_who 54 = .ok (.iconst 1, 1) := by decide +kernel
theorem dX12_who_55 : decode cX12_who 55 = .ok (.iload 4, 2) := by decide +kernel
theorem dX12_who_57 : decode cX12_who 57 = .ok (.ishl, 1) := by decide +kernel
theorem dX12_who_58 : decode cX12_who 58 = .ok (.goto 4, 3) := by decide +kernel
theorem dX12_who_61 : decode cX12_who 61 = .ok (.iconst 0, 1) := by decide +kernel
theorem dX12_who_62 : decode cX12_who 62 = .ok (.ior, 1) := by decide +kernel
theorem dX12_who_63 : decode cX12_who 63 = .ok (.istore_n 3, 1) := by decide +kernel
theorem dX12_who_64 : decode cX12_who 64 = .ok (.iload 5, 2) := by decide +kernel
theorem dX12_who_66 : decode cX12_who 66 = .ok (.ifCond .le 47, 3) := by decide +kernel
theorem dX12_who_69 : decode cX12_who 69 = .ok (.aload_n 0, 1) := by decide +kernel
theorem dX12_who_70 : decode cX12_who 70 = .ok (.getfield 52, 3) := by decide +kernel
theorem dX12_who_73 : decode cX12_who 73 = .ok (.bipush (-9), 2) := by decide +kernel
theorem dX12_who_75 : decode cX12_who 75 = .ok (.if_icmp .eq 34, 3) := by decide +kernel
theorem dX12_who_78 : decode cX12_who 78 = .ok (.iload 5, 2) := by decide +kernel
theorem dX12_who_80 : decode cX12_who 80 = .ok (.aload_n 0, 1) := by decide +kernel
theorem dX12_who_81 : decode cX12_who 81 = .ok (.aload_n 0, 1) := by decide +kernel
theorem dX12_who_82 : decode cX12_who 82 = .ok (.getfield 52, 3) := by decide +kernel
theorem dX12_who_85 : decode cX12_who 85 = .ok (.invokevirtual 177, 3) := by decide +kernel
theorem dX12_who_88 : decode cX12_who 88 = .ok (.imul, 1) := by decide +kernel
theorem dX12_who_89 : decode cX12_who 89 = .ok (.aload_n 0, 1) := by decide +kernel
theorem dX12_who_90 : decode cX12_who 90 = .ok (.aload_n 0, 1) := by decide +kernel
theorem dX12_who_91 : decode cX12_who 91 = .ok (.getfield 52, 3) := by decide +kernel
theorem dX12_who_94 : decode cX12_who 94 = .ok (.iload_n 1, 1) := by decide +kernel
theorem dX12_who_95 : decode cX12_who 95 = .ok (.iload_n 2, 1) := by decide +kernel
theorem dX12_who_96 : decode cX12_who 96 = .ok (.invokevirtual 170, 3) := by decide +kernel
theorem dX12_who_99 : decode cX12_who 99 = .ok (.aload_n 0, 1) := by decide +kernel
theorem dX12_who_100 : decode cX12_who 100 = .ok (.iload 4, 2) := by decide +kernel
theorem dX12_who_102 : decode cX12_who 102 = .ok (.invokevirtual 177, 3) := by decide +kernel
theorem dX12_who_105 : decode cX12_who 105 = .ok (.imul, 1) := by decide +kernel
theorem dX12_who_106 : decode cX12_who 106 = .ok (.if_icmp .le 7, 3) := by decide +kernel
theorem dX12_who_109 : decode cX12_who 109 = .ok (.iconst 1, 1) := by decide +kernel
theorem dX12_who_110 : decode cX12_who 110 = .ok (.goto 4, 3) := by decide +kernel
theorem dX12_who_113 : decode cX12_who 113 = .ok (.iconst 0, 1) := by decide +kernel
theorem dX12_who_114 : decode cX12_who 114 = .ok (.istore 6, 2) := by decide +kernel
theorem dX12_who_116 : decode cX12_who 116 = .ok (.aload_n 0, 1) := by decide +kernel
theorem dX12_who_117 : decode cX12_who 117 = .ok (.iload 6, 2) := by decide +kernel
theorem dX12_who_119 : decode cX12_who 119 = .ok (.ifCond .eq 8, 3) := by decide +kernel
theorem dX12_who_122 : decode cX12_who 122 = .ok (.iload 4, 2) := by decide +kernel
theorem dX12_who_124 : decode cX12_who 124 = .ok (.goto 7, 3) := by decide +kernel
theorem dX12_who_127 : decode cX12_who 127 = .ok (.aload_n 0, 1) := by decide +kernel
theorem dX12_who_128 : decode cX12_who 128 = .ok (.getfield 52, 3) := by decide +kernel
theorem dX12_who_131 : decode cX12_who 131 = .ok (.putfield 52, 3) := by decide +kernel
theorem dX12_who_134 : decode cX12_who 134 = .ok (.iinc 4 1, 3) := by decide +kernel
theorem dX12_who_137 : decode cX12_who 137 = .ok (.goto (-108), 3) := by decide +kernel
theorem dX12_who_140 : decode cX12_who 140 = .ok (.iload_n 3, 1) := by decide +kernel
theorem dX12_who_141 : decode cX12_who 141 = .ok (.ireturn, 1) := by decide +kernel
theorem dX12_ways_0 : decode cX12_ways 0 = .ok (.aload_n 0, 1) := by decide +kernel
theorem dX12_ways_1 : decode cX12_ways 1 = .ok (.iload_n 1, 1) := by decide +kernel
theorem dX12_ways_2 : decode cX12_ways 2 = .ok (.invokevirtual 183, 3) := by decide +kernel
theorem dX12_ways_5 : decode cX12_ways 5 = .ok (.ifCond .eq 29, 3) := by decide +kernel
theorem dX12_ways_8 : decode cX12_ways 8 = .ok (.aload_n 0, 1) := by decide +kernel
theorem dX12_ways_9 : decode cX12_ways 9 = .ok (.iload_n 2, 1) := by decide +kernel
theorem dX12_ways_10 : decode cX12_ways 10 = .ok (.invokevirtual 205, 3) := by decide +kernel
theorem dX12_ways_13 : decode cX12_ways 13 = .ok (.ifCond .eq 21, 3) := by decide +kernel
theorem dX12_ways_16 : decode cX12_ways 16 = .ok (.aload_n 0, 1) := by decide +kernel
theorem dX12_ways_17 : decode cX12_ways 17 = .ok (.iload_n 3, 1) := by decide +kernel
theorem dX12_ways_18 : decode cX12_ways 18 = .ok (.invokevirtual 205, 3) := by decide +kernel
theorem dX12_ways_21 : decode cX12_ways 21 = .ok (.ifCond .eq 13, 3) := by decide +kernel
theorem dX12_ways_24 : decode cX12_ways 24 = .ok (.aload_n 0, 1) := by decide +kernel
theorem dX12_ways_25 : decode cX12_ways 25 = .ok (.iload_n 1, 1) := by decide +kernel
theorem dX12_ways_26 : decode cX12_ways 26 = .ok (.iload_n 2, 1) := by decide +kernel
theorem dX12_ways_27 : decode cX12_ways 27 = .ok (.iload_n 3, 1) := by decide +kernel
theorem dX12_ways_28 : decode cX12_ways 28 = .ok (.invokevirtual 170, 3) := by decide +kernel
theorem dX12_ways_31 : decode cX12_ways 31 = .ok (.goto 4, 3) := by decide +kernel
theorem dX12_ways_34 : decode cX12_ways 34 = .ok (.iconst (-1), 1) := by decide +kernel
theorem dX12_ways_35 : decode cX12_ways 35 = .ok (.ireturn, 1) := by decide +kernel
theorem dX12_far_0 : decode cX12_far 0 = .ok (.iconst 0, 1) := by decide +kernel
theorem dX12_far_1 : decode cX12_far 1 = .ok (.istore_n 3, 1) := by decide +kernel
theorem dX12_far_2 : decode cX12_far 2 = .ok (.iconst 0, 1) := by decide +kernel
theorem dX12_far_3 : decode cX12_far 3 = .ok (.istore 4, 2) := by decide +kernel
theorem dX12_far_5 : decode cX12_far 5 = .ok (.iload 4, 2) := by decide +kernel
theorem dX12_far_7 : decode cX12_far 7 = .ok (.aload_n 0, 1) := by decide +kernel
theorem dX12_far_8 : decode cX12_far 8 = .ok (.getfield 130, 3) := by decide +kernel
theorem dX12_far_11 : decode cX12_far 11 = .ok (.if_icmp .ge 46, 3) := by decide +kernel
theorem dX12_far_14 : decode cX12_far 14 = .ok (.aload_n 0, 1) := by decide +kernel
theorem dX12_far_15 : decode cX12_far 15 = .ok (.iload 4, 2) := by decide +kernel
theorem dX12_far_17 : decode cX12_far 17 = .ok (.iload_n 1, 1) := by decide +kernel
theorem dX12_far_18 : decode cX12_far 18 = .ok (.iload_n 2, 1) := by decide +kernel
theorem dX12_far_19 : decode cX12_far 19 = .ok (.invokevirtual 157, 3) := by decide +kernel
theorem dX12_far_22 : decode cX12_far 22 = .ok (.istore 5, 2) := by decide +kernel
theorem dX12_far_24 : decode cX12_far 24 = .ok (.iload_n 3, 1) := by decide +kernel
theorem dX12_far_25 : decode cX12_far 25 = .ok (.iload 5, 2) := by decide +kernel
theorem dX12_far_27 : decode cX12_far 27 = .ok (.aload_n 0, 1) := by decide +kernel
theorem dX12_far_28 : decode cX12_far 28 = .ok (.getfield 133, 3) := by decide +kernel
theorem dX12_far_31 : decode cX12_far 31 = .ok (.iload 5, 2) := by decide +kernel
theorem dX12_far_33 : decode cX12_far 33 = .ok (.isub, 1) := by decide +kernel
theorem dX12_far_34 : decode cX12_far 34 = .ok (.if_icmp .ge 8, 3) := by decide +kernel
theorem dX12_far_37 : decode cX12_far 37 = .ok (.iload 5, 2) := by decide +kernel
theorem dX12_far_39 : decode cX12_far 39 = .ok (.goto 10, 3) := by decide +kernel
theorem dX12_far_42 : decode cX12_far 42 = .ok (.aload_n 0, 1) := by decide +kernel
theorem dX12_far_43 : decode cX12_far 43 = .ok (.getfield 133, 3) := by decide +kernel
theorem dX12_far_46 : decode cX12_far 46 = .ok (.iload 5, 2) := by decide +kernel
theorem dX12_far_48 : decode cX12_far 48 = .ok (.isub, 1) := by decide +kernel
theorem dX12_far_49 : decode cX12_far 49 = .ok (.iadd, 1) := by decide +kernel
theorem dX12_far_50 : decode cX12_far 50 = .ok (.istore_n 3, 1) := by decide +kernel
theorem dX12_far_51 : decode cX12_far 51 = .ok (.iinc 4 1, 3) := by decide +kernel
theorem dX12_far_54 : decode cX12_far 54 = .ok (.goto (-49), 3) := by decide +kernel
theorem dX12_far_57 : decode cX12_far 57 = .ok (.iload_n 3, 1) := by decide +kernel
theorem dX12_far_58 : decode cX12_far 58 = .ok (.ireturn, 1) := by decide +kernel
theorem dX12_apart_0 : decode cX12_apart 0 = .ok (.aload_n 0, 1) := by decide +kernel
theorem dX12_apart_1 : decode cX12_apart 1 = .ok (.iload_n 1, 1) := by decide +kernel
theorem dX12_apart_2 : decode cX12_apart 2 = .ok (.invokevirtual 205, 3) := by decide +kernel
theorem dX12_apart_5 : decode cX12_apart 5 = .ok (.ifCond .eq 11, 3) := by decide +kernel
theorem dX12_apart_8 : decode cX12_apart 8 = .ok (.aload_n 0, 1) := by decide +kernel
theorem dX12_apart_9 : decode cX12_apart 9 = .ok (.iload_n 2, 1) := by decide +kernel
theorem dX12_apart_10 : decode cX12_apart 10 = .ok (.invokevirtual 205, 3) := by decide +kernel
theorem dX12_apart_13 : decode cX12_apart 13 = .ok (.ifCond .ne 5, 3) := by decide +kernel
theorem dX12_apart_16 : decode cX12_apart 16 = .ok (.iconst (-1), 1) := by decide +kernel
theorem dX12_apart_17 : decode cX12_apart 17 = .ok (.ireturn, 1) := by decide +kernel
theorem dX12_apart_18 : decode cX12_apart 18 = .ok (.aload_n 0, 1) := by decide +kernel
theorem dX12_apart_19 : decode cX12_apart 19 = .ok (.iconst 0, 1) := by decide +kernel
theorem dX12_apart_20 : decode cX12_apart 20 = .ok (.putfield 52, 3) := by decide +kernel
theorem dX12_apart_23 : decode cX12_apart 23 = .ok (.iconst 0, 1) := by decide +kernel
theorem dX12_apart_24 : decode cX12_apart 24 = .ok (.istore_n 3, 1) := by decide +kernel
theorem dX12_apart_25 : decode cX12_apart 25 = .ok (.iload_n 3, 1) := by decide +kernel
theorem dX12_apart_26 : decode cX12_apart 26 = .ok (.aload_n 0, 1) := by decide +kernel
theorem dX12_apart_27 : decode cX12_apart 27 = .ok (.getfield 130, 3) := by decide +kernel
theorem dX12_apart_30 : decode cX12_apart 30 = .ok (.if_icmp .ge 33, 3) := by decide +kernel
theorem dX12_apart_33 : decode cX12_apart 33 = .ok (.aload_n 0, 1) := by decide +kernel
theorem dX12_apart_34 : decode cX12_apart 34 = .ok (.dup, 1) := by decide +kernel
theorem dX12_apart_35 : decode cX12_apart 35 = .ok (.getfield 52, 3) := by decide +kernel
theorem dX12_apart_38 : decode cX12_apart 38 = .ok (.aload_n 0, 1) := by decide +kernel
theorem dX12_apart_39 : decode cX12_apart 39 = .ok (.iload_n 3, 1) := by decide +kernel
theorem dX12_apart_40 : decode cX12_apart 40 = .ok (.iload_n 1, 1) := by decide +kernel
theorem dX12_apart_41 : decode cX12_apart 41 = .ok (.iload_n 2, 1) := by decide +kernel
theorem dX12_apart_42 : decode cX12_apart 42 = .ok (.invokevirtual 157, 3) := by decide +kernel
theorem dX12_apart_45 : decode cX12_apart 45 = .ok (.ifCond .ne 7, 3) := by decide +kernel
theorem dX12_apart_48 : decode cX12_apart 48 = .ok (.iconst 0, 1) := by decide +kernel
theorem dX12_apart_49 : decode cX12_apart 49 = .ok (.goto 4, 3) := by decide +kernel
theorem dX12_apart_52 : decode cX12_apart 52 = .ok (.iconst 1, 1) := by decide +kernel
theorem dX12_apart_53 : decode cX12_apart 53 = .ok (.iadd, 1) := by decide +kernel
theorem dX12_apart_54 : decode cX12_apart 54 = .ok (.putfield 52, 3) := by decide +kernel
theorem dX12_apart_57 : decode cX12_apart 57 = .ok (.iinc 3 1, 3) := by decide +kernel
theorem dX12_apart_60 : decode cX12_apart 60 = .ok (.goto (-35), 3) := by decide +kernel
theorem dX12_apart_63 : decode cX12_apart 63 = .ok (.aload_n 0, 1) := by decide +kernel
theorem dX12_apart_64 : decode cX12_apart 64 = .ok (.iload_n 1, 1) := by decide +kernel
theorem dX12_apart_65 : decode cX12_apart 65 = .ok (.iload_n 2, 1) := by decide +kernel
theorem dX12_apart_66 : decode cX12_apart 66 = .ok (.invokevirtual 248, 3) := by decide +kernel
theorem dX12_apart_69 : decode cX12_apart 69 = .ok (.ireturn, 1) := by decide +kernel
theorem dX12_near_0 : decode cX12_near 0 = .ok (.aload_n 0, 1) := by decide +kernel
theorem dX12_near_1 : decode cX12_near 1 = .ok (.iload_n 1, 1) := by decide +kernel
theorem dX12_near_2 : decode cX12_near 2 = .ok (.invokevirtual 205, 3) := by decide +kernel
theorem dX12_near_5 : decode cX12_near 5 = .ok (.ifCond .eq 15, 3) := by decide +kernel
theorem dX12_near_8 : decode cX12_near 8 = .ok (.iload_n 2, 1) := by decide +kernel
theorem dX12_near_9 : decode cX12_near 9 = .ok (.i2l, 1) := by decide +kernel
theorem dX12_near_10 : decode cX12_near 10 = .ok (.lconst 0, 1) := by decide +kernel
theorem dX12_near_11 : decode cX12_near 11 = .ok (.ldc2_w 251, 3) := by decide +kernel
theorem dX12_near_14 : decode cX12_near 14 = .ok (.invokestatic 57, 3) := by decide +kernel
theorem dX12_near_17 : decode cX12_near 17 = .ok (.ifCond .ne 5, 3) := by decide +kernel
theorem dX12_near_20 : decode cX12_near 20 = .ok (.iconst (-1), 1) := by decide +kernel
theorem dX12_near_21 : decode cX12_near 21 = .ok (.ireturn, 1) := by decide +kernel
theorem dX12_near_22 : decode cX12_near 22 = .ok (.iconst 0, 1) := by decide +kernel
theorem dX12_near_23 : decode cX12_near 23 = .ok (.istore_n 3, 1) := by decide +kernel
theorem dX12_near_24 : decode cX12_near 24 = .ok (.iconst 0, 1) := by decide +kernel
theorem dX12_near_25 : decode cX12_near 25 = .ok (.istore 4, 2) := by decide +kernel
theorem dX12_near_27 : decode cX12_near 27 = .ok (.iload 4, 2) := by decide +kernel
theorem dX12_near_29 : decode cX12_near 29 = .ok (.aload_n 0, 1) := by decide +kernel
theorem dX12_near_30 : decode cX12_near 30 = .ok (.getfield 139, 3) := by decide +kernel
theorem dX12_near_33 : decode cX12_near 33 = .ok (.if_icmp .ge 28, 3) := by decide +kernel
theorem dX12_near_36 : decode cX12_near 36 = .ok (.iload_n 3, 1) := by decide +kernel
theorem dX12_near_37 : decode cX12_near 37 = .ok (.aload_n 0, 1) := by decide +kernel
theorem dX12_near_38 : decode cX12_near 38 = .ok (.iload_n 1, 1) := by decide +kernel
theorem dX12_near_39 : decode cX12_near 39 = .ok (.iload 4, 2) := by decide +kernel
theorem dX12_near_41 : decode cX12_near 41 = .ok (.invokevirtual 248, 3) := by decide +kernel
theorem dX12_near_44 : decode cX12_near 44 = .ok (.iload_n 2, 1) := by decide +kernel
theorem dX12_near_45 : decode cX12_near 45 = .ok (.if_icmp .gt 7, 3) := by decide +kernel
theorem dX12_near_48 : decode cX12_near 48 = .ok (.iconst 1, 1) := by decide +kernel
theorem dX12_near_49 : decode cX12_near 49 = .ok (.goto 4, 3) := by decide +kernel
theorem dX12_near_52 : decode cX12_near 52 = .ok (.iconst 0, 1) := by decide +kernel
theorem dX12_near_53 : decode cX12_near 53 = .ok (.iadd, 1) := by decide +kernel
theorem dX12_near_54 : decode cX12_near 54 = .ok (.istore_n 3, 1) := by decide +kernel
theorem dX12_near_55 : decode cX12_near 55 = .ok (.iinc 4 1, 3) := by decide +kernel
theorem dX12_near_58 : decode cX12_near 58 = .ok (.goto (-31), 3) := by decide +kernel
theorem dX12_near_61 : decode cX12_near 61 = .ok (.iload_n 3, 1) := by decide +kernel
theorem dX12_near_62 : decode cX12_near 62 = .ok (.ireturn, 1) := by decide +kernel
theorem dX12_broughtTo_0 : decode cX12_broughtTo 0 = .ok (.iload_n 3, 1) := by decide +kernel
theorem dX12_broughtTo_1 : decode cX12_broughtTo 1 = .ok (.istore 4, 2) := by decide +kernel
theorem dX12_broughtTo_3 : decode cX12_broughtTo 3 = .ok (.iconst 0, 1) := by decide +kernel
theorem dX12_broughtTo_4 : decode cX12_broughtTo 4 = .ok (.istore 5, 2) := by decide +kernel
theorem dX12_broughtTo_6 : decode cX12_broughtTo 6 = .ok (.iload 4, 2) := by decide +kernel
theorem dX12_broughtTo_8 : decode cX12_broughtTo 8 = .ok (.aload_n 0, 1) := by decide +kernel
theorem dX12_broughtTo_9 : decode cX12_broughtTo 9 = .ok (.iload_n 1, 1) := by decide +kernel
theorem dX12_broughtTo_10 : decode cX12_broughtTo 10 = .ok (.iload_n 2, 1) := by decide +kernel
theorem dX12_broughtTo_11 : decode cX12_broughtTo 11 = .ok (.iload 5, 2) := by decide +kernel
theorem dX12_broughtTo_13 : decode cX12_broughtTo 13 = .ok (.invokevirtual 170, 3) := by decide +kernel
theorem dX12_broughtTo_16 : decode cX12_broughtTo 16 = .ok (.if_icmp .lt 22, 3) := by decide +kernel
theorem dX12_broughtTo_19 : decode cX12_broughtTo 19 = .ok (.iload 4, 2) := by decide +kernel
theorem dX12_broughtTo_21 : decode cX12_broughtTo 21 = .ok (.aload_n 0, 1) := by decide +kernel
theorem dX12_broughtTo_22 : decode cX12_broughtTo 22 = .ok (.iload_n 1, 1) := by decide +kernel
theorem dX12_broughtTo_23 : decode cX12_broughtTo 23 = .ok (.iload_n 2, 1) := by decide +kernel
theorem dX12_broughtTo_24 : decode cX12_broughtTo 24 = .ok (.iload 5, 2) := by decide +kernel
theorem dX12_broughtTo_26 : decode cX12_broughtTo 26 = .ok (.invokevirtual 170, 3) := by decide +kernel
theorem dX12_broughtTo_29 : decode cX12_broughtTo 29 = .ok (.isub, 1) := by decide +kernel
theorem dX12_broughtTo_30 : decode cX12_broughtTo 30 = .ok (.istore 4, 2) := by decide +kernel
theorem dX12_broughtTo_32 : decode cX12_broughtTo 32 = .ok (.iinc 5 1, 3) := by decide +kernel
theorem dX12_broughtTo_35 : decode cX12_broughtTo 35 = .ok (.goto (-29), 3) := by decide +kernel
theorem dX12_broughtTo_38 : decode cX12_broughtTo 38 = .ok (.iload 5, 2) := by decide +kernel
theorem dX12_broughtTo_40 : decode cX12_broughtTo 40 = .ok (.ireturn, 1) := by decide +kernel
theorem dX12_lots_0 : decode cX12_lots 0 = .ok (.iload_n 1, 1) := by decide +kernel
theorem dX12_lots_1 : decode cX12_lots 1 = .ok (.i2l, 1) := by decide +kernel
theorem dX12_lots_2 : decode cX12_lots 2 = .ok (.lconst 1, 1) := by decide +kernel
theorem dX12_lots_3 : decode cX12_lots 3 = .ok (.ldc2_w 253, 3) := by decide +kernel
theorem dX12_lots_6 : decode cX12_lots 6 = .ok (.invokestatic 57, 3) := by decide +kernel
theorem dX12_lots_9 : decode cX12_lots 9 = .ok (.ifCond .eq 15, 3) := by decide +kernel
theorem dX12_lots_12 : decode cX12_lots 12 = .ok (.iload_n 2, 1) := by decide +kernel
theorem dX12_lots_13 : decode cX12_lots 13 = .ok (.i2l, 1) := by decide +kernel
theorem dX12_lots_14 : decode cX12_lots 14 = .ok (.lconst 1, 1) := by decide +kernel
theorem dX12_lots_15 : decode cX12_lots 15 = .ok (.ldc2_w 255, 3) := by decide +kernel
theorem dX12_lots_18 : decode cX12_lots 18 = .ok (.invokestatic 57, 3) := by decide +kernel
theorem dX12_lots_21 : decode cX12_lots 21 = .ok (.ifCond .ne 5, 3) := by decide +kernel
theorem dX12_lots_24 : decode cX12_lots 24 = .ok (.iconst (-1), 1) := by decide +kernel
theorem dX12_lots_25 : decode cX12_lots 25 = .ok (.ireturn, 1) := by decide +kernel
theorem dX12_lots_26 : decode cX12_lots 26 = .ok (.aload_n 0, 1) := by decide +kernel
theorem dX12_lots_27 : decode cX12_lots 27 = .ok (.getfield 142, 3) := by decide +kernel
theorem dX12_lots_30 : decode cX12_lots 30 = .ok (.ifCond .ne 6, 3) := by decide +kernel
theorem dX12_lots_33 : decode cX12_lots 33 = .ok (.bipush (-4), 2) := by decide +kernel
theorem dX12_lots_35 : decode cX12_lots 35 = .ok (.ireturn, 1) := by decide +kernel
theorem dX12_lots_36 : decode cX12_lots 36 = .ok (.iload_n 2, 1) := by decide +kernel
theorem dX12_lots_37 : decode cX12_lots 37 = .ok (.i2l, 1) := by decide +kernel
theorem dX12_lots_38 : decode cX12_lots 38 = .ok (.ldc2_w 257, 3) := by decide +kernel
theorem dX12_lots_41 : decode cX12_lots 41 = .ok (.lmul, 1) := by decide +kernel
theorem dX12_lots_42 : decode cX12_lots 42 = .ok (.ldc2_w 259, 3) := by decide +kernel
theorem dX12_lots_45 : decode cX12_lots 45 = .ok (.lrem, 1) := by decide +kernel
theorem dX12_lots_46 : decode cX12_lots 46 = .ok (.lstore_n 3, 1) := by decide +kernel
theorem dX12_lots_47 : decode cX12_lots 47 = .ok (.lload_n 3, 1) := by decide +kernel
theorem dX12_lots_48 : decode cX12_lots 48 = .ok (.aload_n 0, 1) := by decide +kernel
theorem dX12_lots_49 : decode cX12_lots 49 = .ok (.getfield 139, 3) := by decide +kernel
theorem dX12_lots_52 : decode cX12_lots 52 = .ok (.i2l, 1) := by decide +kernel
theorem dX12_lots_53 : decode cX12_lots 53 = .ok (.lrem, 1) := by decide +kernel
theorem dX12_lots_54 : decode cX12_lots 54 = .ok (.l2i, 1) := by decide +kernel
theorem dX12_lots_55 : decode cX12_lots 55 = .ok (.istore 5, 2) := by decide +kernel
theorem dX12_lots_57 : decode cX12_lots 57 = .ok (.aload_n 0, 1) := by decide +kernel
theorem dX12_lots_58 : decode cX12_lots 58 = .ok (.getfield 7, 3) := by decide +kernel
theorem dX12_lots_61 : decode cX12_lots 61 = .ok (.iconst 0, 1) := by decide +kernel
theorem dX12_lots_62 : decode cX12_lots 62 = .ok (.iload_n 1, 1) := by decide +kernel
theorem dX12_lots_63 : decode cX12_lots 63 = .ok (.iastore, 1) := by decide +kernel
theorem dX12_lots_64 : decode cX12_lots 64 = .ok (.iconst 0, 1) := by decide +kernel
theorem dX12_lots_65 : decode cX12_lots 65 = .ok (.istore 6, 2) := by decide +kernel
theorem dX12_lots_67 : decode cX12_lots 67 = .ok (.iload 6, 2) := by decide +kernel
theorem dX12_lots_69 : decode cX12_lots 69 = .ok (.iload_n 1, 1) := by decide +kernel
theorem dX12_lots_70 : decode cX12_lots 70 = .ok (.if_icmp .ge 87, 3) := by decide +kernel
theorem dX12_lots_73 : decode cX12_lots 73 = .ok (.lload_n 3, 1) := by decide +kernel
theorem dX12_lots_74 : decode cX12_lots 74 = .ok (.ldc2_w 257, 3) := by decide +kernel
theorem dX12_lots_77 : decode cX12_lots 77 = .ok (.lmul, 1) := by decide +kernel
theorem dX12_lots_78 : decode cX12_lots 78 = .ok (.ldc2_w 259, 3) := by decide +kernel
theorem dX12_lots_81 : decode cX12_lots 81 = .ok (.lrem, 1) := by decide +kernel
theorem dX12_lots_82 : decode cX12_lots 82 = .ok (.lstore_n 3, 1) := by decide +kernel
theorem dX12_lots_83 : decode cX12_lots 83 = .ok (.lload_n 3, 1) := by decide +kernel
theorem dX12_lots_84 : decode cX12_lots 84 = .ok (.ldc2_w 261, 3) := by decide +kernel
theorem dX12_lots_87 : decode cX12_lots 87 = .ok (.ldiv, 1) := by decide +kernel
theorem dX12_lots_88 : decode cX12_lots 88 = .ok (.aload_n 0, 1) := by decide +kernel
theorem dX12_lots_89 : decode cX12_lots 89 = .ok (.getfield 142, 3) := by decide +kernel
theorem dX12_lots_92 : decode cX12_lots 92 = .ok (.i2l, 1) := by decide +kernel
theorem dX12_lots_93 : decode cX12_lots 93 = .ok (.lrem, 1) := by decide +kernel
theorem dX12_lots_94 : decode cX12_lots 94 = .ok (.l2i, 1) := by decide +kernel
theorem dX12_lots_95 : decode cX12_lots 95 = .ok (.istore 7, 2) := by decide +kernel
theorem dX12_lots_97 : decode cX12_lots 97 = .ok (.lload_n 3, 1) := by decide +kernel
theorem dX12_lots_98 : decode cX12_lots 98 = .ok (.ldc2_w 257, 3) := by decide +kernel
theorem dX12_lots_101 : decode cX12_lots 101 = .ok (.lmul, 1) := by decide +kernel
theorem dX12_lots_102 : decode cX12_lots 102 = .ok (.ldc2_w 259, 3) := by decide +kernel
theorem dX12_lots_105 : decode cX12_lots 105 = .ok (.lrem, 1) := by decide +kernel
theorem dX12_lots_106 : decode cX12_lots 106 = .ok (.lstore_n 3, 1) := by decide +kernel
theorem dX12_lots_107 : decode cX12_lots 107 = .ok (.aload_n 0, 1) := by decide +kernel
theorem dX12_lots_108 : decode cX12_lots 108 = .ok (.getfield 7, 3) := by decide +kernel
theorem dX12_lots_111 : decode cX12_lots 111 = .ok (.bipush 6, 2) := by decide +kernel
theorem dX12_lots_113 : decode cX12_lots 113 = .ok (.iload 6, 2) := by decide +kernel
theorem dX12_lots_115 : decode cX12_lots 115 = .ok (.iadd, 1) := by decide +kernel
theorem dX12_lots_116 : decode cX12_lots 116 = .ok (.iload 7, 2) := by decide +kernel
theorem dX12_lots_118 : decode cX12_lots 118 = .ok (.iastore, 1) := by decide +kernel
theorem dX12_lots_119 : decode cX12_lots 119 = .ok (.aload_n 0, 1) := by decide +kernel
theorem dX12_lots_120 : decode cX12_lots 120 = .ok (.getfield 7, 3) := by decide +kernel
theorem dX12_lots_123 : decode cX12_lots 123 = .ok (.bipush 22, 2) := by decide +kernel
theorem dX12_lots_125 : decode cX12_lots 125 = .ok (.iload 6, 2) := by decide +kernel
theorem dX12_lots_127 : decode cX12_lots 127 = .ok (.iadd, 1) := by decide +kernel
theorem dX12_lots_128 : decode cX12_lots 128 = .ok (.aload_n 0, 1) := by decide +kernel
theorem dX12_lots_129 : decode cX12_lots 129 = .ok (.iload 7, 2) := by decide +kernel
theorem dX12_lots_131 : decode cX12_lots 131 = .ok (.iload 5, 2) := by decide +kernel
theorem dX12_lots_133 : decode cX12_lots 133 = .ok (.lload_n 3, 1) := by decide +kernel
theorem dX12_lots_134 : decode cX12_lots 134 = .ok (.ldc2_w 263, 3) := by decide +kernel
theorem dX12_lots_137 : decode cX12_lots 137 = .ok (.ldiv, 1) := by decide +kernel
theorem dX12_lots_138 : decode cX12_lots 138 = .ok (.aload_n 0, 1) := by decide +kernel
theorem dX12_lots_139 : decode cX12_lots 139 = .ok (.iload 7, 2) := by decide +kernel
theorem dX12_lots_141 : decode cX12_lots 141 = .ok (.invokevirtual 177, 3) := by decide +kernel
theorem dX12_lots_144 : decode cX12_lots 144 = .ok (.i2l, 1) := by decide +kernel
theorem dX12_lots_145 : decode cX12_lots 145 = .ok (.lrem, 1) := by decide +kernel
theorem dX12_lots_146 : decode cX12_lots 146 = .ok (.l2i, 1) := by decide +kernel
theorem dX12_lots_147 : decode cX12_lots 147 = .ok (.invokevirtual 265, 3) := by decide +kernel
theorem dX12_lots_150 : decode cX12_lots 150 = .ok (.iastore, 1) := by decide +kernel
theorem dX12_lots_151 : decode cX12_lots 151 = .ok (.iinc 6 1, 3) := by decide +kernel
theorem dX12_lots_154 : decode cX12_lots 154 = .ok (.goto (-87), 3) := by decide +kernel
theorem dX12_lots_157 : decode cX12_lots 157 = .ok (.aload_n 0, 1) := by decide +kernel
theorem dX12_lots_158 : decode cX12_lots 158 = .ok (.invokevirtual 145, 3) := by decide +kernel
theorem dX12_lots_161 : decode cX12_lots 161 = .ok (.iload 5, 2) := by decide +kernel
theorem dX12_lots_163 : decode cX12_lots 163 = .ok (.ireturn, 1) := by decide +kernel
theorem dX12_asked_0 : decode cX12_asked 0 = .ok (.aload_n 0, 1) := by decide +kernel
theorem dX12_asked_1 : decode cX12_asked 1 = .ok (.getfield 52, 3) := by decide +kernel
theorem dX12_asked_4 : decode cX12_asked 4 = .ok (.ireturn, 1) := by decide +kernel
theorem dX12_upper_0 : decode cX12_upper 0 = .ok (.aload_n 0, 1) := by decide +kernel
theorem dX12_upper_1 : decode cX12_upper 1 = .ok (.getfield 216, 3) := by decide +kernel
theorem dX12_upper_4 : decode cX12_upper 4 = .ok (.lreturn, 1) := by decide +kernel
theorem dX12_lower_0 : decode cX12_lower 0 = .ok (.aload_n 0, 1) := by decide +kernel
theorem dX12_lower_1 : decode cX12_lower 1 = .ok (.getfield 32, 3) := by decide +kernel
theorem dX12_lower_4 : decode cX12_lower 4 = .ok (.lreturn, 1) := by decide +kernel
theorem dX12_anys_0 : decode cX12_anys 0 = .ok (.iconst 0, 1) := by decide +kernel
theorem dX12_anys_1 : decode cX12_anys 1 = .ok (.istore_n 1, 1) := by decide +kernel
theorem dX12_anys_2 : decode cX12_anys 2 = .ok (.iconst 0, 1) := by decide +kernel
theorem dX12_anys_3 : decode cX12_anys 3 = .ok (.istore_n 2, 1) := by decide +kernel
theorem dX12_anys_4 : decode cX12_anys 4 = .ok (.iload_n 2, 1) := by decide +kernel
theorem dX12_anys_5 : decode cX12_anys 5 = .ok (.aload_n 0, 1) := by decide +kernel
theorem dX12_anys_6 : decode cX12_anys 6 = .ok (.getfield 142, 3) := by decide +kernel
theorem dX12_anys_9 : decode cX12_anys 9 = .ok (.if_icmp .ge 26, 3) := by decide +kernel
theorem dX12_anys_12 : decode cX12_anys 12 = .ok (.iload_n 1, 1) := by decide +kernel
theorem dX12_anys_13 : decode cX12_anys 13 = .ok (.aload_n 0, 1) := by decide +kernel
theorem dX12_anys_14 : decode cX12_anys 14 = .ok (.iload_n 2, 1) := by decide +kernel
theorem dX12_anys_15 : decode cX12_anys 15 = .ok (.iconst 2, 1) := by decide +kernel
theorem dX12_anys_16 : decode cX12_anys 16 = .ok (.invokevirtual 189, 3) := by decide +kernel
theorem dX12_anys_19 : decode cX12_anys 19 = .ok (.ifCond .eq 7, 3) := by decide +kernel
theorem dX12_anys_22 : decode cX12_anys 22 = .ok (.iconst 1, 1) := by decide +kernel
theorem dX12_anys_23 : decode cX12_anys 23 = .ok (.goto 4, 3) := by decide +kernel
theorem dX12_anys_26 : decode cX12_anys 26 = .ok (.iconst 0, 1) := by decide +kernel
theorem dX12_anys_27 : decode cX12_anys 27 = .ok (.iadd, 1) := by decide +kernel
theorem dX12_anys_28 : decode cX12_anys 28 = .ok (.istore_n 1, 1) := by decide +kernel
theorem dX12_anys_29 : decode cX12_anys 29 = .ok (.iinc 2 1, 3) := by decide +kernel
theorem dX12_anys_32 : decode cX12_anys 32 = .ok (.goto (-28), 3) := by decide +kernel
theorem dX12_anys_35 : decode cX12_anys 35 = .ok (.iload_n 1, 1) := by decide +kernel
theorem dX12_anys_36 : decode cX12_anys 36 = .ok (.ireturn, 1) := by decide +kernel
theorem dX12_thereOf_0 : decode cX12_thereOf 0 = .ok (.iconst 0, 1) := by decide +kernel
theorem dX12_thereOf_1 : decode cX12_thereOf 1 = .ok (.istore_n 2, 1) := by decide +kernel
theorem dX12_thereOf_2 : decode cX12_thereOf 2 = .ok (.iconst 0, 1) := by decide +kernel
theorem dX12_thereOf_3 : decode cX12_thereOf 3 = .ok (.istore_n 3, 1) := by decide +kernel
theorem dX12_thereOf_4 : decode cX12_thereOf 4 = .ok (.iload_n 3, 1) := by decide +kernel
theorem dX12_thereOf_5 : decode cX12_thereOf 5 = .ok (.bipush 6, 2) := by decide +kernel
theorem dX12_thereOf_7 : decode cX12_thereOf 7 = .ok (.if_icmp .ge 89, 3) := by decide +kernel
theorem dX12_thereOf_10 : decode cX12_thereOf 10 = .ok (.iload_n 2, 1) := by decide +kernel
theorem dX12_thereOf_11 : decode cX12_thereOf 11 = .ok (.iload_n 1, 1) := by decide +kernel
theorem dX12_thereOf_12 : decode cX12_thereOf 12 = .ok (.bipush 7, 2) := by decide +kernel
theorem dX12_thereOf_14 : decode cX12_thereOf 14 = .ok (.if_icmp .ne 20, 3) := by decide +kernel
theorem dX12_thereOf_17 : decode cX12_thereOf 17 = .ok (.aload_n 0, 1) := by decide +kernel
theorem dX12_thereOf_18 : decode cX12_thereOf 18 = .ok (.getfield 20, 3) := by decide +kernel
theorem dX12_thereOf_21 : decode cX12_thereOf 21 = .ok (.iload_n 3, 1) := by decide +kernel
theorem dX12_thereOf_22 : decode cX12_thereOf 22 = .ok (.iaload, 1) := by decide +kernel
theorem dX12_thereOf_23 : decode cX12_thereOf 23 = .ok (.ifCond .ge 7, 3) := by decide +kernel
theorem dX12_thereOf_26 : decode cX12_thereOf 26 = .ok (.iconst 0, 1) := by decide +kernel
theorem dX12_thereOf_27 : decode cX12_thereOf 27 = .ok (.goto 61, 3) := by decide +kernel
theorem dX12_thereOf_30 : decode cX12_thereOf 30 = .ok (.iconst 1, 1) := by decide +kernel
theorem dX12_thereOf_31 : decode cX12_thereOf 31 = .ok (.goto 57, 3) := by decide +kernel
theorem dX12_thereOf_34 : decode cX12_thereOf 34 = .ok (.iload_n 1, 1) := by decide +kernel
theorem dX12_thereOf_35 : decode cX12_thereOf 35 = .ok (.bipush 8, 2) := by decide +kernel
theorem dX12_thereOf_37 : decode cX12_thereOf 37 = .ok (.if_icmp .ne 25, 3) := by decide +kernel
theorem dX12_thereOf_40 : decode cX12_thereOf 40 = .ok (.iload_n 3, 1) := by decide +kernel
theorem dX12_thereOf_41 : decode cX12_thereOf 41 = .ok (.iconst 4, 1) := by decide +kernel
theorem dX12_thereOf_42 : decode cX12_thereOf 42 = .ok (.if_icmp .ge 16, 3) := by decide +kernel
theorem dX12_thereOf_45 : decode cX12_thereOf 45 = .ok (.aload_n 0, 1) := by decide +kernel
theorem dX12_thereOf_46 : decode cX12_thereOf 46 = .ok (.getfield 26, 3) := by decide +kernel
theorem dX12_thereOf_49 : decode cX12_thereOf 49 = .ok (.iload_n 3, 1) := by decide +kernel
theorem dX12_thereOf_50 : decode cX12_thereOf 50 = .ok (.iaload, 1) := by decide +kernel
theorem dX12_thereOf_51 : decode cX12_thereOf 51 = .ok (.ifCond .lt 7, 3) := by decide +kernel
theorem dX12_thereOf_54 : decode cX12_thereOf 54 = .ok (.iconst 1, 1) := by decide +kernel
theorem dX12_thereOf_55 : decode cX12_thereOf 55 = .ok (.goto 33, 3) := by decide +kernel
theorem dX12_thereOf_58 : decode cX12_thereOf 58 = .ok (.iconst 0, 1) := by decide +kernel
theorem dX12_thereOf_59 : decode cX12_thereOf 59 = .ok (.goto 29, 3) := by decide +kernel
theorem dX12_thereOf_62 : decode cX12_thereOf 62 = .ok (.iload_n 3, 1) := by decide +kernel
theorem dX12_thereOf_63 : decode cX12_thereOf 63 = .ok (.iconst 3, 1) := by decide +kernel
theorem dX12_thereOf_64 : decode cX12_thereOf 64 = .ok (.if_icmp .ge 23, 3) := by decide +kernel
theorem dX12_thereOf_67 : decode cX12_thereOf 67 = .ok (.aload_n 0, 1) := by decide +kernel
theorem dX12_thereOf_68 : decode cX12_thereOf 68 = .ok (.getfield 7, 3) := by decide +kernel
theorem dX12_thereOf_71 : decode cX12_thereOf 71 = .ok (.bipush 38, 2) := by decide +kernel
theorem dX12_thereOf_73 : decode cX12_thereOf 73 = .ok (.iconst 1, 1) := by decide +kernel
theorem dX12_thereOf_74 : decode cX12_thereOf 74 = .ok (.iload_n 3, 1) := by decide +kernel
theorem dX12_thereOf_75 : decode cX12_thereOf 75 = .ok (.iadd, 1) := by decide +kernel
theorem dX12_thereOf_76 : decode cX12_thereOf 76 = .ok (.imul, 1) := by decide +kernel
theorem dX12_thereOf_77 : decode cX12_thereOf 77 = .ok (.iconst 0, 1) := by decide +kernel
theorem dX12_thereOf_78 : decode cX12_thereOf 78 = .ok (.iadd, 1) := by decide +kernel
theorem dX12_thereOf_79 : decode cX12_thereOf 79 = .ok (.iaload, 1) := by decide +kernel
theorem dX12_thereOf_80 : decode cX12_thereOf 80 = .ok (.ifCond .lt 7, 3) := by decide +kernel
theorem dX12_thereOf_83 : decode cX12_thereOf 83 = .ok (.iconst 1, 1) := by decide +kernel
theorem dX12_thereOf_84 : decode cX12_thereOf 84 = .ok (.goto 4, 3) := by decide +kernel
theorem dX12_thereOf_87 : decode cX12_thereOf 87 = .ok (.iconst 0, 1) := by decide +kernel
theorem dX12_thereOf_88 : decode cX12_thereOf 88 = .ok (.iadd, 1) := by decide +kernel
theorem dX12_thereOf_89 : decode cX12_thereOf 89 = .ok (.istore_n 2, 1) := by decide +kernel
theorem dX12_thereOf_90 : decode cX12_thereOf 90 = .ok (.iinc 3 1, 3) := by decide +kernel
theorem dX12_thereOf_93 : decode cX12_thereOf 93 = .ok (.goto (-89), 3) := by decide +kernel
theorem dX12_thereOf_96 : decode cX12_thereOf 96 = .ok (.iload_n 2, 1) := by decide +kernel
theorem dX12_thereOf_97 : decode cX12_thereOf 97 = .ok (.ireturn, 1) := by decide +kernel
theorem dX12_countOf_0 : decode cX12_countOf 0 = .ok (.iload_n 1, 1) := by decide +kernel
theorem dX12_countOf_1 : decode cX12_countOf 1 = .ok (.tableswitch 80 0 6 #[43, 48, 53, 58, 63, 68, 75], 43) := by decide +kernel
theorem dX12_countOf_44 : decode cX12_countOf 44 = .ok (.aload_n 0, 1) := by decide +kernel
theorem dX12_countOf_45 : decode cX12_countOf 45 = .ok (.getfield 142, 3) := by decide +kernel
theorem dX12_countOf_48 : decode cX12_countOf 48 = .ok (.ireturn, 1) := by decide +kernel
theorem dX12_countOf_49 : decode cX12_countOf 49 = .ok (.aload_n 0, 1) := by decide +kernel
theorem dX12_countOf_50 : decode cX12_countOf 50 = .ok (.getfield 130, 3) := by decide +kernel
theorem dX12_countOf_53 : decode cX12_countOf 53 = .ok (.ireturn, 1) := by decide +kernel
theorem dX12_countOf_54 : decode cX12_countOf 54 = .ok (.aload_n 0, 1) := by decide +kernel
theorem dX12_countOf_55 : decode cX12_countOf 55 = .ok (.getfield 133, 3) := by decide +kernel
theorem dX12_countOf_58 : decode cX12_countOf 58 = .ok (.ireturn, 1) := by decide +kernel
theorem dX12_countOf_59 : decode cX12_countOf 59 = .ok (.aload_n 0, 1) := by decide +kernel
theorem dX12_countOf_60 : decode cX12_countOf 60 = .ok (.getfield 139, 3) := by decide +kernel
theorem dX12_countOf_63 : decode cX12_countOf 63 = .ok (.ireturn, 1) := by decide +kernel
theorem dX12_countOf_64 : decode cX12_countOf 64 = .ok (.aload_n 0, 1) := by decide +kernel
theorem dX12_countOf_65 : decode cX12_countOf 65 = .ok (.invokevirtual 199, 3) := by decide +kernel
theorem dX12_countOf_68 : decode cX12_countOf 68 = .ok (.ireturn, 1) := by decide +kernel
theorem dX12_countOf_69 : decode cX12_countOf 69 = .ok (.aload_n 0, 1) := by decide +kernel
theorem dX12_countOf_70 : decode cX12_countOf 70 = .ok (.getfield 7, 3) := by decide +kernel
theorem dX12_countOf_73 : decode cX12_countOf 73 = .ok (.iconst 0, 1) := by decide +kernel
theorem dX12_countOf_74 : decode cX12_countOf 74 = .ok (.iaload, 1) := by decide +kernel
theorem dX12_countOf_75 : decode cX12_countOf 75 = .ok (.ireturn, 1) := by decide +kernel
theorem dX12_countOf_76 : decode cX12_countOf 76 = .ok (.aload_n 0, 1) := by decide +kernel
theorem dX12_countOf_77 : decode cX12_countOf 77 = .ok (.invokevirtual 268, 3) := by decide +kernel
theorem dX12_countOf_80 : decode cX12_countOf 80 = .ok (.ireturn, 1) := by decide +kernel
theorem dX12_countOf_81 : decode cX12_countOf 81 = .ok (.aload_n 0, 1) := by decide +kernel
theorem dX12_countOf_82 : decode cX12_countOf 82 = .ok (.iload_n 1, 1) := by decide +kernel
theorem dX12_countOf_83 : decode cX12_countOf 83 = .ok (.invokevirtual 271, 3) := by decide +kernel
theorem dX12_countOf_86 : decode cX12_countOf 86 = .ok (.ireturn, 1) := by decide +kernel
theorem dX12_count_0 : decode cX12_count 0 = .ok (.iload_n 1, 1) := by decide +kernel
theorem dX12_count_1 : decode cX12_count 1 = .ok (.i2l, 1) := by decide +kernel
theorem dX12_count_2 : decode cX12_count 2 = .ok (.lconst 0, 1) := by decide +kernel
theorem dX12_count_3 : decode cX12_count 3 = .ok (.ldc2_w 251, 3) := by decide +kernel
theorem dX12_count_6 : decode cX12_count 6 = .ok (.invokestatic 57, 3) := by decide +kernel
theorem dX12_count_9 : decode cX12_count 9 = .ok (.ifCond .eq 11, 3) := by decide +kernel
theorem dX12_count_12 : decode cX12_count 12 = .ok (.aload_n 0, 1) := by decide +kernel
theorem dX12_count_13 : decode cX12_count 13 = .ok (.iload_n 1, 1) := by decide +kernel
theorem dX12_count_14 : decode cX12_count 14 = .ok (.invokevirtual 274, 3) := by decide +kernel
theorem dX12_count_17 : decode cX12_count 17 = .ok (.goto 4, 3) := by decide +kernel
theorem dX12_count_20 : decode cX12_count 20 = .ok (.iconst (-1), 1) := by decide +kernel
theorem dX12_count_21 : decode cX12_count 21 = .ok (.ireturn, 1) := by decide +kernel
theorem dX12_finding_0 : decode cX12_finding 0 = .ok (.aload_n 0, 1) := by decide +kernel
theorem dX12_finding_1 : decode cX12_finding 1 = .ok (.getfield 48, 3) := by decide +kernel
theorem dX12_finding_4 : decode cX12_finding 4 = .ok (.ireturn, 1) := by decide +kernel
theorem dX12_findings_0 : decode cX12_findings 0 = .ok (.iload_n 1, 1) := by decide +kernel
theorem dX12_findings_1 : decode cX12_findings 1 = .ok (.i2l, 1) := by decide +kernel
theorem dX12_findings_2 : decode cX12_findings 2 = .ok (.lconst 1, 1) := by decide +kernel
theorem dX12_findings_3 : decode cX12_findings 3 = .ok (.ldc2_w 55, 3) := by decide +kernel
theorem dX12_findings_6 : decode cX12_findings 6 = .ok (.invokestatic 57, 3) := by decide +kernel
theorem dX12_findings_9 : decode cX12_findings 9 = .ok (.ifCond .eq 12, 3) := by decide +kernel
theorem dX12_findings_12 : decode cX12_findings 12 = .ok (.aload_n 0, 1) := by decide +kernel
theorem dX12_findings_13 : decode cX12_findings 13 = .ok (.getfield 36, 3) := by decide +kernel
theorem dX12_findings_16 : decode cX12_findings 16 = .ok (.iload_n 1, 1) := by decide +kernel
theorem dX12_findings_17 : decode cX12_findings 17 = .ok (.iaload, 1) := by decide +kernel
theorem dX12_findings_18 : decode cX12_findings 18 = .ok (.goto 4, 3) := by decide +kernel
theorem dX12_findings_21 : decode cX12_findings 21 = .ok (.iconst (-1), 1) := by decide +kernel
theorem dX12_findings_22 : decode cX12_findings 22 = .ok (.ireturn, 1) := by decide +kernel
theorem dX12_digest_0 : decode cX12_digest 0 = .ok (.ldc2_w 277, 3) := by decide +kernel
theorem dX12_digest_3 : decode cX12_digest 3 = .ok (.lstore_n 1, 1) := by decide +kernel
theorem dX12_digest_4 : decode cX12_digest 4 = .ok (.iconst 0, 1) := by decide +kernel
theorem dX12_digest_5 : decode cX12_digest 5 = .ok (.istore_n 3, 1) := by decide +kernel
theorem dX12_digest_6 : decode cX12_digest 6 = .ok (.iload_n 3, 1) := by decide +kernel
theorem dX12_digest_7 : decode cX12_digest 7 = .ok (.bipush 10, 2) := by decide +kernel
theorem dX12_digest_9 : decode cX12_digest 9 = .ok (.if_icmp .ge 22, 3) := by decide +kernel
theorem dX12_digest_12 : decode cX12_digest 12 = .ok (.ldc2_w 279, 3) := by decide +kernel
theorem dX12_digest_15 : decode cX12_digest 15 = .ok (.lload_n 1, 1) := by decide +kernel
theorem dX12_digest_16 : decode cX12_digest 16 = .ok (.lmul, 1) := by decide +kernel
theorem dX12_digest_17 : decode cX12_digest 17 = .ok (.aload_n 0, 1) := by decide +kernel
theorem dX12_digest_18 : decode cX12_digest 18 = .ok (.iload_n 3, 1) := by decide +kernel
theorem dX12_digest_19 : decode cX12_digest 19 = .ok (.invokevirtual 274, 3) := by decide +kernel
theorem dX12_digest_22 : decode cX12_digest 22 = .ok (.i2l, 1) := by decide +kernel
theorem dX12_digest_23 : decode cX12_digest 23 = .ok (.ladd, 1) := by decide +kernel
theorem dX12_digest_24 : decode cX12_digest 24 = .ok (.lstore_n 1, 1) := by decide +kernel
theorem dX12_digest_25 : decode cX12_digest 25 = .ok (.iinc 3 1, 3) := by decide +kernel
theorem dX12_digest_28 : decode cX12_digest 28 = .ok (.goto (-22), 3) := by decide +kernel
theorem dX12_digest_31 : decode cX12_digest 31 = .ok (.iconst 0, 1) := by decide +kernel
theorem dX12_digest_32 : decode cX12_digest 32 = .ok (.istore_n 3, 1) := by decide +kernel
theorem dX12_digest_33 : decode cX12_digest 33 = .ok (.iload_n 3, 1) := by decide +kernel
theorem dX12_digest_34 : decode cX12_digest 34 = .ok (.aload_n 0, 1) := by decide +kernel
theorem dX12_digest_35 : decode cX12_digest 35 = .ok (.getfield 139, 3) := by decide +kernel
theorem dX12_digest_38 : decode cX12_digest 38 = .ok (.if_icmp .ge 22, 3) := by decide +kernel
theorem dX12_digest_41 : decode cX12_digest 41 = .ok (.ldc2_w 279, 3) := by decide +kernel
theorem dX12_digest_44 : decode cX12_digest 44 = .ok (.lload_n 1, 1) := by decide +kernel
theorem dX12_digest_45 : decode cX12_digest 45 = .ok (.lmul, 1) := by decide +kernel
theorem dX12_digest_46 : decode cX12_digest 46 = .ok (.aload_n 0, 1) := by decide +kernel
theorem dX12_digest_47 : decode cX12_digest 47 = .ok (.getfield 16, 3) := by decide +kernel
theorem dX12_digest_50 : decode cX12_digest 50 = .ok (.iload_n 3, 1) := by decide +kernel
theorem dX12_digest_51 : decode cX12_digest 51 = .ok (.laload, 1) := by decide +kernel
theorem dX12_digest_52 : decode cX12_digest 52 = .ok (.ladd, 1) := by decide +kernel
theorem dX12_digest_53 : decode cX12_digest 53 = .ok (.lstore_n 1, 1) := by decide +kernel
theorem dX12_digest_54 : decode cX12_digest 54 = .ok (.iinc 3 1, 3) := by decide +kernel
theorem dX12_digest_57 : decode cX12_digest 57 = .ok (.goto (-24), 3) := by decide +kernel
theorem dX12_digest_60 : decode cX12_digest 60 = .ok (.iconst 0, 1) := by decide +kernel
theorem dX12_digest_61 : decode cX12_digest 61 = .ok (.istore_n 3, 1) := by decide +kernel
theorem dX12_digest_62 : decode cX12_digest 62 = .ok (.iload_n 3, 1) := by decide +kernel
theorem dX12_digest_63 : decode cX12_digest 63 = .ok (.iconst 4, 1) := by decide +kernel
theorem dX12_digest_64 : decode cX12_digest 64 = .ok (.aload_n 0, 1) := by decide +kernel
theorem dX12_digest_65 : decode cX12_digest 65 = .ok (.getfield 142, 3) := by decide +kernel
theorem dX12_digest_68 : decode cX12_digest 68 = .ok (.imul, 1) := by decide +kernel
theorem dX12_digest_69 : decode cX12_digest 69 = .ok (.if_icmp .ge 27, 3) := by decide +kernel
theorem dX12_digest_72 : decode cX12_digest 72 = .ok (.ldc2_w 279, 3) := by decide +kernel
theorem dX12_digest_75 : decode cX12_digest 75 = .ok (.lload_n 1, 1) := by decide +kernel
theorem dX12_digest_76 : decode cX12_digest 76 = .ok (.lmul, 1) := by decide +kernel
theorem dX12_digest_77 : decode cX12_digest 77 = .ok (.aload_n 0, 1) := by decide +kernel
theorem dX12_digest_78 : decode cX12_digest 78 = .ok (.iload_n 3, 1) := by decide +kernel
theorem dX12_digest_79 : decode cX12_digest 79 = .ok (.iconst 4, 1) := by decide +kernel
theorem dX12_digest_80 : decode cX12_digest 80 = .ok (.idiv, 1) := by decide +kernel
theorem dX12_digest_81 : decode cX12_digest 81 = .ok (.iload_n 3, 1) := by decide +kernel
theorem dX12_digest_82 : decode cX12_digest 82 = .ok (.iconst 4, 1) := by decide +kernel
theorem dX12_digest_83 : decode cX12_digest 83 = .ok (.irem, 1) := by decide +kernel
theorem dX12_digest_84 : decode cX12_digest 84 = .ok (.invokevirtual 186, 3) := by decide +kernel
theorem dX12_digest_87 : decode cX12_digest 87 = .ok (.i2l, 1) := by decide +kernel
theorem dX12_digest_88 : decode cX12_digest 88 = .ok (.ladd, 1) := by decide +kernel
theorem dX12_digest_89 : decode cX12_digest 89 = .ok (.lstore_n 1, 1) := by decide +kernel
theorem dX12_digest_90 : decode cX12_digest 90 = .ok (.iinc 3 1, 3) := by decide +kernel
theorem dX12_digest_93 : decode cX12_digest 93 = .ok (.goto (-31), 3) := by decide +kernel
theorem dX12_digest_96 : decode cX12_digest 96 = .ok (.iconst 1, 1) := by decide +kernel
theorem dX12_digest_97 : decode cX12_digest 97 = .ok (.istore_n 3, 1) := by decide +kernel
theorem dX12_digest_98 : decode cX12_digest 98 = .ok (.iload_n 3, 1) := by decide +kernel
theorem dX12_digest_99 : decode cX12_digest 99 = .ok (.iconst 4, 1) := by decide +kernel
theorem dX12_digest_100 : decode cX12_digest 100 = .ok (.if_icmp .ge 28, 3) := by decide +kernel
theorem dX12_digest_103 : decode cX12_digest 103 = .ok (.ldc2_w 279, 3) := by decide +kernel
theorem dX12_digest_106 : decode cX12_digest 106 = .ok (.lload_n 1, 1) := by decide +kernel
theorem dX12_digest_107 : decode cX12_digest 107 = .ok (.lmul, 1) := by decide +kernel
theorem dX12_digest_108 : decode cX12_digest 108 = .ok (.aload_n 0, 1) := by decide +kernel
theorem dX12_digest_109 : decode cX12_digest 109 = .ok (.getfield 7, 3) := by decide +kernel
theorem dX12_digest_112 : decode cX12_digest 112 = .ok (.bipush 38, 2) := by decide +kernel
theorem dX12_digest_114 : decode cX12_digest 114 = .ok (.iload_n 3, 1) := by decide +kernel
theorem dX12_digest_115 : decode cX12_digest 115 = .ok (.imul, 1) := by decide +kernel
theorem dX12_digest_116 : decode cX12_digest 116 = .ok (.iconst 0, 1) := by decide +kernel
theorem dX12_digest_117 : decode cX12_digest 117 = .ok (.iadd, 1) := by decide +kernel
theorem dX12_digest_118 : decode cX12_digest 118 = .ok (.iaload, 1) := by decide +kernel
theorem dX12_digest_119 : decode cX12_digest 119 = .ok (.i2l, 1) := by decide +kernel
theorem dX12_digest_120 : decode cX12_digest 120 = .ok (.ladd, 1) := by decide +kernel
theorem dX12_digest_121 : decode cX12_digest 121 = .ok (.lstore_n 1, 1) := by decide +kernel
theorem dX12_digest_122 : decode cX12_digest 122 = .ok (.iinc 3 1, 3) := by decide +kernel
theorem dX12_digest_125 : decode cX12_digest 125 = .ok (.goto (-27), 3) := by decide +kernel
theorem dX12_digest_128 : decode cX12_digest 128 = .ok (.iconst 0, 1) := by decide +kernel
theorem dX12_digest_129 : decode cX12_digest 129 = .ok (.istore_n 3, 1) := by decide +kernel
theorem dX12_digest_130 : decode cX12_digest 130 = .ok (.iload_n 3, 1) := by decide +kernel
theorem dX12_digest_131 : decode cX12_digest 131 = .ok (.bipush 6, 2) := by decide +kernel
theorem dX12_digest_133 : decode cX12_digest 133 = .ok (.if_icmp .ge 63, 3) := by decide +kernel
theorem dX12_digest_136 : decode cX12_digest 136 = .ok (.ldc2_w 279, 3) := by decide +kernel
theorem dX12_digest_139 : decode cX12_digest 139 = .ok (.lload_n 1, 1) := by decide +kernel
theorem dX12_digest_140 : decode cX12_digest 140 = .ok (.lmul, 1) := by decide +kernel
theorem dX12_digest_141 : decode cX12_digest 141 = .ok (.aload_n 0, 1) := by decide +kernel
theorem dX12_digest_142 : decode cX12_digest 142 = .ok (.getfield 20, 3) := by decide +kernel
theorem dX12_digest_145 : decode cX12_digest 145 = .ok (.iload_n 3, 1) := by decide +kernel
theorem dX12_digest_146 : decode cX12_digest 146 = .ok (.iaload, 1) := by decide +kernel
theorem dX12_digest_147 : decode cX12_digest 147 = .ok (.i2l, 1) := by decide +kernel
theorem dX12_digest_148 : decode cX12_digest 148 = .ok (.ladd, 1) := by decide +kernel
theorem dX12_digest_149 : decode cX12_digest 149 = .ok (.lstore_n 1, 1) := by decide +kernel
theorem dX12_digest_150 : decode cX12_digest 150 = .ok (.iconst 0, 1) := by decide +kernel
theorem dX12_digest_151 : decode cX12_digest 151 = .ok (.istore 4, 2) := by decide +kernel
theorem dX12_digest_153 : decode cX12_digest 153 = .ok (.iload 4, 2) := by decide +kernel
theorem dX12_digest_155 : decode cX12_digest 155 = .ok (.aload_n 0, 1) := by decide +kernel
theorem dX12_digest_156 : decode cX12_digest 156 = .ok (.getfield 20, 3) := by decide +kernel
theorem dX12_digest_159 : decode cX12_digest 159 = .ok (.iload_n 3, 1) := by decide +kernel
theorem dX12_digest_160 : decode cX12_digest 160 = .ok (.iaload, 1) := by decide +kernel
theorem dX12_digest_161 : decode cX12_digest 161 = .ok (.if_icmp .ge 29, 3) := by decide +kernel
theorem dX12_digest_164 : decode cX12_digest 164 = .ok (.ldc2_w 279, 3) := by decide +kernel
theorem dX12_digest_167 : decode cX12_digest 167 = .ok (.lload_n 1, 1) := by decide +kernel
theorem dX12_digest_168 : decode cX12_digest 168 = .ok (.lmul, 1) := by decide +kernel
theorem dX12_digest_169 : decode cX12_digest 169 = .ok (.aload_n 0, 1) := by decide +kernel
theorem dX12_digest_170 : decode cX12_digest 170 = .ok (.getfield 23, 3) := by decide +kernel
theorem dX12_digest_173 : decode cX12_digest 173 = .ok (.bipush 40, 2) := by decide +kernel
theorem dX12_digest_175 : decode cX12_digest 175 = .ok (.iload_n 3, 1) := by decide +kernel
theorem dX12_digest_176 : decode cX12_digest 176 = .ok (.imul, 1) := by decide +kernel
theorem dX12_digest_177 : decode cX12_digest 177 = .ok (.iload 4, 2) := by decide +kernel
theorem dX12_digest_179 : decode cX12_digest 179 = .ok (.iadd, 1) := by decide +kernel
theorem dX12_digest_180 : decode cX12_digest 180 = .ok (.iaload, 1) := by decide +kernel
theorem dX12_digest_181 : decode cX12_digest 181 = .ok (.i2l, 1) := by decide +kernel
theorem dX12_digest_182 : decode cX12_digest 182 = .ok (.ladd, 1) := by decide +kernel
theorem dX12_digest_183 : decode cX12_digest 183 = .ok (.lstore_n 1, 1) := by decide +kernel
theorem dX12_digest_184 : decode cX12_digest 184 = .ok (.iinc 4 1, 3) := by decide +kernel
theorem dX12_digest_187 : decode cX12_digest 187 = .ok (.goto (-34), 3) := by decide +kernel
theorem dX12_digest_190 : decode cX12_digest 190 = .ok (.iinc 3 1, 3) := by decide +kernel
theorem dX12_digest_193 : decode cX12_digest 193 = .ok (.goto (-63), 3) := by decide +kernel
theorem dX12_digest_196 : decode cX12_digest 196 = .ok (.iconst 0, 1) := by decide +kernel
theorem dX12_digest_197 : decode cX12_digest 197 = .ok (.istore_n 3, 1) := by decide +kernel
theorem dX12_digest_198 : decode cX12_digest 198 = .ok (.iload_n 3, 1) := by decide +kernel
theorem dX12_digest_199 : decode cX12_digest 199 = .ok (.iconst 4, 1) := by decide +kernel
theorem dX12_digest_200 : decode cX12_digest 200 = .ok (.if_icmp .ge 63, 3) := by decide +kernel
theorem dX12_digest_203 : decode cX12_digest 203 = .ok (.ldc2_w 279, 3) := by decide +kernel
theorem dX12_digest_206 : decode cX12_digest 206 = .ok (.lload_n 1, 1) := by decide +kernel
theorem dX12_digest_207 : decode cX12_digest 207 = .ok (.lmul, 1) := by decide +kernel
theorem dX12_digest_208 : decode cX12_digest 208 = .ok (.aload_n 0, 1) := by decide +kernel
theorem dX12_digest_209 : decode cX12_digest 209 = .ok (.getfield 26, 3) := by decide +kernel
theorem dX12_digest_212 : decode cX12_digest 212 = .ok (.iload_n 3, 1) := by decide +kernel
theorem dX12_digest_213 : decode cX12_digest 213 = .ok (.iaload, 1) := by decide +kernel
theorem dX12_digest_214 : decode cX12_digest 214 = .ok (.i2l, 1) := by decide +kernel
theorem dX12_digest_215 : decode cX12_digest 215 = .ok (.ladd, 1) := by decide +kernel
theorem dX12_digest_216 : decode cX12_digest 216 = .ok (.lstore_n 1, 1) := by decide +kernel
theorem dX12_digest_217 : decode cX12_digest 217 = .ok (.iconst 0, 1) := by decide +kernel
theorem dX12_digest_218 : decode cX12_digest 218 = .ok (.istore 4, 2) := by decide +kernel
theorem dX12_digest_220 : decode cX12_digest 220 = .ok (.iload 4, 2) := by decide +kernel
theorem dX12_digest_222 : decode cX12_digest 222 = .ok (.aload_n 0, 1) := by decide +kernel
theorem dX12_digest_223 : decode cX12_digest 223 = .ok (.getfield 26, 3) := by decide +kernel
theorem dX12_digest_226 : decode cX12_digest 226 = .ok (.iload_n 3, 1) := by decide +kernel
theorem dX12_digest_227 : decode cX12_digest 227 = .ok (.iaload, 1) := by decide +kernel
theorem dX12_digest_228 : decode cX12_digest 228 = .ok (.if_icmp .ge 29, 3) := by decide +kernel
theorem dX12_digest_231 : decode cX12_digest 231 = .ok (.ldc2_w 279, 3) := by decide +kernel
theorem dX12_digest_234 : decode cX12_digest 234 = .ok (.lload_n 1, 1) := by decide +kernel
theorem dX12_digest_235 : decode cX12_digest 235 = .ok (.lmul, 1) := by decide +kernel
theorem dX12_digest_236 : decode cX12_digest 236 = .ok (.aload_n 0, 1) := by decide +kernel
theorem dX12_digest_237 : decode cX12_digest 237 = .ok (.getfield 29, 3) := by decide +kernel
theorem dX12_digest_240 : decode cX12_digest 240 = .ok (.bipush 60, 2) := by decide +kernel
theorem dX12_digest_242 : decode cX12_digest 242 = .ok (.iload_n 3, 1) := by decide +kernel
theorem dX12_digest_243 : decode cX12_digest 243 = .ok (.imul, 1) := by decide +kernel
theorem dX12_digest_244 : decode cX12_digest 244 = .ok (.iload 4, 2) := by decide +kernel
theorem dX12_digest_246 : decode cX12_digest 246 = .ok (.iadd, 1) := by decide +kernel
theorem dX12_digest_247 : decode cX12_digest 247 = .ok (.iaload, 1) := by decide +kernel
theorem dX12_digest_248 : decode cX12_digest 248 = .ok (.i2l, 1) := by decide +kernel
theorem dX12_digest_249 : decode cX12_digest 249 = .ok (.ladd, 1) := by decide +kernel
theorem dX12_digest_250 : decode cX12_digest 250 = .ok (.lstore_n 1, 1) := by decide +kernel
theorem dX12_digest_251 : decode cX12_digest 251 = .ok (.iinc 4 1, 3) := by decide +kernel
theorem dX12_digest_254 : decode cX12_digest 254 = .ok (.goto (-34), 3) := by decide +kernel
theorem dX12_digest_257 : decode cX12_digest 257 = .ok (.iinc 3 1, 3) := by decide +kernel
theorem dX12_digest_260 : decode cX12_digest 260 = .ok (.goto (-62), 3) := by decide +kernel
theorem dX12_digest_263 : decode cX12_digest 263 = .ok (.lload_n 1, 1) := by decide +kernel
theorem dX12_digest_264 : decode cX12_digest 264 = .ok (.lreturn, 1) := by decide +kernel
end
section
theorem dL_law_0 : decode cL_law 0 = .ok (.new 7, 3) := by decide +kernel
theorem dL_law_3 : decode cL_law 3 = .ok (.dup, 1) := by decide +kernel
theorem dL_law_4 : decode cL_law 4 = .ok (.invokespecial 9, 3) := by decide +kernel
theorem dL_law_7 : decode cL_law 7 = .ok (.astore_n 1, 1) := by decide +kernel
theorem dL_law_8 : decode cL_law 8 = .ok (.new 10, 3) := by decide +kernel
theorem dL_law_11 : decode cL_law 11 = .ok (.dup, 1) := by decide +kernel
theorem dL_law_12 : decode cL_law 12 = .ok (.invokespecial 12, 3) := by decide +kernel
theorem dL_law_15 : decode cL_law 15 = .ok (.astore_n 2, 1) := by decide +kernel
theorem dL_law_16 : decode cL_law 16 = .ok (.iconst 0, 1) := by decide +kernel
theorem dL_law_17 : decode cL_law 17 = .ok (.istore_n 3, 1) := by decide +kernel
theorem dL_law_18 : decode cL_law 18 = .ok (.iload_n 3, 1) := by decide +kernel
theorem dL_law_19 : decode cL_law 19 = .ok (.aload_n 0, 1) := by decide +kernel
theorem dL_law_20 : decode cL_law 20 = .ok (.arraylength, 1) := by decide +kernel
theorem dL_law_21 : decode cL_law 21 = .ok (.bipush 6, 2) := by decide +kernel
theorem dL_law_23 : decode cL_law 23 = .ok (.isub, 1) := by decide +kernel
theorem dL_law_24 : decode cL_law 24 = .ok (.if_icmp .gt 1371, 3) := by decide +kernel
theorem dL_law_27 : decode cL_law 27 = .ok (.aload_n 0, 1) := by decide +kernel
theorem dL_law_28 : decode cL_law 28 = .ok (.iload_n 3, 1) := by decide +kernel
theorem dL_law_29 : decode cL_law 29 = .ok (.iaload, 1) := by decide +kernel
theorem dL_law_30 : decode cL_law 30 = .ok (.bipush 63, 2) := by decide +kernel
theorem dL_law_32 : decode cL_law 32 = .ok (.iand, 1) := by decide +kernel
theorem dL_law_33 : decode cL_law 33 = .ok (.tableswitch 1356 0 43 #[191, 224, 267, 300, 323, 386, 409, 442, 485, 508, 531, 564, 597, 630, 663, 686, 709, 732, 755, 778, 791, 824, 837, 870, 883, 906, 929, 942, 975, 998, 1021, 1044, 1067, 1100, 1143, 1176, 1209, 1242, 1255, 1269, 1283, 1306, 1319, 1342], 191) := by decide +kernel
theorem dL_law_224 : decode cL_law 224 = .ok (.aload_n 1, 1) := by decide +kernel
theorem dL_law_225 : decode cL_law 225 = .ok (.aload_n 0, 1) := by decide +kernel
theorem dL_law_226 : decode cL_law 226 = .ok (.iload_n 3, 1) := by decide +kernel
theorem dL_law_227 : decode cL_law 227 = .ok (.iconst 1, 1) := by decide +kernel
theorem dL_law_228 : decode cL_law 228 = .ok (.iadd, 1) := by decide +kernel
theorem dL_law_229 : decode cL_law 229 = .ok (.iaload, 1) := by decide +kernel
theorem dL_law_230 : decode cL_law 230 = .ok (.aload_n 0, 1) := by decide +kernel
theorem dL_law_231 : decode cL_law 231 = .ok (.iload_n 3, 1) := by decide +kernel
theorem dL_law_232 : decode cL_law 232 = .ok (.iconst 2, 1) := by decide +kernel
theorem dL_law_233 : decode cL_law 233 = .ok (.iadd, 1) := by decide +kernel
theorem dL_law_234 : decode cL_law 234 = .ok (.iaload, 1) := by decide +kernel
theorem dL_law_235 : decode cL_law 235 = .ok (.invokevirtual 13, 3) := by decide +kernel
theorem dL_law_238 : decode cL_law 238 = .ok (.aload_n 2, 1) := by decide +kernel
theorem dL_law_239 : decode cL_law 239 = .ok (.aload_n 0, 1) := by decide +kernel
theorem dL_law_240 : decode cL_law 240 = .ok (.iload_n 3, 1) := by decide +kernel
theorem dL_law_241 : decode cL_law 241 = .ok (.iconst 1, 1) := by decide +kernel
theorem dL_law_242 : decode cL_law 242 = .ok (.iadd, 1) := by decide +kernel
theorem dL_law_243 : decode cL_law 243 = .ok (.iaload, 1) := by decide +kernel
theorem dL_law_244 : decode cL_law 244 = .ok (.aload_n 0, 1) := by decide +kernel
theorem dL_law_245 : decode cL_law 245 = .ok (.iload_n 3, 1) := by decide +kernel
theorem dL_law_246 : decode cL_law 246 = .ok (.iconst 2, 1) := by decide +kernel
theorem dL_law_247 : decode cL_law 247 = .ok (.iadd, 1) := by decide +kernel
theorem dL_law_248 : decode cL_law 248 = .ok (.iaload, 1) := by decide +kernel
theorem dL_law_249 : decode cL_law 249 = .ok (.invokevirtual 17, 3) := by decide +kernel
theorem dL_law_252 : decode cL_law 252 = .ok (.if_icmp .eq 1137, 3) := by decide +kernel
theorem dL_law_255 : decode cL_law 255 = .ok (.iconst 0, 1) := by decide +kernel
theorem dL_law_256 : decode cL_law 256 = .ok (.ireturn, 1) := by decide +kernel
theorem dL_law_257 : decode cL_law 257 = .ok (.aload_n 1, 1) := by decide +kernel
theorem dL_law_258 : decode cL_law 258 = .ok (.aload_n 0, 1) := by decide +kernel
theorem dL_law_259 : decode cL_law 259 = .ok (.iload_n 3, 1) := by decide +kernel
theorem dL_law_260 : decode cL_law 260 = .ok (.iconst 1, 1) := by decide +kernel
theorem dL_law_261 : decode cL_law 261 = .ok (.iadd, 1) := by decide +kernel
theorem dL_law_262 : decode cL_law 262 = .ok (.iaload, 1) := by decide +kernel
theorem dL_law_263 : decode cL_law 263 = .ok (.aload_n 0, 1) := by decide +kernel
theorem dL_law_264 : decode cL_law 264 = .ok (.iload_n 3, 1) := by decide +kernel
theorem dL_law_265 : decode cL_law 265 = .ok (.iconst 2, 1) := by decide +kernel
theorem dL_law_266 : decode cL_law 266 = .ok (.iadd, 1) := by decide +kernel
theorem dL_law_267 : decode cL_law 267 = .ok (.iaload, 1) := by decide +kernel
theorem dL_law_268 : decode cL_law 268 = .ok (.aload_n 0, 1) := by decide +kernel
theorem dL_law_269 : decode cL_law 269 = .ok (.iload_n 3, 1) := by decide +kernel
theorem dL_law_270 : decode cL_law 270 = .ok (.iconst 3, 1) := by decide +kernel
theorem dL_law_271 : decode cL_law 271 = .ok (.iadd, 1) := by decide +kernel
theorem dL_law_272 : decode cL_law 272 = .ok (.iaload, 1) := by decide +kernel
theorem dL_law_273 : decode cL_law 273 = .ok (.invokevirtual 18, 3) := by decide +kernel
theorem dL_law_276 : decode cL_law 276 = .ok (.aload_n 2, 1) := by decide +kernel
theorem dL_law_277 : decode cL_law 277 = .ok (.aload_n 0, 1) := by decide +kernel
theorem dL_law_278 : decode cL_law 278 = .ok (.iload_n 3, 1) := by decide +kernel
theorem dL_law_279 : decode cL_law 279 = .ok (.iconst 1, 1) := by decide +kernel
theorem dL_law_280 : decode cL_law 280 = .ok (.iadd, 1) := by decide +kernel
theorem dL_law_281 : decode cL_law 281 = .ok (.iaload, 1) := by decide +kernel
theorem dL_law_282 : decode cL_law 282 = .ok (.aload_n 0, 1) := by decide +kernel
theorem dL_law_283 : decode cL_law 283 = .ok (.iload_n 3, 1) := by decide +kernel
theorem dL_law_284 : decode cL_law 284 = .ok (.iconst 2, 1) := by decide +kernel
theorem dL_law_285 : decode cL_law 285 = .ok (.iadd, 1) := by decide +kernel
theorem dL_law_286 : decode cL_law 286 = .ok (.iaload, 1) := by decide +kernel
theorem dL_law_287 : decode cL_law 287 = .ok (.aload_n 0, 1) := by decide +kernel
theorem dL_law_288 : decode cL_law 288 = .ok (.iload_n 3, 1) := by decide +kernel
theorem dL_law_289 : decode cL_law 289 = .ok (.iconst 3, 1) := by decide +kernel
theorem dL_law_290 : decode cL_law 290 = .ok (.iadd, 1) := by decide +kernel
theorem dL_law_291 : decode cL_law 291 = .ok (.iaload, 1) := by decide +kernel
theorem dL_law_292 : decode cL_law 292 = .ok (.invokevirtual 22, 3) := by decide +kernel
theorem dL_law_295 : decode cL_law 295 = .ok (.if_icmp .eq 1094, 3) := by decide +kernel
theorem dL_law_298 : decode cL_law 298 = .ok (.iconst 0, 1) := by decide +kernel
theorem dL_law_299 : decode cL_law 299 = .ok (.ireturn, 1) := by decide +kernel
theorem dL_law_300 : decode cL_law 300 = .ok (.aload_n 1, 1) := by decide +kernel
theorem dL_law_301 : decode cL_law 301 = .ok (.aload_n 0, 1) := by decide +kernel
theorem dL_law_302 : decode cL_law 302 = .ok (.iload_n 3, 1) := by decide +kernel
theorem dL_law_303 : decode cL_law 303 = .ok (.iconst 1, 1) := by decide +kernel
theorem dL_law_304 : decode cL_law 304 = .ok (.iadd, 1) := by decide +kernel
theorem dL_law_305 : decode cL_law 305 = .ok (.iaload, 1) := by decide +kernel
theorem dL_law_306 : decode cL_law 306 = .ok (.aload_n 0, 1) := by decide +kernel
theorem dL_law_307 : decode cL_law 307 = .ok (.iload_n 3, 1) := by decide +kernel
theorem dL_law_308 : decode cL_law 308 = .ok (.iconst 2, 1) := by decide +kernel
theorem dL_law_309 : decode cL_law 309 = .ok (.iadd, 1) := by decide +kernel
theorem dL_law_310 : decode cL_law 310 = .ok (.iaload, 1) := by decide +kernel
theorem dL_law_311 : decode cL_law 311 = .ok (.invokevirtual 23, 3) := by decide +kernel
theorem dL_law_314 : decode cL_law 314 = .ok (.aload_n 2, 1) := by decide +kernel
theorem dL_law_315 : decode cL_law 315 = .ok (.aload_n 0, 1) := by decide +kernel
theorem dL_law_316 : decode cL_law 316 = .ok (.iload_n 3, 1) := by decide +kernel
theorem dL_law_317 : decode cL_law 317 = .ok (.iconst 1, 1) := by decide +kernel
theorem dL_law_318 : decode cL_law 318 = .ok (.iadd, 1) := by decide +kernel
theorem dL_law_319 : decode cL_law 319 = .ok (.iaload, 1) := by decide +kernel
theorem dL_law_320 : decode cL_law 320 = .ok (.aload_n 0, 1) := by decide +kernel
theorem dL_law_321 : decode cL_law 321 = .ok (.iload_n 3, 1) := by decide +kernel
theorem dL_law_322 : decode cL_law 322 = .ok (.iconst 2, 1) := by decide +kernel
theorem dL_law_323 : decode cL_law 323 = .ok (.iadd, 1) := by decide +kernel
theorem dL_law_324 : decode cL_law 324 = .ok (.iaload, 1) := by decide +kernel
theorem dL_law_325 : decode cL_law 325 = .ok (.invokevirtual 26, 3) := by decide +kernel
theorem dL_law_328 : decode cL_law 328 = .ok (.if_icmp .eq 1061, 3) := by decide +kernel
theorem dL_law_331 : decode cL_law 331 = .ok (.iconst 0, 1) := by decide +kernel
theorem dL_law_332 : decode cL_law 332 = .ok (.ireturn, 1) := by decide +kernel
theorem dL_law_333 : decode cL_law 333 = .ok (.aload_n 1, 1) := by decide +kernel
theorem dL_law_334 : decode cL_law 334 = .ok (.aload_n 0, 1) := by decide +kernel
theorem dL_law_335 : decode cL_law 335 = .ok (.iload_n 3, 1) := by decide +kernel
theorem dL_law_336 : decode cL_law 336 = .ok (.iconst 1, 1) := by decide +kernel
theorem dL_law_337 : decode cL_law 337 = .ok (.iadd, 1) := by decide +kernel
theorem dL_law_338 : decode cL_law 338 = .ok (.iaload, 1) := by decide +kernel
theorem dL_law_339 : decode cL_law 339 = .ok (.invokevirtual 27, 3) := by decide +kernel
theorem dL_law_342 : decode cL_law 342 = .ok (.aload_n 2, 1) := by decide +kernel
theorem dL_law_343 : decode cL_law 343 = .ok (.aload_n 0, 1) := by decide +kernel
theorem dL_law_344 : decode cL_law 344 = .ok (.iload_n 3, 1) := by decide +kernel
theorem dL_law_345 : decode cL_law 345 = .ok (.iconst 1, 1) := by decide +kernel
theorem dL_law_346 : decode cL_law 346 = .ok (.iadd, 1) := by decide +kernel
theorem dL_law_347 : decode cL_law 347 = .ok (.iaload, 1) := by decide +kernel
theorem dL_law_348 : decode cL_law 348 = .ok (.invokevirtual 31, 3) := by decide +kernel
theorem dL_law_351 : decode cL_law 351 = .ok (.if_icmp .eq 1038, 3) := by decide +kernel
theorem dL_law_354 : decode cL_law 354 = .ok (.iconst 0, 1) := by decide +kernel
theorem dL_law_355 : decode cL_law 355 = .ok (.ireturn, 1) := by decide +kernel
theorem dL_law_356 : decode cL_law 356 = .ok (.aload_n 1, 1) := by decide +kernel
theorem dL_law_357 : decode cL_law 357 = .ok (.aload_n 0, 1) := by decide +kernel
theorem dL_law_358 : decode cL_law 358 = .ok (.iload_n 3, 1) := by decide +kernel
theorem dL_law_359 : decode cL_law 359 = .ok (.iconst 1, 1) := by decide +kernel
theorem dL_law_360 : decode cL_law 360 = .ok (.iadd, 1) := by decide +kernel
theorem dL_law_361 : decode cL_law 361 = .ok (.iaload, 1) := by decide +kernel
theorem dL_law_362 : decode cL_law 362 = .ok (.aload_n 0, 1) := by decide +kernel
theorem dL_law_363 : decode cL_law 363 = .ok (.iload_n 3, 1) := by decide +kernel
theorem dL_law_364 : decode cL_law 364 = .ok (.iconst 2, 1) := by decide +kernel
theorem dL_law_365 : decode cL_law 365 = .ok (.iadd, 1) := by decide +kernel
theorem dL_law_366 : decode cL_law 366 = .ok (.iaload, 1) := by decide +kernel
theorem dL_law_367 : decode cL_law 367 = .ok (.aload_n 0, 1) := by decide +kernel
theorem dL_law_368 : decode cL_law 368 = .ok (.iload_n 3, 1) := by decide +kernel
theorem dL_law_369 : decode cL_law 369 = .ok (.iconst 3, 1) := by decide +kernel
theorem dL_law_370 : decode cL_law 370 = .ok (.iadd, 1) := by decide +kernel
theorem dL_law_371 : decode cL_law 371 = .ok (.iaload, 1) := by decide +kernel
theorem dL_law_372 : decode cL_law 372 = .ok (.aload_n 0, 1) := by decide +kernel
theorem dL_law_373 : decode cL_law 373 = .ok (.iload_n 3, 1) := by decide +kernel
theorem dL_law_374 : decode cL_law 374 = .ok (.iconst 4, 1) := by decide +kernel
theorem dL_law_375 : decode cL_law 375 = .ok (.iadd, 1) := by decide +kernel
theorem dL_law_376 : decode cL_law 376 = .ok (.iaload, 1) := by decide +kernel
theorem dL_law_377 : decode cL_law 377 = .ok (.aload_n 0, 1) := by decide +kernel
theorem dL_law_378 : decode cL_law 378 = .ok (.iload_n 3, 1) := by decide +kernel
theorem dL_law_379 : decode cL_law 379 = .ok (.iconst 5, 1) := by decide +kernel
theorem dL_law_380 : decode cL_law 380 = .ok (.iadd, 1) := by decide +kernel
theorem dL_law_381 : decode cL_law 381 = .ok (.iaload, 1) := by decide +kernel
theorem dL_law_382 : decode cL_law 382 = .ok (.invokevirtual 32, 3) := by decide +kernel
theorem dL_law_385 : decode cL_law 385 = .ok (.aload_n 2, 1) := by decide +kernel
theorem dL_law_386 : decode cL_law 386 = .ok (.aload_n 0, 1) := by decide +kernel
theorem dL_law_387 : decode cL_law 387 = .ok (.iload_n 3, 1) := by decide +kernel
theorem dL_law_388 : decode cL_law 388 = .ok (.iconst 1, 1) := by decide +kernel
theorem dL_law_389 : decode cL_law 389 = .ok (.iadd, 1) := by decide +kernel
theorem dL_law_390 : decode cL_law 390 = .ok (.iaload, 1) := by decide +kernel
theorem dL_law_391 : decode cL_law 391 = .ok (.aload_n 0, 1) := by decide +kernel
theorem dL_law_392 : decode cL_law 392 = .ok (.iload_n 3, 1) := by decide +kernel
theorem dL_law_393 : decode cL_law 393 = .ok (.iconst 2, 1) := by decide +kernel
theorem dL_law_394 : decode cL_law 394 = .ok (.iadd, 1) := by decide +kernel
theorem dL_law_395 : decode cL_law 395 = .ok (.iaload, 1) := by decide +kernel
theorem dL_law_396 : decode cL_law 396 = .ok (.aload_n 0, 1) := by decide +kernel
theorem dL_law_397 : decode cL_law 397 = .ok (.iload_n 3, 1) := by decide +kernel
theorem dL_law_398 : decode cL_law 398 = .ok (.iconst 3, 1) := by decide +kernel
theorem dL_law_399 : decode cL_law 399 = .ok (.iadd, 1) := by decide +kernel
theorem dL_law_400 : decode cL_law 400 = .ok (.iaload, 1) := by decide +kernel
theorem dL_law_401 : decode cL_law 401 = .ok (.aload_n 0, 1) := by decide +kernel
theorem dL_law_402 : decode cL_law 402 = .ok (.iload_n 3, 1) := by decide +kernel
theorem dL_law_403 : decode cL_law 403 = .ok (.iconst 4, 1) := by decide +kernel
theorem dL_law_404 : decode cL_law 404 = .ok (.iadd, 1) := by decide +kernel
theorem dL_law_405 : decode cL_law 405 = .ok (.iaload, 1) := by decide +kernel
theorem dL_law_406 : decode cL_law 406 = .ok (.aload_n 0, 1) := by decide +kernel
theorem dL_law_407 : decode cL_law 407 = .ok (.iload_n 3, 1) := by decide +kernel
theorem dL_law_408 : decode cL_law 408 = .ok (.iconst 5, 1) := by decide +kernel
theorem dL_law_409 : decode cL_law 409 = .ok (.iadd, 1) := by decide +kernel
theorem dL_law_410 : decode cL_law 410 = .ok (.iaload, 1) := by decide +kernel
theorem dL_law_411 : decode cL_law 411 = .ok (.invokevirtual 36, 3) := by decide +kernel
theorem dL_law_414 : decode cL_law 414 = .ok (.if_icmp .eq 975, 3) := by decide +kernel
theorem dL_law_417 : decode cL_law 417 = .ok (.iconst 0, 1) := by decide +kernel
theorem dL_law_418 : decode cL_law 418 = .ok (.ireturn, 1) := by decide +kernel
theorem dL_law_419 : decode cL_law 419 = .ok (.aload_n 1, 1) := by decide +kernel
theorem dL_law_420 : decode cL_law 420 = .ok (.aload_n 0, 1) := by decide +kernel
theorem dL_law_421 : decode cL_law 421 = .ok (.iload_n 3, 1) := by decide +kernel
theorem dL_law_422 : decode cL_law 422 = .ok (.iconst 1, 1) := by decide +kernel
theorem dL_law_423 : decode cL_law 423 = .ok (.iadd, 1) := by decide +kernel
theorem dL_law_424 : decode cL_law 424 = .ok (.iaload, 1) := by decide +kernel
theorem dL_law_425 : decode cL_law 425 = .ok (.invokevirtual 37, 3) := by decide +kernel
theorem dL_law_428 : decode cL_law 428 = .ok (.aload_n 2, 1) := by decide +kernel
theorem dL_law_429 : decode cL_law 429 = .ok (.aload_n 0, 1) := by decide +kernel
theorem dL_law_430 : decode cL_law 430 = .ok (.iload_n 3, 1) := by decide +kernel
theorem dL_law_431 : decode cL_law 431 = .ok (.iconst 1, 1) := by decide +kernel
theorem dL_law_432 : decode cL_law 432 = .ok (.iadd, 1) := by decide +kernel
theorem dL_law_433 : decode cL_law 433 = .ok (.iaload, 1) := by decide +kernel
theorem dL_law_434 : decode cL_law 434 = .ok (.invokevirtual 40, 3) := by decide +kernel
theorem dL_law_437 : decode cL_law 437 = .ok (.if_icmp .eq 952, 3) := by decide +kernel
theorem dL_law_440 : decode cL_law 440 = .ok (.iconst 0, 1) := by decide +kernel
theorem dL_law_441 : decode cL_law 441 = .ok (.ireturn, 1) := by decide +kernel
theorem dL_law_442 : decode cL_law 442 = .ok (.aload_n 1, 1) := by decide +kernel
theorem dL_law_443 : decode cL_law 443 = .ok (.aload_n 0, 1) := by decide +kernel
theorem dL_law_444 : decode cL_law 444 = .ok (.iload_n 3, 1) := by decide +kernel
theorem dL_law_445 : decode cL_law 445 = .ok (.iconst 1, 1) := by decide +kernel
theorem dL_law_446 : decode cL_law 446 = .ok (.iadd, 1) := by decide +kernel
theorem dL_law_447 : decode cL_law 447 = .ok (.iaload, 1) := by decide +kernel
theorem dL_law_448 : decode cL_law 448 = .ok (.aload_n 0, 1) := by decide +kernel
theorem dL_law_449 : decode cL_law 449 = .ok (.iload_n 3, 1) := by decide +kernel
theorem dL_law_450 : decode cL_law 450 = .ok (.iconst 2, 1) := by decide +kernel
theorem dL_law_451 : decode cL_law 451 = .ok (.iadd, 1) := by decide +kernel
theorem dL_law_452 : decode cL_law 452 = .ok (.iaload, 1) := by decide +kernel
theorem dL_law_453 : decode cL_law 453 = .ok (.invokevirtual 41, 3) := by decide +kernel
theorem dL_law_456 : decode cL_law 456 = .ok (.aload_n 2, 1) := by decide +kernel
theorem dL_law_457 : decode cL_law 457 = .ok (.aload_n 0, 1) := by decide +kernel
theorem dL_law_458 : decode cL_law 458 = .ok (.iload_n 3, 1) := by decide +kernel
theorem dL_law_459 : decode cL_law 459 = .ok (.iconst 1, 1) := by decide +kernel
theorem dL_law_460 : decode cL_law 460 = .ok (.iadd, 1) := by decide +kernel
theorem dL_law_461 : decode cL_law 461 = .ok (.iaload, 1) := by decide +kernel
theorem dL_law_462 : decode cL_law 462 = .ok (.aload_n 0, 1) := by decide +kernel
theorem dL_law_463 : decode cL_law 463 = .ok (.iload_n 3, 1) := by decide +kernel
theorem dL_law_464 : decode cL_law 464 = .ok (.iconst 2, 1) := by decide +kernel
theorem dL_law_465 : decode cL_law 465 = .ok (.iadd, 1) := by decide +kernel
theorem dL_law_466 : decode cL_law 466 = .ok (.iaload, 1) := by decide +kernel
theorem dL_law_467 : decode cL_law 467 = .ok (.invokevirtual 44, 3) := by decide +kernel
theorem dL_law_470 : decode cL_law 470 = .ok (.if_icmp .eq 919, 3) := by decide +kernel
theorem dL_law_473 : decode cL_law 473 = .ok (.iconst 0, 1) := by decide +kernel
theorem dL_law_474 : decode cL_law 474 = .ok (.ireturn, 1) := by decide +kernel
theorem dL_law_475 : decode cL_law 475 = .ok (.aload_n 1, 1) := by decide +kernel
theorem dL_law_476 : decode cL_law 476 = .ok (.aload_n 0, 1) := by decide +kernel
theorem dL_law_477 : decode cL_law 477 = .ok (.iload_n 3, 1) := by decide +kernel
theorem dL_law_478 : decode cL_law 478 = .ok (.iconst 1, 1) := by decide +kernel
theorem dL_law_479 : decode cL_law 479 = .ok (.iadd, 1) := by decide +kernel
theorem dL_law_480 : decode cL_law 480 = .ok (.iaload, 1) := by decide +kernel
theorem dL_law_481 : decode cL_law 481 = .ok (.aload_n 0, 1) := by decide +kernel
theorem dL_law_482 : decode cL_law 482 = .ok (.iload_n 3, 1) := by decide +kernel
theorem dL_law_483 : decode cL_law 483 = .ok (.iconst 2, 1) := by decide +kernel
theorem dL_law_484 : decode cL_law 484 = .ok (.iadd, 1) := by decide +kernel
theorem dL_law_485 : decode cL_law 485 = .ok (.iaload, 1) := by decide +kernel
theorem dL_law_486 : decode cL_law 486 = .ok (.aload_n 0, 1) := by decide +kernel
theorem dL_law_487 : decode cL_law 487 = .ok (.iload_n 3, 1) := by decide +kernel
theorem dL_law_488 : decode cL_law 488 = .ok (.iconst 3, 1) := by decide +kernel
theorem dL_law_489 : decode cL_law 489 = .ok (.iadd, 1) := by decide +kernel
theorem dL_law_490 : decode cL_law 490 = .ok (.iaload, 1) := by decide +kernel
theorem dL_law_491 : decode cL_law 491 = .ok (.invokevirtual 45, 3) := by decide +kernel
theorem dL_law_494 : decode cL_law 494 = .ok (.aload_n 2, 1) := by decide +kernel
theorem dL_law_495 : decode cL_law 495 = .ok (.aload_n 0, 1) := by decide +kernel
theorem dL_law_496 : decode cL_law 496 = .ok (.iload_n 3, 1) := by decide +kernel
theorem dL_law_497 : decode cL_law 497 = .ok (.iconst 1, 1) := by decide +kernel
theorem dL_law_498 : decode cL_law 498 = .ok (.iadd, 1) := by decide +kernel
theorem dL_law_499 : decode cL_law 499 = .ok (.iaload, 1) := by decide +kernel
theorem dL_law_500 : decode cL_law 500 = .ok (.aload_n 0, 1) := by decide +kernel
theorem dL_law_501 : decode cL_law 501 = .ok (.iload_n 3, 1) := by decide +kernel
theorem dL_law_502 : decode cL_law 502 = .ok (.iconst 2, 1) := by decide +kernel
theorem dL_law_503 : decode cL_law 503 = .ok (.iadd, 1) := by decide +kernel
theorem dL_law_504 : decode cL_law 504 = .ok (.iaload, 1) := by decide +kernel
theorem dL_law_505 : decode cL_law 505 = .ok (.aload_n 0, 1) := by decide +kernel
theorem dL_law_506 : decode cL_law 506 = .ok (.iload_n 3, 1) := by decide +kernel
theorem dL_law_507 : decode cL_law 507 = .ok (.iconst 3, 1) := by decide +kernel
theorem dL_law_508 : decode cL_law 508 = .ok (.iadd, 1) := by decide +kernel
theorem dL_law_509 : decode cL_law 509 = .ok (.iaload, 1) := by decide +kernel
theorem dL_law_510 : decode cL_law 510 = .ok (.invokevirtual 48, 3) := by decide +kernel
theorem dL_law_513 : decode cL_law 513 = .ok (.if_icmp .eq 876, 3) := by decide +kernel
theorem dL_law_516 : decode cL_law 516 = .ok (.iconst 0, 1) := by decide +kernel
theorem dL_law_517 : decode cL_law 517 = .ok (.ireturn, 1) := by decide +kernel
theorem dL_law_518 : decode cL_law 518 = .ok (.aload_n 1, 1) := by decide +kernel
theorem dL_law_519 : decode cL_law 519 = .ok (.aload_n 0, 1) := by decide +kernel
theorem dL_law_520 : decode cL_law 520 = .ok (.iload_n 3, 1) := by decide +kernel
theorem dL_law_521 : decode cL_law 521 = .ok (.iconst 1, 1) := by decide +kernel
theorem dL_law_522 : decode cL_law 522 = .ok (.iadd, 1) := by decide +kernel
theorem dL_law_523 : decode cL_law 523 = .ok (.iaload, 1) := by decide +kernel
theorem dL_law_524 : decode cL_law 524 = .ok (.invokevirtual 49, 3) := by decide +kernel
theorem dL_law_527 : decode cL_law 527 = .ok (.aload_n 2, 1) := by decide +kernel
theorem dL_law_528 : decode cL_law 528 = .ok (.aload_n 0, 1) := by decide +kernel
theorem dL_law_529 : decode cL_law 529 = .ok (.iload_n 3, 1) := by decide +kernel
theorem dL_law_530 : decode cL_law 530 = .ok (.iconst 1, 1) := by decide +kernel
theorem dL_law_531 : decode cL_law 531 = .ok (.iadd, 1) := by decide +kernel
theorem dL_law_532 : decode cL_law 532 = .ok (.iaload, 1) := by decide +kernel
theorem dL_law_533 : decode cL_law 533 = .ok (.invokevirtual 52, 3) := by decide +kernel
theorem dL_law_536 : decode cL_law 536 = .ok (.if_icmp .eq 853, 3) := by decide +kernel
theorem dL_law_539 : decode cL_law 539 = .ok (.iconst 0, 1) := by decide +kernel
theorem dL_law_540 : decode cL_law 540 = .ok (.ireturn, 1) := by decide +kernel
theorem dL_law_541 : decode cL_law 541 = .ok (.aload_n 1, 1) := by decide +kernel
theorem dL_law_542 : decode cL_law 542 = .ok (.aload_n 0, 1) := by decide +kernel
theorem dL_law_543 : decode cL_law 543 = .ok (.iload_n 3, 1) := by decide +kernel
theorem dL_law_544 : decode cL_law 544 = .ok (.iconst 1, 1) := by decide +kernel
theorem dL_law_545 : decode cL_law 545 = .ok (.iadd, 1) := by decide +kernel
theorem dL_law_546 : decode cL_law 546 = .ok (.iaload, 1) := by decide +kernel
theorem dL_law_547 : decode cL_law 547 = .ok (.invokevirtual 53, 3) := by decide +kernel
theorem dL_law_550 : decode cL_law 550 = .ok (.aload_n 2, 1) := by decide +kernel
theorem dL_law_551 : decode cL_law 551 = .ok (.aload_n 0, 1) := by decide +kernel
theorem dL_law_552 : decode cL_law 552 = .ok (.iload_n 3, 1) := by decide +kernel
theorem dL_law_553 : decode cL_law 553 = .ok (.iconst 1, 1) := by decide +kernel
theorem dL_law_554 : decode cL_law 554 = .ok (.iadd, 1) := by decide +kernel
theorem dL_law_555 : decode cL_law 555 = .ok (.iaload, 1) := by decide +kernel
theorem dL_law_556 : decode cL_law 556 = .ok (.invokevirtual 56, 3) := by decide +kernel
theorem dL_law_559 : decode cL_law 559 = .ok (.if_icmp .eq 830, 3) := by decide +kernel
theorem dL_law_562 : decode cL_law 562 = .ok (.iconst 0, 1) := by decide +kernel
theorem dL_law_563 : decode cL_law 563 = .ok (.ireturn, 1) := by decide +kernel
theorem dL_law_564 : decode cL_law 564 = .ok (.aload_n 1, 1) := by decide +kernel
theorem dL_law_565 : decode cL_law 565 = .ok (.aload_n 0, 1) := by decide +kernel
theorem dL_law_566 : decode cL_law 566 = .ok (.iload_n 3, 1) := by decide +kernel
theorem dL_law_567 : decode cL_law 567 = .ok (.iconst 1, 1) := by decide +kernel
theorem dL_law_568 : decode cL_law 568 = .ok (.iadd, 1) := by decide +kernel
theorem dL_law_569 : decode cL_law 569 = .ok (.iaload, 1) := by decide +kernel
theorem dL_law_570 : decode cL_law 570 = .ok (.aload_n 0, 1) := by decide +kernel
theorem dL_law_571 : decode cL_law 571 = .ok (.iload_n 3, 1) := by decide +kernel
theorem dL_law_572 : decode cL_law 572 = .ok (.iconst 2, 1) := by decide +kernel
theorem dL_law_573 : decode cL_law 573 = .ok (.iadd, 1) := by decide +kernel
theorem dL_law_574 : decode cL_law 574 = .ok (.iaload, 1) := by decide +kernel
theorem dL_law_575 : decode cL_law 575 = .ok (.invokevirtual 57, 3) := by decide +kernel
theorem dL_law_578 : decode cL_law 578 = .ok (.aload_n 2, 1) := by decide +kernel
theorem dL_law_579 : decode cL_law 579 = .ok (.aload_n 0, 1) := by decide +kernel
theorem dL_law_580 : decode cL_law 580 = .ok (.iload_n 3, 1) := by decide +kernel
theorem dL_law_581 : decode cL_law 581 = .ok (.iconst 1, 1) := by decide +kernel
theorem dL_law_582 : decode cL_law 582 = .ok (.iadd, 1) := by decide +kernel
theorem dL_law_583 : decode cL_law 583 = .ok (.iaload, 1) := by decide +kernel
theorem dL_law_584 : decode cL_law 584 = .ok (.aload_n 0, 1) := by decide +kernel
theorem dL_law_585 : decode cL_law 585 = .ok (.iload_n 3, 1) := by decide +kernel
theorem dL_law_586 : decode cL_law 586 = .ok (.iconst 2, 1) := by decide +kernel
theorem dL_law_587 : decode cL_law 587 = .ok (.iadd, 1) := by decide +kernel
theorem dL_law_588 : decode cL_law 588 = .ok (.iaload, 1) := by decide +kernel
theorem dL_law_589 : decode cL_law 589 = .ok (.invokevirtual 60, 3) := by decide +kernel
theorem dL_law_592 : decode cL_law 592 = .ok (.if_icmp .eq 797, 3) := by decide +kernel
theorem dL_law_595 : decode cL_law 595 = .ok (.iconst 0, 1) := by decide +kernel
theorem dL_law_596 : decode cL_law 596 = .ok (.ireturn, 1) := by decide +kernel
theorem dL_law_597 : decode cL_law 597 = .ok (.aload_n 1, 1) := by decide +kernel
theorem dL_law_598 : decode cL_law 598 = .ok (.aload_n 0, 1) := by decide +kernel
theorem dL_law_599 : decode cL_law 599 = .ok (.iload_n 3, 1) := by decide +kernel
theorem dL_law_600 : decode cL_law 600 = .ok (.iconst 1, 1) := by decide +kernel
theorem dL_law_601 : decode cL_law 601 = .ok (.iadd, 1) := by decide +kernel
theorem dL_law_602 : decode cL_law 602 = .ok (.iaload, 1) := by decide +kernel
theorem dL_law_603 : decode cL_law 603 = .ok (.aload_n 0, 1) := by decide +kernel
theorem dL_law_604 : decode cL_law 604 = .ok (.iload_n 3, 1) := by decide +kernel
theorem dL_law_605 : decode cL_law 605 = .ok (.iconst 2, 1) := by decide +kernel
theorem dL_law_606 : decode cL_law 606 = .ok (.iadd, 1) := by decide +kernel
theorem dL_law_607 : decode cL_law 607 = .ok (.iaload, 1) := by decide +kernel
theorem dL_law_608 : decode cL_law 608 = .ok (.invokevirtual 61, 3) := by decide +kernel
theorem dL_law_611 : decode cL_law 611 = .ok (.aload_n 2, 1) := by decide +kernel
theorem dL_law_612 : decode cL_law 612 = .ok (.aload_n 0, 1) := by decide +kernel
theorem dL_law_613 : decode cL_law 613 = .ok (.iload_n 3, 1) := by decide +kernel
theorem dL_law_614 : decode cL_law 614 = .ok (.iconst 1, 1) := by decide +kernel
theorem dL_law_615 : decode cL_law 615 = .ok (.iadd, 1) := by decide +kernel
theorem dL_law_616 : decode cL_law 616 = .ok (.iaload, 1) := by decide +kernel
theorem dL_law_617 : decode cL_law 617 = .ok (.aload_n 0, 1) := by decide +kernel
theorem dL_law_618 : decode cL_law 618 = .ok (.iload_n 3, 1) := by decide +kernel
theorem dL_law_619 : decode cL_law 619 = .ok (.iconst 2, 1) := by decide +kernel
theorem dL_law_620 : decode cL_law 620 = .ok (.iadd, 1) := by decide +kernel
theorem dL_law_621 : decode cL_law 621 = .ok (.iaload, 1) := by decide +kernel
theorem dL_law_622 : decode cL_law 622 = .ok (.invokevirtual 64, 3) := by decide +kernel
theorem dL_law_625 : decode cL_law 625 = .ok (.if_icmp .eq 764, 3) := by decide +kernel
theorem dL_law_628 : decode cL_law 628 = .ok (.iconst 0, 1) := by decide +kernel
theorem dL_law_629 : decode cL_law 629 = .ok (.ireturn, 1) := by decide +kernel
theorem dL_law_630 : decode cL_law 630 = .ok (.aload_n 1, 1) := by decide +kernel
theorem dL_law_631 : decode cL_law 631 = .ok (.aload_n 0, 1) := by decide +kernel
theorem dL_law_632 : decode cL_law 632 = .ok (.iload_n 3, 1) := by decide +kernel
theorem dL_law_633 : decode cL_law 633 = .ok (.iconst 1, 1) := by decide +kernel
theorem dL_law_634 : decode cL_law 634 = .ok (.iadd, 1) := by decide +kernel
theorem dL_law_635 : decode cL_law 635 = .ok (.iaload, 1) := by decide +kernel
theorem dL_law_636 : decode cL_law 636 = .ok (.aload_n 0, 1) := by decide +kernel
theorem dL_law_637 : decode cL_law 637 = .ok (.iload_n 3, 1) := by decide +kernel
theorem dL_law_638 : decode cL_law 638 = .ok (.iconst 2, 1) := by decide +kernel
theorem dL_law_639 : decode cL_law 639 = .ok (.iadd, 1) := by decide +kernel
theorem dL_law_640 : decode cL_law 640 = .ok (.iaload, 1) := by decide +kernel
theorem dL_law_641 : decode cL_law 641 = .ok (.invokevirtual 65, 3) := by decide +kernel
theorem dL_law_644 : decode cL_law 644 = .ok (.aload_n 2, 1) := by decide +kernel
theorem dL_law_645 : decode cL_law 645 = .ok (.aload_n 0, 1) := by decide +kernel
theorem dL_law_646 : decode cL_law 646 = .ok (.iload_n 3, 1) := by decide +kernel
theorem dL_law_647 : decode cL_law 647 = .ok (.iconst 1, 1) := by decide +kernel
theorem dL_law_648 : decode cL_law 648 = .ok (.iadd, 1) := by decide +kernel
theorem dL_law_649 : decode cL_law 649 = .ok (.iaload, 1) := by decide +kernel
theorem dL_law_650 : decode cL_law 650 = .ok (.aload_n 0, 1) := by decide +kernel
theorem dL_law_651 : decode cL_law 651 = .ok (.iload_n 3, 1) := by decide +kernel
theorem dL_law_652 : decode cL_law 652 = .ok (.iconst 2, 1) := by decide +kernel
theorem dL_law_653 : decode cL_law 653 = .ok (.iadd, 1) := by decide +kernel
theorem dL_law_654 : decode cL_law 654 = .ok (.iaload, 1) := by decide +kernel
theorem dL_law_655 : decode cL_law 655 = .ok (.invokevirtual 68, 3) := by decide +kernel
theorem dL_law_658 : decode cL_law 658 = .ok (.if_icmp .eq 731, 3) := by decide +kernel
theorem dL_law_661 : decode cL_law 661 = .ok (.iconst 0, 1) := by decide +kernel
theorem dL_law_662 : decode cL_law 662 = .ok (.ireturn, 1) := by decide +kernel
theorem dL_law_663 : decode cL_law 663 = .ok (.aload_n 1, 1) := by decide +kernel
theorem dL_law_664 : decode cL_law 664 = .ok (.aload_n 0, 1) := by decide +kernel
theorem dL_law_665 : decode cL_law 665 = .ok (.iload_n 3, 1) := by decide +kernel
theorem dL_law_666 : decode cL_law 666 = .ok (.iconst 1, 1) := by decide +kernel
theorem dL_law_667 : decode cL_law 667 = .ok (.iadd, 1) := by decide +kernel
theorem dL_law_668 : decode cL_law 668 = .ok (.iaload, 1) := by decide +kernel
theorem dL_law_669 : decode cL_law 669 = .ok (.aload_n 0, 1) := by decide +kernel
theorem dL_law_670 : decode cL_law 670 = .ok (.iload_n 3, 1) := by decide +kernel
theorem dL_law_671 : decode cL_law 671 = .ok (.iconst 2, 1) := by decide +kernel
theorem dL_law_672 : decode cL_law 672 = .ok (.iadd, 1) := by decide +kernel
theorem dL_law_673 : decode cL_law 673 = .ok (.iaload, 1) := by decide +kernel
theorem dL_law_674 : decode cL_law 674 = .ok (.invokevirtual 69, 3) := by decide +kernel
theorem dL_law_677 : decode cL_law 677 = .ok (.aload_n 2, 1) := by decide +kernel
theorem dL_law_678 : decode cL_law 678 = .ok (.aload_n 0, 1) := by decide +kernel
theorem dL_law_679 : decode cL_law 679 = .ok (.iload_n 3, 1) := by decide +kernel
theorem dL_law_680 : decode cL_law 680 = .ok (.iconst 1, 1) := by decide +kernel
theorem dL_law_681 : decode cL_law 681 = .ok (.iadd, 1) := by decide +kernel
theorem dL_law_682 : decode cL_law 682 = .ok (.iaload, 1) := by decide +kernel
theorem dL_law_683 : decode cL_law 683 = .ok (.aload_n 0, 1) := by decide +kernel
theorem dL_law_684 : decode cL_law 684 = .ok (.iload_n 3, 1) := by decide +kernel
theorem dL_law_685 : decode cL_law 685 = .ok (.iconst 2, 1) := by decide +kernel
theorem dL_law_686 : decode cL_law 686 = .ok (.iadd, 1) := by decide +kernel
theorem dL_law_687 : decode cL_law 687 = .ok (.iaload, 1) := by decide +kernel
theorem dL_law_688 : decode cL_law 688 = .ok (.invokevirtual 72, 3) := by decide +kernel
theorem dL_law_691 : decode cL_law 691 = .ok (.if_icmp .eq 698, 3) := by decide +kernel
theorem dL_law_694 : decode cL_law 694 = .ok (.iconst 0, 1) := by decide +kernel
theorem dL_law_695 : decode cL_law 695 = .ok (.ireturn, 1) := by decide +kernel
theorem dL_law_696 : decode cL_law 696 = .ok (.aload_n 1, 1) := by decide +kernel
theorem dL_law_697 : decode cL_law 697 = .ok (.aload_n 0, 1) := by decide +kernel
theorem dL_law_698 : decode cL_law 698 = .ok (.iload_n 3, 1) := by decide +kernel
theorem dL_law_699 : decode cL_law 699 = .ok (.iconst 1, 1) := by decide +kernel
theorem dL_law_700 : decode cL_law 700 = .ok (.iadd, 1) := by decide +kernel
theorem dL_law_701 : decode cL_law 701 = .ok (.iaload, 1) := by decide +kernel
theorem dL_law_702 : decode cL_law 702 = .ok (.invokevirtual 73, 3) := by decide +kernel
theorem dL_law_705 : decode cL_law 705 = .ok (.aload_n 2, 1) := by decide +kernel
theorem dL_law_706 : decode cL_law 706 = .ok (.aload_n 0, 1) := by decide +kernel
theorem dL_law_707 : decode cL_law 707 = .ok (.iload_n 3, 1) := by decide +kernel
theorem dL_law_708 : decode cL_law 708 = .ok (.iconst 1, 1) := by decide +kernel
theorem dL_law_709 : decode cL_law 709 = .ok (.iadd, 1) := by decide +kernel
theorem dL_law_710 : decode cL_law 710 = .ok (.iaload, 1) := by decide +kernel
theorem dL_law_711 : decode cL_law 711 = .ok (.invokevirtual 76, 3) := by decide +kernel
theorem dL_law_714 : decode cL_law 714 = .ok (.if_icmp .eq 675, 3) := by decide +kernel
theorem dL_law_717 : decode cL_law 717 = .ok (.iconst 0, 1) := by decide +kernel
theorem dL_law_718 : decode cL_law 718 = .ok (.ireturn, 1) := by decide +kernel
theorem dL_law_719 : decode cL_law 719 = .ok (.aload_n 1, 1) := by decide +kernel
theorem dL_law_720 : decode cL_law 720 = .ok (.aload_n 0, 1) := by decide +kernel
theorem dL_law_721 : decode cL_law 721 = .ok (.iload_n 3, 1) := by decide +kernel
theorem dL_law_722 : decode cL_law 722 = .ok (.iconst 1, 1) := by decide +kernel
theorem dL_law_723 : decode cL_law 723 = .ok (.iadd, 1) := by decide +kernel
theorem dL_law_724 : decode cL_law 724 = .ok (.iaload, 1) := by decide +kernel
theorem dL_law_725 : decode cL_law 725 = .ok (.invokevirtual 77, 3) := by decide +kernel
theorem dL_law_728 : decode cL_law 728 = .ok (.aload_n 2, 1) := by decide +kernel
theorem dL_law_729 : decode cL_law 729 = .ok (.aload_n 0, 1) := by decide +kernel
theorem dL_law_730 : decode cL_law 730 = .ok (.iload_n 3, 1) := by decide +kernel
theorem dL_law_731 : decode cL_law 731 = .ok (.iconst 1, 1) := by decide +kernel
theorem dL_law_732 : decode cL_law 732 = .ok (.iadd, 1) := by decide +kernel
theorem dL_law_733 : decode cL_law 733 = .ok (.iaload, 1) := by decide +kernel
theorem dL_law_734 : decode cL_law 734 = .ok (.invokevirtual 80, 3) := by decide +kernel
theorem dL_law_737 : decode cL_law 737 = .ok (.if_icmp .eq 652, 3) := by decide +kernel
theorem dL_law_740 : decode cL_law 740 = .ok (.iconst 0, 1) := by decide +kernel
theorem dL_law_741 : decode cL_law 741 = .ok (.ireturn, 1) := by decide +kernel
theorem dL_law_742 : decode cL_law 742 = .ok (.aload_n 1, 1) := by decide +kernel
theorem dL_law_743 : decode cL_law 743 = .ok (.aload_n 0, 1) := by decide +kernel
theorem dL_law_744 : decode cL_law 744 = .ok (.iload_n 3, 1) := by decide +kernel
theorem dL_law_745 : decode cL_law 745 = .ok (.iconst 1, 1) := by decide +kernel
theorem dL_law_746 : decode cL_law 746 = .ok (.iadd, 1) := by decide +kernel
theorem dL_law_747 : decode cL_law 747 = .ok (.iaload, 1) := by decide +kernel
theorem dL_law_748 : decode cL_law 748 = .ok (.invokevirtual 81, 3) := by decide +kernel
theorem dL_law_751 : decode cL_law 751 = .ok (.aload_n 2, 1) := by decide +kernel
theorem dL_law_752 : decode cL_law 752 = .ok (.aload_n 0, 1) := by decide +kernel
theorem dL_law_753 : decode cL_law 753 = .ok (.iload_n 3, 1) := by decide +kernel
theorem dL_law_754 : decode cL_law 754 = .ok (.iconst 1, 1) := by decide +kernel
theorem dL_law_755 : decode cL_law 755 = .ok (.iadd, 1) := by decide +kernel
theorem dL_law_756 : decode cL_law 756 = .ok (.iaload, 1) := by decide +kernel
theorem dL_law_757 : decode cL_law 757 = .ok (.invokevirtual 84, 3) := by decide +kernel
theorem dL_law_760 : decode cL_law 760 = .ok (.if_icmp .eq 629, 3) := by decide +kernel
theorem dL_law_763 : decode cL_law 763 = .ok (.iconst 0, 1) := by decide +kernel
theorem dL_law_764 : decode cL_law 764 = .ok (.ireturn, 1) := by decide +kernel
theorem dL_law_765 : decode cL_law 765 = .ok (.aload_n 1, 1) := by decide +kernel
theorem dL_law_766 : decode cL_law 766 = .ok (.aload_n 0, 1) := by decide +kernel
theorem dL_law_767 : decode cL_law 767 = .ok (.iload_n 3, 1) := by decide +kernel
theorem dL_law_768 : decode cL_law 768 = .ok (.iconst 1, 1) := by decide +kernel
theorem dL_law_769 : decode cL_law 769 = .ok (.iadd, 1) := by decide +kernel
theorem dL_law_770 : decode cL_law 770 = .ok (.iaload, 1) := by decide +kernel
theorem dL_law_771 : decode cL_law 771 = .ok (.invokevirtual 85, 3) := by decide +kernel
theorem dL_law_774 : decode cL_law 774 = .ok (.aload_n 2, 1) := by decide +kernel
theorem dL_law_775 : decode cL_law 775 = .ok (.aload_n 0, 1) := by decide +kernel
theorem dL_law_776 : decode cL_law 776 = .ok (.iload_n 3, 1) := by decide +kernel
theorem dL_law_777 : decode cL_law 777 = .ok (.iconst 1, 1) := by decide +kernel
theorem dL_law_778 : decode cL_law 778 = .ok (.iadd, 1) := by decide +kernel
theorem dL_law_779 : decode cL_law 779 = .ok (.iaload, 1) := by decide +kernel
theorem dL_law_780 : decode cL_law 780 = .ok (.invokevirtual 88, 3) := by decide +kernel
theorem dL_law_783 : decode cL_law 783 = .ok (.if_icmp .eq 606, 3) := by decide +kernel
theorem dL_law_786 : decode cL_law 786 = .ok (.iconst 0, 1) := by decide +kernel
theorem dL_law_787 : decode cL_law 787 = .ok (.ireturn, 1) := by decide +kernel
theorem dL_law_788 : decode cL_law 788 = .ok (.aload_n 1, 1) := by decide +kernel
theorem dL_law_789 : decode cL_law 789 = .ok (.aload_n 0, 1) := by decide +kernel
theorem dL_law_790 : decode cL_law 790 = .ok (.iload_n 3, 1) := by decide +kernel
theorem dL_law_791 : decode cL_law 791 = .ok (.iconst 1, 1) := by decide +kernel
theorem dL_law_792 : decode cL_law 792 = .ok (.iadd, 1) := by decide +kernel
theorem dL_law_793 : decode cL_law 793 = .ok (.iaload, 1) := by decide +kernel
theorem dL_law_794 : decode cL_law 794 = .ok (.invokevirtual 89, 3) := by decide +kernel
theorem dL_law_797 : decode cL_law 797 = .ok (.aload_n 2, 1) := by decide +kernel
theorem dL_law_798 : decode cL_law 798 = .ok (.aload_n 0, 1) := by decide +kernel
theorem dL_law_799 : decode cL_law 799 = .ok (.iload_n 3, 1) := by decide +kernel
theorem dL_law_800 : decode cL_law 800 = .ok (.iconst 1, 1) := by decide +kernel
theorem dL_law_801 : decode cL_law 801 = .ok (.iadd, 1) := by decide +kernel
theorem dL_law_802 : decode cL_law 802 = .ok (.iaload, 1) := by decide +kernel
theorem dL_law_803 : decode cL_law 803 = .ok (.invokevirtual 92, 3) := by decide +kernel
theorem dL_law_806 : decode cL_law 806 = .ok (.if_icmp .eq 583, 3) := by decide +kernel
theorem dL_law_809 : decode cL_law 809 = .ok (.iconst 0, 1) := by decide +kernel
theorem dL_law_810 : decode cL_law 810 = .ok (.ireturn, 1) := by decide +kernel
theorem dL_law_811 : decode cL_law 811 = .ok (.aload_n 1, 1) := by decide +kernel
theorem dL_law_812 : decode cL_law 812 = .ok (.invokevirtual 93, 3) := by decide +kernel
theorem dL_law_815 : decode cL_law 815 = .ok (.aload_n 2, 1) := by decide +kernel
theorem dL_law_816 : decode cL_law 816 = .ok (.invokevirtual 97, 3) := by decide +kernel
theorem dL_law_819 : decode cL_law 819 = .ok (.if_icmp .eq 570, 3) := by decide +kernel
theorem dL_law_822 : decode cL_law 822 = .ok (.iconst 0, 1) := by decide +kernel
theorem dL_law_823 : decode cL_law 823 = .ok (.ireturn, 1) := by decide +kernel
theorem dL_law_824 : decode cL_law 824 = .ok (.aload_n 1, 1) := by decide +kernel
theorem dL_law_825 : decode cL_law 825 = .ok (.aload_n 0, 1) := by decide +kernel
theorem dL_law_826 : decode cL_law 826 = .ok (.iload_n 3, 1) := by decide +kernel
theorem dL_law_827 : decode cL_law 827 = .ok (.iconst 1, 1) := by decide +kernel
theorem dL_law_828 : decode cL_law 828 = .ok (.iadd, 1) := by decide +kernel
theorem dL_law_829 : decode cL_law 829 = .ok (.iaload, 1) := by decide +kernel
theorem dL_law_830 : decode cL_law 830 = .ok (.aload_n 0, 1) := by decide +kernel
theorem dL_law_831 : decode cL_law 831 = .ok (.iload_n 3, 1) := by decide +kernel
theorem dL_law_832 : decode cL_law 832 = .ok (.iconst 2, 1) := by decide +kernel
theorem dL_law_833 : decode cL_law 833 = .ok (.iadd, 1) := by decide +kernel
theorem dL_law_834 : decode cL_law 834 = .ok (.iaload, 1) := by decide +kernel
theorem dL_law_835 : decode cL_law 835 = .ok (.invokevirtual 98, 3) := by decide +kernel
theorem dL_law_838 : decode cL_law 838 = .ok (.aload_n 2, 1) := by decide +kernel
theorem dL_law_839 : decode cL_law 839 = .ok (.aload_n 0, 1) := by decide +kernel
theorem dL_law_840 : decode cL_law 840 = .ok (.iload_n 3, 1) := by decide +kernel
theorem dL_law_841 : decode cL_law 841 = .ok (.iconst 1, 1) := by decide +kernel
theorem dL_law_842 : decode cL_law 842 = .ok (.iadd, 1) := by decide +kernel
theorem dL_law_843 : decode cL_law 843 = .ok (.iaload, 1) := by decide +kernel
theorem dL_law_844 : decode cL_law 844 = .ok (.aload_n 0, 1) := by decide +kernel
theorem dL_law_845 : decode cL_law 845 = .ok (.iload_n 3, 1) := by decide +kernel
theorem dL_law_846 : decode cL_law 846 = .ok (.iconst 2, 1) := by decide +kernel
theorem dL_law_847 : decode cL_law 847 = .ok (.iadd, 1) := by decide +kernel
theorem dL_law_848 : decode cL_law 848 = .ok (.iaload, 1) := by decide +kernel
theorem dL_law_849 : decode cL_law 849 = .ok (.invokevirtual 101, 3) := by decide +kernel
theorem dL_law_852 : decode cL_law 852 = .ok (.if_icmp .eq 537, 3) := by decide +kernel
theorem dL_law_855 : decode cL_law 855 = .ok (.iconst 0, 1) := by decide +kernel
theorem dL_law_856 : decode cL_law 856 = .ok (.ireturn, 1) := by decide +kernel
theorem dL_law_857 : decode cL_law 857 = .ok (.aload_n 1, 1) := by decide +kernel
theorem dL_law_858 : decode cL_law 858 = .ok (.invokevirtual 102, 3) := by decide +kernel
theorem dL_law_861 : decode cL_law 861 = .ok (.aload_n 2, 1) := by decide +kernel
theorem dL_law_862 : decode cL_law 862 = .ok (.invokevirtual 105, 3) := by decide +kernel
theorem dL_law_865 : decode cL_law 865 = .ok (.if_icmp .eq 524, 3) := by decide +kernel
theorem dL_law_868 : decode cL_law 868 = .ok (.iconst 0, 1) := by decide +kernel
theorem dL_law_869 : decode cL_law 869 = .ok (.ireturn, 1) := by decide +kernel
theorem dL_law_870 : decode cL_law 870 = .ok (.aload_n 1, 1) := by decide +kernel
theorem dL_law_871 : decode cL_law 871 = .ok (.aload_n 0, 1) := by decide +kernel
theorem dL_law_872 : decode cL_law 872 = .ok (.iload_n 3, 1) := by decide +kernel
theorem dL_law_873 : decode cL_law 873 = .ok (.iconst 1, 1) := by decide +kernel
theorem dL_law_874 : decode cL_law 874 = .ok (.iadd, 1) := by decide +kernel
theorem dL_law_875 : decode cL_law 875 = .ok (.iaload, 1) := by decide +kernel
theorem dL_law_876 : decode cL_law 876 = .ok (.aload_n 0, 1) := by decide +kernel
theorem dL_law_877 : decode cL_law 877 = .ok (.iload_n 3, 1) := by decide +kernel
theorem dL_law_878 : decode cL_law 878 = .ok (.iconst 2, 1) := by decide +kernel
theorem dL_law_879 : decode cL_law 879 = .ok (.iadd, 1) := by decide +kernel
theorem dL_law_880 : decode cL_law 880 = .ok (.iaload, 1) := by decide +kernel
theorem dL_law_881 : decode cL_law 881 = .ok (.invokevirtual 106, 3) := by decide +kernel
theorem dL_law_884 : decode cL_law 884 = .ok (.aload_n 2, 1) := by decide +kernel
theorem dL_law_885 : decode cL_law 885 = .ok (.aload_n 0, 1) := by decide +kernel
theorem dL_law_886 : decode cL_law 886 = .ok (.iload_n 3, 1) := by decide +kernel
theorem dL_law_887 : decode cL_law 887 = .ok (.iconst 1, 1) := by decide +kernel
theorem dL_law_888 : decode cL_law 888 = .ok (.iadd, 1) := by decide +kernel
theorem dL_law_889 : decode cL_law 889 = .ok (.iaload, 1) := by decide +kernel
theorem dL_law_890 : decode cL_law 890 = .ok (.aload_n 0, 1) := by decide +kernel
theorem dL_law_891 : decode cL_law 891 = .ok (.iload_n 3, 1) := by decide +kernel
theorem dL_law_892 : decode cL_law 892 = .ok (.iconst 2, 1) := by decide +kernel
theorem dL_law_893 : decode cL_law 893 = .ok (.iadd, 1) := by decide +kernel
theorem dL_law_894 : decode cL_law 894 = .ok (.iaload, 1) := by decide +kernel
theorem dL_law_895 : decode cL_law 895 = .ok (.invokevirtual 109, 3) := by decide +kernel
theorem dL_law_898 : decode cL_law 898 = .ok (.if_icmp .eq 491, 3) := by decide +kernel
theorem dL_law_901 : decode cL_law 901 = .ok (.iconst 0, 1) := by decide +kernel
theorem dL_law_902 : decode cL_law 902 = .ok (.ireturn, 1) := by decide +kernel
theorem dL_law_903 : decode cL_law 903 = .ok (.aload_n 1, 1) := by decide +kernel
theorem dL_law_904 : decode cL_law 904 = .ok (.invokevirtual 110, 3) := by decide +kernel
theorem dL_law_907 : decode cL_law 907 = .ok (.aload_n 2, 1) := by decide +kernel
theorem dL_law_908 : decode cL_law 908 = .ok (.invokevirtual 113, 3) := by decide +kernel
theorem dL_law_911 : decode cL_law 911 = .ok (.if_icmp .eq 478, 3) := by decide +kernel
theorem dL_law_914 : decode cL_law 914 = .ok (.iconst 0, 1) := by decide +kernel
theorem dL_law_915 : decode cL_law 915 = .ok (.ireturn, 1) := by decide +kernel
theorem dL_law_916 : decode cL_law 916 = .ok (.aload_n 1, 1) := by decide +kernel
theorem dL_law_917 : decode cL_law 917 = .ok (.aload_n 0, 1) := by decide +kernel
theorem dL_law_918 : decode cL_law 918 = .ok (.iload_n 3, 1) := by decide +kernel
theorem dL_law_919 : decode cL_law 919 = .ok (.iconst 1, 1) := by decide +kernel
theorem dL_law_920 : decode cL_law 920 = .ok (.iadd, 1) := by decide +kernel
theorem dL_law_921 : decode cL_law 921 = .ok (.iaload, 1) := by decide +kernel
theorem dL_law_922 : decode cL_law 922 = .ok (.invokevirtual 114, 3) := by decide +kernel
theorem dL_law_925 : decode cL_law 925 = .ok (.aload_n 2, 1) := by decide +kernel
theorem dL_law_926 : decode cL_law 926 = .ok (.aload_n 0, 1) := by decide +kernel
theorem dL_law_927 : decode cL_law 927 = .ok (.iload_n 3, 1) := by decide +kernel
theorem dL_law_928 : decode cL_law 928 = .ok (.iconst 1, 1) := by decide +kernel
theorem dL_law_929 : decode cL_law 929 = .ok (.iadd, 1) := by decide +kernel
theorem dL_law_930 : decode cL_law 930 = .ok (.iaload, 1) := by decide +kernel
theorem dL_law_931 : decode cL_law 931 = .ok (.invokevirtual 117, 3) := by decide +kernel
theorem dL_law_934 : decode cL_law 934 = .ok (.if_icmp .eq 455, 3) := by decide +kernel
theorem dL_law_937 : decode cL_law 937 = .ok (.iconst 0, 1) := by decide +kernel
theorem dL_law_938 : decode cL_law 938 = .ok (.ireturn, 1) := by decide +kernel
theorem dL_law_939 : decode cL_law 939 = .ok (.aload_n 1, 1) := by decide +kernel
theorem dL_law_940 : decode cL_law 940 = .ok (.aload_n 0, 1) := by decide +kernel
theorem dL_law_941 : decode cL_law 941 = .ok (.iload_n 3, 1) := by decide +kernel
theorem dL_law_942 : decode cL_law 942 = .ok (.iconst 1, 1) := by decide +kernel
theorem dL_law_943 : decode cL_law 943 = .ok (.iadd, 1) := by decide +kernel
theorem dL_law_944 : decode cL_law 944 = .ok (.iaload, 1) := by decide +kernel
theorem dL_law_945 : decode cL_law 945 = .ok (.invokevirtual 118, 3) := by decide +kernel
theorem dL_law_948 : decode cL_law 948 = .ok (.aload_n 2, 1) := by decide +kernel
theorem dL_law_949 : decode cL_law 949 = .ok (.aload_n 0, 1) := by decide +kernel
theorem dL_law_950 : decode cL_law 950 = .ok (.iload_n 3, 1) := by decide +kernel
theorem dL_law_951 : decode cL_law 951 = .ok (.iconst 1, 1) := by decide +kernel
theorem dL_law_952 : decode cL_law 952 = .ok (.iadd, 1) := by decide +kernel
theorem dL_law_953 : decode cL_law 953 = .ok (.iaload, 1) := by decide +kernel
theorem dL_law_954 : decode cL_law 954 = .ok (.invokevirtual 121, 3) := by decide +kernel
theorem dL_law_957 : decode cL_law 957 = .ok (.if_icmp .eq 432, 3) := by decide +kernel
theorem dL_law_960 : decode cL_law 960 = .ok (.iconst 0, 1) := by decide +kernel
theorem dL_law_961 : decode cL_law 961 = .ok (.ireturn, 1) := by decide +kernel
theorem dL_law_962 : decode cL_law 962 = .ok (.aload_n 1, 1) := by decide +kernel
theorem dL_law_963 : decode cL_law 963 = .ok (.invokevirtual 122, 3) := by decide +kernel
theorem dL_law_966 : decode cL_law 966 = .ok (.aload_n 2, 1) := by decide +kernel
theorem dL_law_967 : decode cL_law 967 = .ok (.invokevirtual 125, 3) := by decide +kernel
theorem dL_law_970 : decode cL_law 970 = .ok (.if_icmp .eq 419, 3) := by decide +kernel
theorem dL_law_973 : decode cL_law 973 = .ok (.iconst 0, 1) := by decide +kernel
theorem dL_law_974 : decode cL_law 974 = .ok (.ireturn, 1) := by decide +kernel
theorem dL_law_975 : decode cL_law 975 = .ok (.aload_n 1, 1) := by decide +kernel
theorem dL_law_976 : decode cL_law 976 = .ok (.aload_n 0, 1) := by decide +kernel
theorem dL_law_977 : decode cL_law 977 = .ok (.iload_n 3, 1) := by decide +kernel
theorem dL_law_978 : decode cL_law 978 = .ok (.iconst 1, 1) := by decide +kernel
theorem dL_law_979 : decode cL_law 979 = .ok (.iadd, 1) := by decide +kernel
theorem dL_law_980 : decode cL_law 980 = .ok (.iaload, 1) := by decide +kernel
theorem dL_law_981 : decode cL_law 981 = .ok (.aload_n 0, 1) := by decide +kernel
theorem dL_law_982 : decode cL_law 982 = .ok (.iload_n 3, 1) := by decide +kernel
theorem dL_law_983 : decode cL_law 983 = .ok (.iconst 2, 1) := by decide +kernel
theorem dL_law_984 : decode cL_law 984 = .ok (.iadd, 1) := by decide +kernel
theorem dL_law_985 : decode cL_law 985 = .ok (.iaload, 1) := by decide +kernel
theorem dL_law_986 : decode cL_law 986 = .ok (.invokevirtual 126, 3) := by decide +kernel
theorem dL_law_989 : decode cL_law 989 = .ok (.aload_n 2, 1) := by decide +kernel
theorem dL_law_990 : decode cL_law 990 = .ok (.aload_n 0, 1) := by decide +kernel
theorem dL_law_991 : decode cL_law 991 = .ok (.iload_n 3, 1) := by decide +kernel
theorem dL_law_992 : decode cL_law 992 = .ok (.iconst 1, 1) := by decide +kernel
theorem dL_law_993 : decode cL_law 993 = .ok (.iadd, 1) := by decide +kernel
theorem dL_law_994 : decode cL_law 994 = .ok (.iaload, 1) := by decide +kernel
theorem dL_law_995 : decode cL_law 995 = .ok (.aload_n 0, 1) := by decide +kernel
theorem dL_law_996 : decode cL_law 996 = .ok (.iload_n 3, 1) := by decide +kernel
theorem dL_law_997 : decode cL_law 997 = .ok (.iconst 2, 1) := by decide +kernel
theorem dL_law_998 : decode cL_law 998 = .ok (.iadd, 1) := by decide +kernel
theorem dL_law_999 : decode cL_law 999 = .ok (.iaload, 1) := by decide +kernel
theorem dL_law_1000 : decode cL_law 1000 = .ok (.invokevirtual 129, 3) := by decide +kernel
theorem dL_law_1003 : decode cL_law 1003 = .ok (.if_icmp .eq 386, 3) := by decide +kernel
theorem dL_law_1006 : decode cL_law 1006 = .ok (.iconst 0, 1) := by decide +kernel
theorem dL_law_1007 : decode cL_law 1007 = .ok (.ireturn, 1) := by decide +kernel
theorem dL_law_1008 : decode cL_law 1008 = .ok (.aload_n 1, 1) := by decide +kernel
theorem dL_law_1009 : decode cL_law 1009 = .ok (.aload_n 0, 1) := by decide +kernel
theorem dL_law_1010 : decode cL_law 1010 = .ok (.iload_n 3, 1) := by decide +kernel
theorem dL_law_1011 : decode cL_law 1011 = .ok (.iconst 1, 1) := by decide +kernel
theorem dL_law_1012 : decode cL_law 1012 = .ok (.iadd, 1) := by decide +kernel
theorem dL_law_1013 : decode cL_law 1013 = .ok (.iaload, 1) := by decide +kernel
theorem dL_law_1014 : decode cL_law 1014 = .ok (.invokevirtual 130, 3) := by decide +kernel
theorem dL_law_1017 : decode cL_law 1017 = .ok (.aload_n 2, 1) := by decide +kernel
theorem dL_law_1018 : decode cL_law 1018 = .ok (.aload_n 0, 1) := by decide +kernel
theorem dL_law_1019 : decode cL_law 1019 = .ok (.iload_n 3, 1) := by decide +kernel
theorem dL_law_1020 : decode cL_law 1020 = .ok (.iconst 1, 1) := by decide +kernel
theorem dL_law_1021 : decode cL_law 1021 = .ok (.iadd, 1) := by decide +kernel
theorem dL_law_1022 : decode cL_law 1022 = .ok (.iaload, 1) := by decide +kernel
theorem dL_law_1023 : decode cL_law 1023 = .ok (.invokevirtual 133, 3) := by decide +kernel
theorem dL_law_1026 : decode cL_law 1026 = .ok (.if_icmp .eq 363, 3) := by decide +kernel
theorem dL_law_1029 : decode cL_law 1029 = .ok (.iconst 0, 1) := by decide +kernel
theorem dL_law_1030 : decode cL_law 1030 = .ok (.ireturn, 1) := by decide +kernel
theorem dL_law_1031 : decode cL_law 1031 = .ok (.aload_n 1, 1) := by decide +kernel
theorem dL_law_1032 : decode cL_law 1032 = .ok (.aload_n 0, 1) := by decide +kernel
theorem dL_law_1033 : decode cL_law 1033 = .ok (.iload_n 3, 1) := by decide +kernel
theorem dL_law_1034 : decode cL_law 1034 = .ok (.iconst 1, 1) := by decide +kernel
theorem dL_law_1035 : decode cL_law 1035 = .ok (.iadd, 1) := by decide +kernel
theorem dL_law_1036 : decode cL_law 1036 = .ok (.iaload, 1) := by decide +kernel
theorem dL_law_1037 : decode cL_law 1037 = .ok (.invokevirtual 134, 3) := by decide +kernel
theorem dL_law_1040 : decode cL_law 1040 = .ok (.aload_n 2, 1) := by decide +kernel
theorem dL_law_1041 : decode cL_law 1041 = .ok (.aload_n 0, 1) := by decide +kernel
theorem dL_law_1042 : decode cL_law 1042 = .ok (.iload_n 3, 1) := by decide +kernel
theorem dL_law_1043 : decode cL_law 1043 = .ok (.iconst 1, 1) := by decide +kernel
theorem dL_law_1044 : decode cL_law 1044 = .ok (.iadd, 1) := by decide +kernel
theorem dL_law_1045 : decode cL_law 1045 = .ok (.iaload, 1) := by decide +kernel
theorem dL_law_1046 : decode cL_law 1046 = .ok (.invokevirtual 137, 3) := by decide +kernel
theorem dL_law_1049 : decode cL_law 1049 = .ok (.if_icmp .eq 340, 3) := by decide +kernel
theorem dL_law_1052 : decode cL_law 1052 = .ok (.iconst 0, 1) := by decide +kernel
theorem dL_law_1053 : decode cL_law 1053 = .ok (.ireturn, 1) := by decide +kernel
theorem dL_law_1054 : decode cL_law 1054 = .ok (.aload_n 1, 1) := by decide +kernel
theorem dL_law_1055 : decode cL_law 1055 = .ok (.aload_n 0, 1) := by decide +kernel
theorem dL_law_1056 : decode cL_law 1056 = .ok (.iload_n 3, 1) := by decide +kernel
theorem dL_law_1057 : decode cL_law 1057 = .ok (.iconst 1, 1) := by decide +kernel
theorem dL_law_1058 : decode cL_law 1058 = .ok (.iadd, 1) := by decide +kernel
theorem dL_law_1059 : decode cL_law 1059 = .ok (.iaload, 1) := by decide +kernel
theorem dL_law_1060 : decode cL_law 1060 = .ok (.invokevirtual 138, 3) := by decide +kernel
theorem dL_law_1063 : decode cL_law 1063 = .ok (.aload_n 2, 1) := by decide +kernel
theorem dL_law_1064 : decode cL_law 1064 = .ok (.aload_n 0, 1) := by decide +kernel
theorem dL_law_1065 : decode cL_law 1065 = .ok (.iload_n 3, 1) := by decide +kernel
theorem dL_law_1066 : decode cL_law 1066 = .ok (.iconst 1, 1) := by decide +kernel
theorem dL_law_1067 : decode cL_law 1067 = .ok (.iadd, 1) := by decide +kernel
theorem dL_law_1068 : decode cL_law 1068 = .ok (.iaload, 1) := by decide +kernel
theorem dL_law_1069 : decode cL_law 1069 = .ok (.invokevirtual 141, 3) := by decide +kernel
theorem dL_law_1072 : decode cL_law 1072 = .ok (.if_icmp .eq 317, 3) := by decide +kernel
theorem dL_law_1075 : decode cL_law 1075 = .ok (.iconst 0, 1) := by decide +kernel
theorem dL_law_1076 : decode cL_law 1076 = .ok (.ireturn, 1) := by decide +kernel
theorem dL_law_1077 : decode cL_law 1077 = .ok (.aload_n 1, 1) := by decide +kernel
theorem dL_law_1078 : decode cL_law 1078 = .ok (.aload_n 0, 1) := by decide +kernel
theorem dL_law_1079 : decode cL_law 1079 = .ok (.iload_n 3, 1) := by decide +kernel
theorem dL_law_1080 : decode cL_law 1080 = .ok (.iconst 1, 1) := by decide +kernel
theorem dL_law_1081 : decode cL_law 1081 = .ok (.iadd, 1) := by decide +kernel
theorem dL_law_1082 : decode cL_law 1082 = .ok (.iaload, 1) := by decide +kernel
theorem dL_law_1083 : decode cL_law 1083 = .ok (.invokevirtual 142, 3) := by decide +kernel
theorem dL_law_1086 : decode cL_law 1086 = .ok (.aload_n 2, 1) := by decide +kernel
theorem dL_law_1087 : decode cL_law 1087 = .ok (.aload_n 0, 1) := by decide +kernel
theorem dL_law_1088 : decode cL_law 1088 = .ok (.iload_n 3, 1) := by decide +kernel
theorem dL_law_1089 : decode cL_law 1089 = .ok (.iconst 1, 1) := by decide +kernel
theorem dL_law_1090 : decode cL_law 1090 = .ok (.iadd, 1) := by decide +kernel
theorem dL_law_1091 : decode cL_law 1091 = .ok (.iaload, 1) := by decide +kernel
theorem dL_law_1092 : decode cL_law 1092 = .ok (.invokevirtual 145, 3) := by decide +kernel
theorem dL_law_1095 : decode cL_law 1095 = .ok (.if_icmp .eq 294, 3) := by decide +kernel
theorem dL_law_1098 : decode cL_law 1098 = .ok (.iconst 0, 1) := by decide +kernel
theorem dL_law_1099 : decode cL_law 1099 = .ok (.ireturn, 1) := by decide +kernel
theorem dL_law_1100 : decode cL_law 1100 = .ok (.aload_n 1, 1) := by decide +kernel
theorem dL_law_1101 : decode cL_law 1101 = .ok (.aload_n 0, 1) := by decide +kernel
theorem dL_law_1102 : decode cL_law 1102 = .ok (.iload_n 3, 1) := by decide +kernel
theorem dL_law_1103 : decode cL_law 1103 = .ok (.iconst 1, 1) := by decide +kernel
theorem dL_law_1104 : decode cL_law 1104 = .ok (.iadd, 1) := by decide +kernel
theorem dL_law_1105 : decode cL_law 1105 = .ok (.iaload, 1) := by decide +kernel
theorem dL_law_1106 : decode cL_law 1106 = .ok (.aload_n 0, 1) := by decide +kernel
theorem dL_law_1107 : decode cL_law 1107 = .ok (.iload_n 3, 1) := by decide +kernel
theorem dL_law_1108 : decode cL_law 1108 = .ok (.iconst 2, 1) := by decide +kernel
theorem dL_law_1109 : decode cL_law 1109 = .ok (.iadd, 1) := by decide +kernel
theorem dL_law_1110 : decode cL_law 1110 = .ok (.iaload, 1) := by decide +kernel
theorem dL_law_1111 : decode cL_law 1111 = .ok (.invokevirtual 146, 3) := by decide +kernel
theorem dL_law_1114 : decode cL_law 1114 = .ok (.aload_n 2, 1) := by decide +kernel
theorem dL_law_1115 : decode cL_law 1115 = .ok (.aload_n 0, 1) := by decide +kernel
theorem dL_law_1116 : decode cL_law 1116 = .ok (.iload_n 3, 1) := by decide +kernel
theorem dL_law_1117 : decode cL_law 1117 = .ok (.iconst 1, 1) := by decide +kernel
theorem dL_law_1118 : decode cL_law 1118 = .ok (.iadd, 1) := by decide +kernel
theorem dL_law_1119 : decode cL_law 1119 = .ok (.iaload, 1) := by decide +kernel
theorem dL_law_1120 : decode cL_law 1120 = .ok (.aload_n 0, 1) := by decide +kernel
theorem dL_law_1121 : decode cL_law 1121 = .ok (.iload_n 3, 1) := by decide +kernel
theorem dL_law_1122 : decode cL_law 1122 = .ok (.iconst 2, 1) := by decide +kernel
theorem dL_law_1123 : decode cL_law 1123 = .ok (.iadd, 1) := by decide +kernel
theorem dL_law_1124 : decode cL_law 1124 = .ok (.iaload, 1) := by decide +kernel
theorem dL_law_1125 : decode cL_law 1125 = .ok (.invokevirtual 149, 3) := by decide +kernel
theorem dL_law_1128 : decode cL_law 1128 = .ok (.if_icmp .eq 261, 3) := by decide +kernel
theorem dL_law_1131 : decode cL_law 1131 = .ok (.iconst 0, 1) := by decide +kernel
theorem dL_law_1132 : decode cL_law 1132 = .ok (.ireturn, 1) := by decide +kernel
theorem dL_law_1133 : decode cL_law 1133 = .ok (.aload_n 1, 1) := by decide +kernel
theorem dL_law_1134 : decode cL_law 1134 = .ok (.aload_n 0, 1) := by decide +kernel
theorem dL_law_1135 : decode cL_law 1135 = .ok (.iload_n 3, 1) := by decide +kernel
theorem dL_law_1136 : decode cL_law 1136 = .ok (.iconst 1, 1) := by decide +kernel
theorem dL_law_1137 : decode cL_law 1137 = .ok (.iadd, 1) := by decide +kernel
theorem dL_law_1138 : decode cL_law 1138 = .ok (.iaload, 1) := by decide +kernel
theorem dL_law_1139 : decode cL_law 1139 = .ok (.aload_n 0, 1) := by decide +kernel
theorem dL_law_1140 : decode cL_law 1140 = .ok (.iload_n 3, 1) := by decide +kernel
theorem dL_law_1141 : decode cL_law 1141 = .ok (.iconst 2, 1) := by decide +kernel
theorem dL_law_1142 : decode cL_law 1142 = .ok (.iadd, 1) := by decide +kernel
theorem dL_law_1143 : decode cL_law 1143 = .ok (.iaload, 1) := by decide +kernel
theorem dL_law_1144 : decode cL_law 1144 = .ok (.aload_n 0, 1) := by decide +kernel
theorem dL_law_1145 : decode cL_law 1145 = .ok (.iload_n 3, 1) := by decide +kernel
theorem dL_law_1146 : decode cL_law 1146 = .ok (.iconst 3, 1) := by decide +kernel
theorem dL_law_1147 : decode cL_law 1147 = .ok (.iadd, 1) := by decide +kernel
theorem dL_law_1148 : decode cL_law 1148 = .ok (.iaload, 1) := by decide +kernel
theorem dL_law_1149 : decode cL_law 1149 = .ok (.invokevirtual 150, 3) := by decide +kernel
theorem dL_law_1152 : decode cL_law 1152 = .ok (.aload_n 2, 1) := by decide +kernel
theorem dL_law_1153 : decode cL_law 1153 = .ok (.aload_n 0, 1) := by decide +kernel
theorem dL_law_1154 : decode cL_law 1154 = .ok (.iload_n 3, 1) := by decide +kernel
theorem dL_law_1155 : decode cL_law 1155 = .ok (.iconst 1, 1) := by decide +kernel
theorem dL_law_1156 : decode cL_law 1156 = .ok (.iadd, 1) := by decide +kernel
theorem dL_law_1157 : decode cL_law 1157 = .ok (.iaload, 1) := by decide +kernel
theorem dL_law_1158 : decode cL_law 1158 = .ok (.aload_n 0, 1) := by decide +kernel
theorem dL_law_1159 : decode cL_law 1159 = .ok (.iload_n 3, 1) := by decide +kernel
theorem dL_law_1160 : decode cL_law 1160 = .ok (.iconst 2, 1) := by decide +kernel
theorem dL_law_1161 : decode cL_law 1161 = .ok (.iadd, 1) := by decide +kernel
theorem dL_law_1162 : decode cL_law 1162 = .ok (.iaload, 1) := by decide +kernel
theorem dL_law_1163 : decode cL_law 1163 = .ok (.aload_n 0, 1) := by decide +kernel
theorem dL_law_1164 : decode cL_law 1164 = .ok (.iload_n 3, 1) := by decide +kernel
theorem dL_law_1165 : decode cL_law 1165 = .ok (.iconst 3, 1) := by decide +kernel
theorem dL_law_1166 : decode cL_law 1166 = .ok (.iadd, 1) := by decide +kernel
theorem dL_law_1167 : decode cL_law 1167 = .ok (.iaload, 1) := by decide +kernel
theorem dL_law_1168 : decode cL_law 1168 = .ok (.invokevirtual 153, 3) := by decide +kernel
theorem dL_law_1171 : decode cL_law 1171 = .ok (.if_icmp .eq 218, 3) := by decide +kernel
theorem dL_law_1174 : decode cL_law 1174 = .ok (.iconst 0, 1) := by decide +kernel
theorem dL_law_1175 : decode cL_law 1175 = .ok (.ireturn, 1) := by decide +kernel
theorem dL_law_1176 : decode cL_law 1176 = .ok (.aload_n 1, 1) := by decide +kernel
theorem dL_law_1177 : decode cL_law 1177 = .ok (.aload_n 0, 1) := by decide +kernel
theorem dL_law_1178 : decode cL_law 1178 = .ok (.iload_n 3, 1) := by decide +kernel
theorem dL_law_1179 : decode cL_law 1179 = .ok (.iconst 1, 1) := by decide +kernel
theorem dL_law_1180 : decode cL_law 1180 = .ok (.iadd, 1) := by decide +kernel
theorem dL_law_1181 : decode cL_law 1181 = .ok (.iaload, 1) := by decide +kernel
theorem dL_law_1182 : decode cL_law 1182 = .ok (.aload_n 0, 1) := by decide +kernel
theorem dL_law_1183 : decode cL_law 1183 = .ok (.iload_n 3, 1) := by decide +kernel
theorem dL_law_1184 : decode cL_law 1184 = .ok (.iconst 2, 1) := by decide +kernel
theorem dL_law_1185 : decode cL_law 1185 = .ok (.iadd, 1) := by decide +kernel
theorem dL_law_1186 : decode cL_law 1186 = .ok (.iaload, 1) := by decide +kernel
theorem dL_law_1187 : decode cL_law 1187 = .ok (.invokevirtual 154, 3) := by decide +kernel
theorem dL_law_1190 : decode cL_law 1190 = .ok (.aload_n 2, 1) := by decide +kernel
theorem dL_law_1191 : decode cL_law 1191 = .ok (.aload_n 0, 1) := by decide +kernel
theorem dL_law_1192 : decode cL_law 1192 = .ok (.iload_n 3, 1) := by decide +kernel
theorem dL_law_1193 : decode cL_law 1193 = .ok (.iconst 1, 1) := by decide +kernel
theorem dL_law_1194 : decode cL_law 1194 = .ok (.iadd, 1) := by decide +kernel
theorem dL_law_1195 : decode cL_law 1195 = .ok (.iaload, 1) := by decide +kernel
theorem dL_law_1196 : decode cL_law 1196 = .ok (.aload_n 0, 1) := by decide +kernel
theorem dL_law_1197 : decode cL_law 1197 = .ok (.iload_n 3, 1) := by decide +kernel
theorem dL_law_1198 : decode cL_law 1198 = .ok (.iconst 2, 1) := by decide +kernel
theorem dL_law_1199 : decode cL_law 1199 = .ok (.iadd, 1) := by decide +kernel
theorem dL_law_1200 : decode cL_law 1200 = .ok (.iaload, 1) := by decide +kernel
theorem dL_law_1201 : decode cL_law 1201 = .ok (.invokevirtual 157, 3) := by decide +kernel
theorem dL_law_1204 : decode cL_law 1204 = .ok (.if_icmp .eq 185, 3) := by decide +kernel
theorem dL_law_1207 : decode cL_law 1207 = .ok (.iconst 0, 1) := by decide +kernel
theorem dL_law_1208 : decode cL_law 1208 = .ok (.ireturn, 1) := by decide +kernel
theorem dL_law_1209 : decode cL_law 1209 = .ok (.aload_n 1, 1) := by decide +kernel
theorem dL_law_1210 : decode cL_law 1210 = .ok (.aload_n 0, 1) := by decide +kernel
theorem dL_law_1211 : decode cL_law 1211 = .ok (.iload_n 3, 1) := by decide +kernel
theorem dL_law_1212 : decode cL_law 1212 = .ok (.iconst 1, 1) := by decide +kernel
theorem dL_law_1213 : decode cL_law 1213 = .ok (.iadd, 1) := by decide +kernel
theorem dL_law_1214 : decode cL_law 1214 = .ok (.iaload, 1) := by decide +kernel
theorem dL_law_1215 : decode cL_law 1215 = .ok (.aload_n 0, 1) := by decide +kernel
theorem dL_law_1216 : decode cL_law 1216 = .ok (.iload_n 3, 1) := by decide +kernel
theorem dL_law_1217 : decode cL_law 1217 = .ok (.iconst 2, 1) := by decide +kernel
theorem dL_law_1218 : decode cL_law 1218 = .ok (.iadd, 1) := by decide +kernel
theorem dL_law_1219 : decode cL_law 1219 = .ok (.iaload, 1) := by decide +kernel
theorem dL_law_1220 : decode cL_law 1220 = .ok (.invokevirtual 158, 3) := by decide +kernel
theorem dL_law_1223 : decode cL_law 1223 = .ok (.aload_n 2, 1) := by decide +kernel
theorem dL_law_1224 : decode cL_law 1224 = .ok (.aload_n 0, 1) := by decide +kernel
theorem dL_law_1225 : decode cL_law 1225 = .ok (.iload_n 3, 1) := by decide +kernel
theorem dL_law_1226 : decode cL_law 1226 = .ok (.iconst 1, 1) := by decide +kernel
theorem dL_law_1227 : decode cL_law 1227 = .ok (.iadd, 1) := by decide +kernel
theorem dL_law_1228 : decode cL_law 1228 = .ok (.iaload, 1) := by decide +kernel
theorem dL_law_1229 : decode cL_law 1229 = .ok (.aload_n 0, 1) := by decide +kernel
theorem dL_law_1230 : decode cL_law 1230 = .ok (.iload_n 3, 1) := by decide +kernel
theorem dL_law_1231 : decode cL_law 1231 = .ok (.iconst 2, 1) := by decide +kernel
theorem dL_law_1232 : decode cL_law 1232 = .ok (.iadd, 1) := by decide +kernel
theorem dL_law_1233 : decode cL_law 1233 = .ok (.iaload, 1) := by decide +kernel
theorem dL_law_1234 : decode cL_law 1234 = .ok (.invokevirtual 161, 3) := by decide +kernel
theorem dL_law_1237 : decode cL_law 1237 = .ok (.if_icmp .eq 152, 3) := by decide +kernel
theorem dL_law_1240 : decode cL_law 1240 = .ok (.iconst 0, 1) := by decide +kernel
theorem dL_law_1241 : decode cL_law 1241 = .ok (.ireturn, 1) := by decide +kernel
theorem dL_law_1242 : decode cL_law 1242 = .ok (.aload_n 1, 1) := by decide +kernel
theorem dL_law_1243 : decode cL_law 1243 = .ok (.aload_n 0, 1) := by decide +kernel
theorem dL_law_1244 : decode cL_law 1244 = .ok (.iload_n 3, 1) := by decide +kernel
theorem dL_law_1245 : decode cL_law 1245 = .ok (.iconst 1, 1) := by decide +kernel
theorem dL_law_1246 : decode cL_law 1246 = .ok (.iadd, 1) := by decide +kernel
theorem dL_law_1247 : decode cL_law 1247 = .ok (.iaload, 1) := by decide +kernel
theorem dL_law_1248 : decode cL_law 1248 = .ok (.aload_n 0, 1) := by decide +kernel
theorem dL_law_1249 : decode cL_law 1249 = .ok (.iload_n 3, 1) := by decide +kernel
theorem dL_law_1250 : decode cL_law 1250 = .ok (.iconst 2, 1) := by decide +kernel
theorem dL_law_1251 : decode cL_law 1251 = .ok (.iadd, 1) := by decide +kernel
theorem dL_law_1252 : decode cL_law 1252 = .ok (.iaload, 1) := by decide +kernel
theorem dL_law_1253 : decode cL_law 1253 = .ok (.invokevirtual 162, 3) := by decide +kernel
theorem dL_law_1256 : decode cL_law 1256 = .ok (.aload_n 2, 1) := by decide +kernel
theorem dL_law_1257 : decode cL_law 1257 = .ok (.aload_n 0, 1) := by decide +kernel
theorem dL_law_1258 : decode cL_law 1258 = .ok (.iload_n 3, 1) := by decide +kernel
theorem dL_law_1259 : decode cL_law 1259 = .ok (.iconst 1, 1) := by decide +kernel
theorem dL_law_1260 : decode cL_law 1260 = .ok (.iadd, 1) := by decide +kernel
theorem dL_law_1261 : decode cL_law 1261 = .ok (.iaload, 1) := by decide +kernel
theorem dL_law_1262 : decode cL_law 1262 = .ok (.aload_n 0, 1) := by decide +kernel
theorem dL_law_1263 : decode cL_law 1263 = .ok (.iload_n 3, 1) := by decide +kernel
theorem dL_law_1264 : decode cL_law 1264 = .ok (.iconst 2, 1) := by decide +kernel
theorem dL_law_1265 : decode cL_law 1265 = .ok (.iadd, 1) := by decide +kernel
theorem dL_law_1266 : decode cL_law 1266 = .ok (.iaload, 1) := by decide +kernel
theorem dL_law_1267 : decode cL_law 1267 = .ok (.invokevirtual 165, 3) := by decide +kernel
theorem dL_law_1270 : decode cL_law 1270 = .ok (.if_icmp .eq 119, 3) := by decide +kernel
theorem dL_law_1273 : decode cL_law 1273 = .ok (.iconst 0, 1) := by decide +kernel
theorem dL_law_1274 : decode cL_law 1274 = .ok (.ireturn, 1) := by decide +kernel
theorem dL_law_1275 : decode cL_law 1275 = .ok (.aload_n 1, 1) := by decide +kernel
theorem dL_law_1276 : decode cL_law 1276 = .ok (.invokevirtual 166, 3) := by decide +kernel
theorem dL_law_1279 : decode cL_law 1279 = .ok (.aload_n 2, 1) := by decide +kernel
theorem dL_law_1280 : decode cL_law 1280 = .ok (.invokevirtual 169, 3) := by decide +kernel
theorem dL_law_1283 : decode cL_law 1283 = .ok (.if_icmp .eq 106, 3) := by decide +kernel
theorem dL_law_1286 : decode cL_law 1286 = .ok (.iconst 0, 1) := by decide +kernel
theorem dL_law_1287 : decode cL_law 1287 = .ok (.ireturn, 1) := by decide +kernel
theorem dL_law_1288 : decode cL_law 1288 = .ok (.aload_n 1, 1) := by decide +kernel
theorem dL_law_1289 : decode cL_law 1289 = .ok (.invokevirtual 170, 3) := by decide +kernel
theorem dL_law_1292 : decode cL_law 1292 = .ok (.aload_n 2, 1) := by decide +kernel
theorem dL_law_1293 : decode cL_law 1293 = .ok (.invokevirtual 174, 3) := by decide +kernel
theorem dL_law_1296 : decode cL_law 1296 = .ok (.lcmp, 1) := by decide +kernel
theorem dL_law_1297 : decode cL_law 1297 = .ok (.ifCond .eq 92, 3) := by decide +kernel
theorem dL_law_1300 : decode cL_law 1300 = .ok (.iconst 0, 1) := by decide +kernel
theorem dL_law_1301 : decode cL_law 1301 = .ok (.ireturn, 1) := by decide +kernel
theorem dL_law_1302 : decode cL_law 1302 = .ok (.aload_n 1, 1) := by decide +kernel
theorem dL_law_1303 : decode cL_law 1303 = .ok (.invokevirtual 175, 3) := by decide +kernel
theorem dL_law_1306 : decode cL_law 1306 = .ok (.aload_n 2, 1) := by decide +kernel
theorem dL_law_1307 : decode cL_law 1307 = .ok (.invokevirtual 178, 3) := by decide +kernel
theorem dL_law_1310 : decode cL_law 1310 = .ok (.lcmp, 1) := by decide +kernel
theorem dL_law_1311 : decode cL_law 1311 = .ok (.ifCond .eq 78, 3) := by decide +kernel
theorem dL_law_1314 : decode cL_law 1314 = .ok (.iconst 0, 1) := by decide +kernel
theorem dL_law_1315 : decode cL_law 1315 = .ok (.ireturn, 1) := by decide +kernel
theorem dL_law_1316 : decode cL_law 1316 = .ok (.aload_n 1, 1) := by decide +kernel
theorem dL_law_1317 : decode cL_law 1317 = .ok (.aload_n 0, 1) := by decide +kernel
theorem dL_law_1318 : decode cL_law 1318 = .ok (.iload_n 3, 1) := by decide +kernel
theorem dL_law_1319 : decode cL_law 1319 = .ok (.iconst 1, 1) := by decide +kernel
theorem dL_law_1320 : decode cL_law 1320 = .ok (.iadd, 1) := by decide +kernel
theorem dL_law_1321 : decode cL_law 1321 = .ok (.iaload, 1) := by decide +kernel
theorem dL_law_1322 : decode cL_law 1322 = .ok (.invokevirtual 179, 3) := by decide +kernel
theorem dL_law_1325 : decode cL_law 1325 = .ok (.aload_n 2, 1) := by decide +kernel
theorem dL_law_1326 : decode cL_law 1326 = .ok (.aload_n 0, 1) := by decide +kernel
theorem dL_law_1327 : decode cL_law 1327 = .ok (.iload_n 3, 1) := by decide +kernel
theorem dL_law_1328 : decode cL_law 1328 = .ok (.iconst 1, 1) := by decide +kernel
theorem dL_law_1329 : decode cL_law 1329 = .ok (.iadd, 1) := by decide +kernel
theorem dL_law_1330 : decode cL_law 1330 = .ok (.iaload, 1) := by decide +kernel
theorem dL_law_1331 : decode cL_law 1331 = .ok (.invokevirtual 182, 3) := by decide +kernel
theorem dL_law_1334 : decode cL_law 1334 = .ok (.if_icmp .eq 55, 3) := by decide +kernel
theorem dL_law_1337 : decode cL_law 1337 = .ok (.iconst 0, 1) := by decide +kernel
theorem dL_law_1338 : decode cL_law 1338 = .ok (.ireturn, 1) := by decide +kernel
theorem dL_law_1339 : decode cL_law 1339 = .ok (.aload_n 1, 1) := by decide +kernel
theorem dL_law_1340 : decode cL_law 1340 = .ok (.invokevirtual 183, 3) := by decide +kernel
theorem dL_law_1343 : decode cL_law 1343 = .ok (.aload_n 2, 1) := by decide +kernel
theorem dL_law_1344 : decode cL_law 1344 = .ok (.invokevirtual 186, 3) := by decide +kernel
theorem dL_law_1347 : decode cL_law 1347 = .ok (.if_icmp .eq 42, 3) := by decide +kernel
theorem dL_law_1350 : decode cL_law 1350 = .ok (.iconst 0, 1) := by decide +kernel
theorem dL_law_1351 : decode cL_law 1351 = .ok (.ireturn, 1) := by decide +kernel
theorem dL_law_1352 : decode cL_law 1352 = .ok (.aload_n 1, 1) := by decide +kernel
theorem dL_law_1353 : decode cL_law 1353 = .ok (.aload_n 0, 1) := by decide +kernel
theorem dL_law_1354 : decode cL_law 1354 = .ok (.iload_n 3, 1) := by decide +kernel
theorem dL_law_1355 : decode cL_law 1355 = .ok (.iconst 1, 1) := by decide +kernel
theorem dL_law_1356 : decode cL_law 1356 = .ok (.iadd, 1) := by decide +kernel
theorem dL_law_1357 : decode cL_law 1357 = .ok (.iaload, 1) := by decide +kernel
theorem dL_law_1358 : decode cL_law 1358 = .ok (.invokevirtual 187, 3) := by decide +kernel
theorem dL_law_1361 : decode cL_law 1361 = .ok (.aload_n 2, 1) := by decide +kernel
theorem dL_law_1362 : decode cL_law 1362 = .ok (.aload_n 0, 1) := by decide +kernel
theorem dL_law_1363 : decode cL_law 1363 = .ok (.iload_n 3, 1) := by decide +kernel
theorem dL_law_1364 : decode cL_law 1364 = .ok (.iconst 1, 1) := by decide +kernel
theorem dL_law_1365 : decode cL_law 1365 = .ok (.iadd, 1) := by decide +kernel
theorem dL_law_1366 : decode cL_law 1366 = .ok (.iaload, 1) := by decide +kernel
theorem dL_law_1367 : decode cL_law 1367 = .ok (.invokevirtual 190, 3) := by decide +kernel
theorem dL_law_1370 : decode cL_law 1370 = .ok (.if_icmp .eq 19, 3) := by decide +kernel
theorem dL_law_1373 : decode cL_law 1373 = .ok (.iconst 0, 1) := by decide +kernel
theorem dL_law_1374 : decode cL_law 1374 = .ok (.ireturn, 1) := by decide +kernel
theorem dL_law_1375 : decode cL_law 1375 = .ok (.aload_n 1, 1) := by decide +kernel
theorem dL_law_1376 : decode cL_law 1376 = .ok (.invokevirtual 191, 3) := by decide +kernel
theorem dL_law_1379 : decode cL_law 1379 = .ok (.aload_n 2, 1) := by decide +kernel
theorem dL_law_1380 : decode cL_law 1380 = .ok (.invokevirtual 194, 3) := by decide +kernel
theorem dL_law_1383 : decode cL_law 1383 = .ok (.lcmp, 1) := by decide +kernel
theorem dL_law_1384 : decode cL_law 1384 = .ok (.ifCond .eq 5, 3) := by decide +kernel
theorem dL_law_1387 : decode cL_law 1387 = .ok (.iconst 0, 1) := by decide +kernel
theorem dL_law_1388 : decode cL_law 1388 = .ok (.ireturn, 1) := by decide +kernel
theorem dL_law_1389 : decode cL_law 1389 = .ok (.iinc 3 6, 3) := by decide +kernel
theorem dL_law_1392 : decode cL_law 1392 = .ok (.goto (-1374), 3) := by decide +kernel
theorem dL_law_1395 : decode cL_law 1395 = .ok (.iconst 1, 1) := by decide +kernel
theorem dL_law_1396 : decode cL_law 1396 = .ok (.ireturn, 1) := by decide +kernel
end
section
/-! THE LAYER (my own): a pure world (function from small addresses to cells), values with whole numbers, and a judgement over it. -/
abbrev q_E : Type := (Nat × vp_A) ⊕ (Nat × List Value)
abbrev q_W : Type := Nat → Option q_E
/-- an int, a long, by a whole number -/
def q_i (z : Int) : Value := .int (Int32.ofInt z)
def q_l (z : Int) : Value := .long (Int64.ofInt z)
/-- arrays: of ints, of longs, of references (kind k) -/
def q_ia (n : Nat) (f : Int → Int) : q_E := .inl (0, n, .inl (fun j => Int32.ofInt (f (j : Int))))
def q_la (n : Nat) (f : Int → Int) : q_E := .inl (1, n, .inr (.inl (fun j => Int64.ofInt (f (j : Int)))))
def q_ra (k n : Nat) (f : Int → Option Nat) : q_E := .inl (k, n, .inr (.inr (.inr (.inr (fun j => f (j : Int))))))
def q_ob (c : Nat) (fs : List Value) : q_E := .inr (c, fs)
def q_up (w : q_W) (a : Nat) (c : q_E) : q_W := fun x => if x = a then some c else w x
def q_us {α : Type} (f : Int → α) (i : Int) (v : α) : Int → α := fun j => if j = i then v else f j
theorem q_up_s (w : q_W) (a : Nat) (c : q_E) : q_up w a c a = some c := if_pos rfl
theorem q_up_n {w : q_W} {a b : Nat} {c : q_E} (h : b ≠ a) : q_up w a c b = w b := if_neg h
theorem q_up_up (w : q_W) (a : Nat) (c d : q_E) : q_up (q_up w a c) a d = q_up w a d := by
  funext x
  unfold q_up
  split <;> rfl
theorem q_up_id {w : q_W} {a : Nat} {c : q_E} (h : w a = some c) : q_up w a c = w := by
  funext x
  unfold q_up
  split
  · rename_i e
    rw [e, h]
  · rfl
theorem q_up_comm (w : q_W) {a b : Nat} (c d : q_E) (h : a ≠ b) : q_up (q_up w a c) b d = q_up (q_up w b d) a c := by
  funext x
  unfold q_up
  by_cases h1 : x = a
  · subst h1
    rw [if_neg h, if_pos rfl, if_pos rfl]
  · by_cases h2 : x = b
    · subst h2
      rw [if_pos rfl, if_neg h1, if_pos rfl]
    · rw [if_neg h2, if_neg h1, if_neg h1, if_neg h2]
theorem q_us_s {α : Type} (f : Int → α) (i : Int) (v : α) : q_us f i v i = v := if_pos rfl
theorem q_us_n {α : Type} {f : Int → α} {i j : Int} {v : α} (h : j ≠ i) : q_us f i v j = f j := if_neg h
def q_dom (w : q_W) (n : Nat) : Prop := ∀ a, w a ≠ none ↔ a < n
theorem q_dom.lt {w : q_W} {n a : Nat} {c : q_E} (h : q_dom w n) (ha : w a = some c) : a < n := (h a).mp (by rw [ha]; exact Option.some_ne_none c)
theorem q_dom.up {w : q_W} {n a : Nat} (c : q_E) (h : q_dom w n) (ha : a < n) : q_dom (q_up w a c) n := by
  intro x
  unfold q_up
  by_cases e : x = a
  · rw [if_pos e, e]
    exact ⟨fun _ => ha, fun _ => Option.some_ne_none c⟩
  · rw [if_neg e]
    exact h x
theorem q_dom.push {w : q_W} {n : Nat} (c : q_E) (h : q_dom w n) : q_dom (q_up w n c) (n + 1) := by
  intro x
  unfold q_up
  by_cases e : x = n
  · rw [if_pos e, e]
    exact ⟨fun _ => Nat.lt_succ_self n, fun _ => Option.some_ne_none c⟩
  · rw [if_neg e, h x]
    omega
theorem q_dom.none {w : q_W} {n : Nat} (h : q_dom w n) : w n = none := Classical.byContradiction fun e => Nat.lt_irrefl n ((h n).mp e)
/-- the real value, the real cell, the real list of cells -/
def q_v (b : Nat) : Value → Value
  | .ref a => .ref (b + a)
  | v => v
def q_arr (b : Nat) : vp_A → vp_A
  | (n, .inr (.inr (.inr (.inr f)))) => (n, .inr (.inr (.inr (.inr (fun j => (f j).map (fun x => b + x))))))
  | a => a
def q_e (dA : Nat → ClassId) (b : Nat) : q_E → va_E
  | .inl (k, a) => .inl (dA k, q_arr b a)
  | .inr (c, fs) => .inr (c, fs.map (q_v b))
def q_c (dA : Nat → ClassId) (b : Nat) (w : q_W) (n : Nat) : va_W := (List.range n).map (fun a => (b + a, q_e dA b ((w a).getD (.inr (0, [])))))
theorem q_c_get {dA : Nat → ClassId} {b : Nat} {w : q_W} {n a : Nat} {c : q_E} (hd : q_dom w n) (h : w a = some c) : (q_c dA b w n)[a]? = some (b + a, q_e dA b c) := by
  unfold q_c
  rw [List.getElem?_map, List.getElem?_range (hd.lt h), Option.map_some, h]
  rfl
theorem q_c_lt {dA : Nat → ClassId} {b : Nat} {w : q_W} {n k : Nat} {x : Nat × va_E} (h : (q_c dA b w n)[k]? = some x) : k < n ∧ x.1 = b + k := by
  unfold q_c at h
  rw [List.getElem?_map] at h
  by_cases hk : k < n
  · rw [List.getElem?_range hk, Option.map_some] at h
    cases h
    exact ⟨hk, rfl⟩
  · rw [List.getElem?_eq_none (by rw [List.length_range]; omega)] at h
    cases h
theorem q_c_D (dA : Nat → ClassId) (b : Nat) (w : q_W) (n : Nat) : va_D (fun q => b ≤ q) (q_c dA b w n) := by
  refine ⟨fun i j x y hi hj hxy => ?_, fun k x hx => ?_⟩
  · have h1 := q_c_lt hi
    have h2 := q_c_lt hj
    omega
  · have h1 := q_c_lt hx
    show b ≤ x.1
    omega
theorem q_c_set {dA : Nat → ClassId} {b : Nat} {w : q_W} {n a : Nat} {c : q_E} {e : va_E} (ha : a < n) (he : e = q_e dA b c) : (q_c dA b w n).set a (b + a, e) = q_c dA b (q_up w a c) n := by
  subst he
  apply List.ext_getElem?
  intro k
  unfold q_c
  by_cases e : k = a
  · subst e
    rw [List.getElem?_set_self (by simpa using ha), List.getElem?_map, List.getElem?_range ha, Option.map_some, q_up_s]
    rfl
  · rw [List.getElem?_set_ne (Ne.symm e), List.getElem?_map, List.getElem?_map]
    by_cases hk : k < n
    · rw [List.getElem?_range hk, Option.map_some, Option.map_some, q_up_n e]
    · rw [List.getElem?_eq_none (by rw [List.length_range]; omega)]
      rfl
theorem q_c_push {dA : Nat → ClassId} {b : Nat} {w : q_W} {n : Nat} {c : q_E} : q_c dA b w n ++ [(b + n, q_e dA b c)] = q_c dA b (q_up w n c) (n + 1) := by
  unfold q_c
  rw [List.range_succ, List.map_append]
  congr 1
  · apply List.map_congr_left
    intro a ha
    rw [q_up_n (Nat.ne_of_lt (List.mem_range.mp ha))]
  · rw [List.map_cons, List.map_nil, q_up_s]
    rfl
/-- local variables: by their places; none: not known -/
def q_ll (b : Nat) (lv : List (Option Value)) : List (Nat × Value) := lv.zipIdx.filterMap (fun q => q.1.map (fun v => (q.2, q_v b v)))
theorem q_ll_mem {b : Nat} {lv : List (Option Value)} {i : Nat} {v : Value} : (i, v) ∈ q_ll b lv ↔ ∃ u, lv[i]? = some (some u) ∧ v = q_v b u := by
  unfold q_ll
  rw [List.mem_filterMap]
  constructor
  · rintro ⟨⟨o, j⟩, h1, h2⟩
    have h3 := List.mem_zipIdx_iff_getElem?.mp h1
    cases o with
    | none => cases h2
    | some u =>
      simp only [Option.map_some, Option.some.injEq, Prod.mk.injEq] at h2
      obtain ⟨rfl, rfl⟩ := h2
      exact ⟨u, h3, rfl⟩
  · rintro ⟨u, h1, rfl⟩
    exact ⟨(some u, i), List.mem_zipIdx_iff_getElem?.mpr h1, rfl⟩
def q_kill (lv : List (Option Value)) : Nat → List (Option Value)
  | 0 => lv
  | j + 1 => match lv[j]? with
    | some (some (.long _)) => lv.set j none
    | some (some (.double _)) => lv.set j none
    | _ => lv
def q_st1 (lv : List (Option Value)) (i : Nat) (v : Value) : List (Option Value) := (q_kill lv i).set i (some v)
def q_st2 (lv : List (Option Value)) (i : Nat) (v : Value) : List (Option Value) := ((q_kill lv i).set i (some v)).set (i + 1) none
theorem q_kill_get {lv : List (Option Value)} {i j : Nat} {u : Value} (h : (q_kill lv i)[j]? = some (some u)) : lv[j]? = some (some u) ∧ ¬ (j + 1 = i ∧ u.category = 2) := by
  cases i with
  | zero => exact ⟨h, fun q => by omega⟩
  | succ k =>
    unfold q_kill at h
    dsimp only at h
    by_cases hjk : j = k
    · subst hjk
      cases hl : lv[j]? with
      | none => rw [hl] at h; dsimp only at h; rw [hl] at h; cases h
      | some o =>
        have hlt := (List.getElem?_eq_some_iff.mp hl).1
        rw [hl] at h
        cases o with
        | none => dsimp only at h; rw [hl] at h; cases h
        | some v =>
          cases v <;> dsimp only at h <;> (try rw [List.getElem?_set_self hlt] at h) <;> (try rw [hl] at h) <;> (try (cases h; done)) <;> (injection h with h; injection h with h; subst h; exact ⟨rfl, fun q => by have := q.2; simp [Value.category] at this⟩)
    · refine ⟨?_, fun q => hjk (by omega)⟩
      split at h
      · rwa [List.getElem?_set_ne (Ne.symm hjk)] at h
      · rwa [List.getElem?_set_ne (Ne.symm hjk)] at h
      · exact h
end
section
/-! the words that a method takes with it; what the tables say; the judgement q_J and the contract q_T -/
abbrev q_M : Type := MethodName × ByteArray × Nat × Option FieldType
def q_B : List Cond := lw_tbl.filter goodWord
theorem q_B_in {w : Cond} (h : w ∈ lw_tbl) (hg : goodWord w = true) : w ∈ q_B := List.mem_filter.mpr ⟨h, hg⟩
theorem q_B_tbl {w : Cond} (h : w ∈ q_B) : w ∈ lw_tbl := (List.mem_filter.mp h).1
theorem q_B_good {w : Cond} (h : w ∈ q_B) : (w.onTables && w.keeps) = true ∨ ∃ ty, w = .arrayClass ty := good_of_word (List.mem_filter.mp h).2
theorem q_good {x : Cond} {ws : List Cond} (h : ∀ w ∈ ws, w ∈ q_B) : GoodIn (x :: q_B) ws := fun w hw => ⟨List.mem_cons_of_mem _ (h w hw), q_B_good (h w hw)⟩
theorem q_goodB {ws : List Cond} (h : ∀ w ∈ ws, w ∈ q_B) : GoodIn q_B ws := fun w hw => ⟨h w hw, q_B_good (h w hw)⟩
def q_nc : List (String × String) := [(RX1, RX4), (RX2, RX4), (RX0, RX4), (RX5, RX4), (RX4, RX1), (RX2, RX1), (RX3, RX1), (RX5, RX1), (RX4, RX2), (RX1, RX2), (RX3, RX2), (RX0, RX2), (RX5, RX2), (RX4, RX3), (RX1, RX3), (RX2, RX3), (RX0, RX3), (RX5, RX3), (RX4, RX0), (RX1, RX0), (RX2, RX0), (RX3, RX0), (RX5, RX0)]
def q_cs : List (String × String) := [(RX3, RX4), (RX0, RX1), (RX4, RX5), (RX1, RX5), (RX2, RX5), (RX3, RX5), (RX0, RX5)]
def q_ao : List String := [RX7, RX9, RX5]
def q_tys (dA : Nat → ClassId) : List (ClassId × FieldType) := [(dA 0, .int), (dA 1, .long), (dA 2, .object RX7), (dA 3, .object RX9), (dA 4, .object RX5), (dA 5, .array .int)]
def q_nl : List (String × Nat × MethodName × String) := [(RX11, 26, yX6_init, RX11), (RX11, 33, yX8_init, RX11), (RX8, 17, yX10_init, RX11)]
def q_AI (U : State) : Prop := (Cond.arrayOver (.array .int)).before #[] U = true
def q_K (D : va_G) (dA : Nat → ClassId) (U : State) : Prop := va_K D vwCl (q_tys dA) U ∧ (∀ q ∈ q_nc, va_Nc q.1 q.2 U) ∧ (∀ q ∈ q_cs, va_Nw (.castable q.1 q.2) U) ∧ (∀ C ∈ q_ao, va_AO C U) ∧ (∀ q ∈ q_nl, va_Nw (.methodLinkNest q.1 q.2.1 q.2.2.1 q.2.2.2) U) ∧ q_AI U
theorem q_castable_moved {C T : String} {u U : State} (hvm : u.vm.Alike U.vm) (h : va_Nw (.castable C T) u) : va_Nw (.castable C T) U := va_tabs rfl (rfl : (u.setVm U.vm).vm = U.vm) (by rw [Cond.castable_setVm hvm]; exact h)
theorem q_AI.moved {u U : State} (hvm : u.vm.Alike U.vm) (h : q_AI u) : q_AI U := by
  have e := Cond.arrayOver_setVmC (args := #[]) hvm (.array .int)
  have h2 : (Cond.arrayOver (.array .int)).before #[] (u.setVm U.vm) = true := by rw [e]; exact h
  exact h2
theorem q_K.warm {D : va_G} {dA : Nat → ClassId} {u U : State} (hW : u.WarmedH U.vm) (h : q_K D dA u) : q_K D dA U :=
  ⟨va_K.moved hW.alike h.1, fun q hq => (h.2.1 q hq).moved hW.alike, fun q hq => q_castable_moved hW.alike (h.2.2.1 q hq), fun C hC => (h.2.2.2.1 C hC).moved hW.alike, fun q hq => va_Nw.warmM hW (h.2.2.2.2.1 q hq), h.2.2.2.2.2.moved hW.alike⟩
theorem q_K.same {D : va_G} {dA : Nat → ClassId} {u U : State} (e : u.vm = U.vm) (h : q_K D dA u) : q_K D dA U := by
  have hA : u.vm.Alike U.vm := by rw [e]; exact Vm.Alike.refl U.vm
  exact ⟨va_K.moved hA h.1, fun q hq => (h.2.1 q hq).moved hA, fun q hq => q_castable_moved hA (h.2.2.1 q hq), fun C hC => (h.2.2.2.1 C hC).moved hA, fun q hq => va_Nw.same rfl e (h.2.2.2.2.1 q hq), h.2.2.2.2.2.moved hA⟩
def q_rm (fr kc ks : Nat) : Room := { frames := fr, cells := kc, slots := ks, locals := 43 * fr }
def q_Qc (Q : Option Value → q_W → Prop) (D : va_G) (dA : Nat → ClassId) (b n : Nat) : Array Value → State → Outcome → State → Prop := fun _ st oc t =>
  (∃ (v : Option Value) (w' : q_W), oc = .returned (v.map (q_v b)) ∧ Q v w' ∧ q_dom w' n ∧ va_P D vwCl (q_c dA b w' n) t.heap) ∧ va_F (fun q => b ≤ q) st t
def q_Cx (M : q_M) (fr mc ms : Nat) (p : Program) (R : Room) (s : State) (m : MethodId) (args : Array Value) (meth : Method) (c : Code) (D : va_G) (dA : Nat → ClassId) (b : Nat) : Prop :=
  R = q_rm fr mc ms ∧ p.tables.exec = Jvm.exec ∧ c.code = M.2.1 ∧ c.maxLocals = M.2.2.1 ∧ s.vm.findClass M.1.cls = some m.cls ∧ meth.sig.returnType = M.2.2.2 ∧ meth.locks = false ∧ meth.name = M.1.name ∧ (∀ w ∈ q_B, w.before args s = true) ∧ q_K D dA s ∧ b ≤ s.heap.size
/-- the machine, at pc of M, with these locals, this stack, this world, comes to its end with Q; kc cells come yet, at most ks slots -/
def q_J (M : q_M) (fr : Nat) (Q : Option Value → q_W → Prop) (kc ks pc : Nat) (lv : List (Option Value)) (st : List Value) (w : q_W) : Prop :=
  ∀ (p : Program) (l : Launch) (e : Env) (R : Room) (s : State) (m : MethodId) (args : Array Value) (below : List Frame) (meth : Method) (c : Code) (D : va_G) (dA : Nat → ClassId) (b n0 n mc ms : Nat) (H : Heap) (locs : List Loc) (ls : Array Slot) (cells slots : Nat),
    q_Cx M fr mc ms p R s m args meth c D dA b → q_dom w n → s.heap.size = b + n0 → n0 + cells = n → cells + kc = mc → slots + ks ≤ ms → va_P D vwCl (q_c dA b w n) H → va_S (fun q => b ≤ q) s.heap H locs → lv_has ls M.2.2.1 (q_ll b lv) →
    W p l e R s m args below meth c H locs cells slots (MQ below (q_Qc Q D dA b (n0 + mc)) args s mc ms (fun q => b ≤ q)) (F0 m pc ls (st.map (q_v b)))
/-- the contract of M: from these arguments and this world it returns with Q; kc cells are new, at most ks slots -/
def q_T (M : q_M) (fr kc ks : Nat) (As : List Value) (w : q_W) (Q : Option Value → q_W → Prop) : Prop :=
  ∀ (l : Launch) (D : va_G) (dA : Nat → ClassId) (b n : Nat), q_dom w n →
    Met l M.1 (.code M.1 M.2.1 M.2.2.1 M.2.2.2 :: q_B) (q_rm fr kc ks) (va_Pc (As.map (q_v b)) (fun U => U.heap.size = b + n ∧ va_P D vwCl (q_c dA b w n) U.heap ∧ q_K D dA U)) (q_Qc Q D dA b (n + kc)) kc ks (fun q => b ≤ q)
def q_args : List Value → List (Option Value)
  | [] => []
  | v :: vs => match v with
    | .long _ => some v :: none :: q_args vs
    | .double _ => some v :: none :: q_args vs
    | _ => some v :: q_args vs
theorem q_v_cat (b : Nat) (v : Value) : (q_v b v).category = v.category := by cases v <;> rfl
theorem q_args_mem (b : Nat) : ∀ (vs : List Value) (k i : Nat) (u : Value), (q_args vs)[i]? = some (some u) → (k + i, q_v b u) ∈ lv_args k (vs.map (q_v b))
  | [], k, i, u, h => by simp [q_args] at h
  | v :: vs, k, i, u, h => by
    have key : ∀ (l : List (Option Value)) (d : Nat), (l = [none] ∧ d = 2 ∨ l = [] ∧ d = 1) → (q_v b v).category = d → (some v :: (l ++ q_args vs))[i]? = some (some u) → (k + i, q_v b u) ∈ lv_args k ((v :: vs).map (q_v b)) := by
      intro l d hl hd hi
      rw [List.map_cons, lv_args]
      cases i with
      | zero =>
        rw [List.getElem?_cons_zero] at hi
        injection hi with hi
        injection hi with hi
        subst hi
        exact List.mem_cons_self
      | succ i =>
        rw [List.getElem?_cons_succ] at hi
        refine List.mem_cons_of_mem _ ?_
        rcases hl with ⟨rfl, rfl⟩ | ⟨rfl, rfl⟩
        · rw [if_pos hd]
          cases i with
          | zero => simp at hi
          | succ i =>
            have := q_args_mem b vs (k + 2) i u (by simpa using hi)
            rwa [show k + (i + 1 + 1) = k + 2 + i by omega]
        · rw [if_neg (by omega)]
          have := q_args_mem b vs (k + 1) i u (by simpa using hi)
          rwa [show k + (i + 1) = k + 1 + i by omega]
    cases v with
    | long x => exact key [none] 2 (Or.inl ⟨rfl, rfl⟩) rfl h
    | double x => exact key [none] 2 (Or.inl ⟨rfl, rfl⟩) rfl h
    | int x => exact key [] 1 (Or.inr ⟨rfl, rfl⟩) rfl h
    | float x => exact key [] 1 (Or.inr ⟨rfl, rfl⟩) rfl h
    | null => exact key [] 1 (Or.inr ⟨rfl, rfl⟩) rfl h
    | ref x => exact key [] 1 (Or.inr ⟨rfl, rfl⟩) rfl h
    | retAddr x => exact key [] 1 (Or.inr ⟨rfl, rfl⟩) rfl h
theorem q_args_len (b : Nat) : ∀ (vs : List Value), (lg_sl (vs.map (q_v b))).length = (q_args vs).length
  | [] => rfl
  | v :: vs => by
    have ih := q_args_len b vs
    unfold lg_sl at ih ⊢
    rw [List.map_cons, List.flatMap_cons, List.length_append, ih, q_v_cat]
    cases v <;> simp [q_args, Value.category] <;> omega
/-- lv: what is known of the locals at the entry, with none behind the arguments -/
theorem q_T.of {M : q_M} {fr kc ks : Nat} {As : List Value} {w : q_W} {Q : Option Value → q_W → Prop} (hy : plainName M.1.cls = true) {lv : List (Option Value)} (hlv : q_args As ++ List.replicate (M.2.2.1 - (q_args As).length) none = lv) (hlen : (q_args As).length ≤ M.2.2.1) (k : q_J M fr Q kc ks 0 lv [] w) : q_T M fr kc ks As w Q := by
  intro l D dA b n hd
  refine Met.ofW (cc := M.2.1) (maxL := M.2.2.1) (ret := M.2.2.2) hy rfl ?_
  intro p e s m args below meth c s₁ B hml hv
  obtain ⟨rfl, hsz, hP, hK⟩ := hv
  have hl := lv_entry (As.map (q_v b)) (n := M.2.2.1) (by rw [q_args_len]; exact hlen)
  rw [lg_entry_eq]
  have hts := atoms_spec (ws := .code M.1 M.2.1 M.2.2.1 M.2.2.2 :: q_B) B.pre
  refine k p l e _ s m _ below meth c D dA b n n kc ks s.heap [] _ 0 0 ⟨rfl, B.exec, B.bytes, hml, findClass_of_methodNamed B.named, B.returns, B.notSynchronized, (name_of_methodNamed B.named B.method).1, fun w hw => hts w (List.mem_cons_of_mem _ hw), hK, by omega⟩ hd hsz rfl (Nat.zero_add _) (by omega) hP va_S.rf ⟨hl.1, hl.2.1, fun q hq => hl.2.2 q ?_⟩
  obtain ⟨i, v⟩ := q
  obtain ⟨u, h1, rfl⟩ := q_ll_mem.mp hq
  rw [← hlv] at h1
  have hi : i < (q_args As).length := by
    rcases Nat.lt_or_ge i (q_args As).length with h | h
    · exact h
    · rw [List.getElem?_append_right h, List.getElem?_replicate] at h1
      split at h1 <;> simp at h1
  rw [List.getElem?_append_left hi] at h1
  have := q_args_mem b As 0 i u h1
  rwa [Nat.zero_add] at this
/-- the real heap's size, where cells are counted exactly -/
theorem q_size {p : Program} {l : Launch} {e : Env} {R : Room} {s : State} {m : MethodId} {args : Array Value} {below : List Frame} {meth : Method} {c : Code} {T : State} {locs : List Loc} {cells slots : Nat} (X : Stand p l e R s m args below meth c T locs cells slots) {D : va_G} {dA : Nat → ClassId} {b n0 n : Nat} {w : q_W} {H : Heap} (hT : T.heap = H) (hd : q_dom w n) (hs : s.heap.size = b + n0) (hn : n0 + cells = n) (hP : va_P D vwCl (q_c dA b w n) H) (hS : va_S (fun q => b ≤ q) s.heap H locs) : H.size = b + n := by
  have h1 := X.heapSize
  rw [hT] at h1
  have h2 : b + n ≤ H.size := by
    cases n with
    | zero => have := hS.1; omega
    | succ k =>
      have h3 : w k ≠ none := (hd k).mpr (by omega)
      obtain ⟨c0, hc⟩ := Option.ne_none_iff_exists'.mp h3
      have h4 := (hP k _ (q_c_get hd hc)).lt
      dsimp only at h4
      omega
  omega
/-- steps that touch neither heap nor locals -/
theorem q_go {M : q_M} {fr : Nat} {Q : Option Value → q_W → Prop} {kc ks pc pc2 : Nat} {lv : List (Option Value)} {st st2 : List Value} {w : q_W}
    (h : ∀ (p : Program) (l : Launch) (e : Env) (R : Room) (s : State) (m : MethodId) (args : Array Value) (below : List Frame) (meth : Method) (c : Code) (b : Nat) (H : Heap) (locs : List Loc) (ls : Array Slot) (cells slots : Nat) (Z : State → Prop), p.tables.exec = Jvm.exec → c.code = M.2.1 → s.vm.findClass M.1.cls = some m.cls → (∀ w ∈ q_B, w.before args s = true) → lv_has ls M.2.2.1 (q_ll b lv) →
      W p l e R s m args below meth c H locs cells slots Z (F0 m pc2 ls (st2.map (q_v b))) → W p l e R s m args below meth c H locs cells slots Z (F0 m pc ls (st.map (q_v b))))
    (k : q_J M fr Q kc ks pc2 lv st2 w) : q_J M fr Q kc ks pc lv st w := by
  intro p l e R s m args below meth c D dA b n0 n mc ms H locs ls cells slots C hd hs hn hc hk hP hS hl
  exact h p l e R s m args below meth c b H locs ls cells slots _ C.2.1 C.2.2.1 C.2.2.2.2.1 C.2.2.2.2.2.2.2.2.1 hl (k p l e R s m args below meth c D dA b n0 n mc ms H locs ls cells slots C hd hs hn hc hk hP hS hl)
end
section
/-! whole numbers and machine numbers -/
abbrev q_r (z : Int) : Prop := -2147483648 ≤ z ∧ z ≤ 2147483647
abbrev q_rl (z : Int) : Prop := -9223372036854775808 ≤ z ∧ z ≤ 9223372036854775807
theorem q_32 {z : Int} (h : q_r z) : (Int32.ofInt z).toInt = z := Int32.toInt_ofInt_of_le (by have := h.1; omega) (by have := h.2; omega)
theorem q_64 {z : Int} (h : q_rl z) : (Int64.ofInt z).toInt = z := Int64.toInt_ofInt_of_le (by have := h.1; omega) (by have := h.2; omega)
theorem q_32eq {a b : Int} (ha : q_r a) (hb : q_r b) : Int32.ofInt a = Int32.ofInt b ↔ a = b := by rw [← Int32.toInt_inj, q_32 ha, q_32 hb]
theorem q_32lt {a b : Int} (ha : q_r a) (hb : q_r b) : Int32.ofInt a < Int32.ofInt b ↔ a < b := by rw [Int32.lt_iff_toInt_lt, q_32 ha, q_32 hb]
theorem q_32le {a b : Int} (ha : q_r a) (hb : q_r b) : Int32.ofInt a ≤ Int32.ofInt b ↔ a ≤ b := by rw [Int32.le_iff_toInt_le, q_32 ha, q_32 hb]
theorem q_64eq {a b : Int} (ha : q_rl a) (hb : q_rl b) : Int64.ofInt a = Int64.ofInt b ↔ a = b := by rw [← Int64.toInt_inj, q_64 ha, q_64 hb]
theorem q_64lt {a b : Int} (ha : q_rl a) (hb : q_rl b) : Int64.ofInt a < Int64.ofInt b ↔ a < b := by rw [Int64.lt_iff_toInt_lt, q_64 ha, q_64 hb]
theorem q_64le {a b : Int} (ha : q_rl a) (hb : q_rl b) : Int64.ofInt a ≤ Int64.ofInt b ↔ a ≤ b := by rw [Int64.le_iff_toInt_le, q_64 ha, q_64 hb]
theorem q_0 : (0 : Int32) = Int32.ofInt 0 := by decide
theorem q_0l : (0 : Int64) = Int64.ofInt 0 := by decide
theorem q_r0 : q_r 0 := ⟨by decide, by decide⟩
theorem q_cl {z : Int} (h : q_r z) : (Int32.ofInt z).toNatClampNeg = z.toNat := Int32.toNatClampNeg_ofInt_of_le (by have := h.1; omega) (by have := h.2; omega)
theorem q_i_of (x : Int32) : Value.int x = q_i x.toInt := by unfold q_i; rw [Int32.ofInt_toInt]
theorem q_r_of (x : Int32) : q_r x.toInt := by
  have h1 := Int32.le_toInt x
  have h2 := Int32.toInt_lt x
  constructor <;> omega
theorem q_32div {a b : Int} (ha : q_r a) (hb : q_r b) (h : ¬ (a = -2147483648 ∧ b = -1)) : Int32.ofInt a / Int32.ofInt b = Int32.ofInt (a.tdiv b) := by
  by_cases e : b = -1
  · have h2 : Int32.ofInt a ≠ Int32.minValue := by
      intro q
      have := congrArg Int32.toInt q
      rw [q_32 ha] at this
      exact h ⟨by rw [this]; decide, e⟩
    apply Int32.toInt_inj.mp
    rw [Int32.toInt_div_of_ne_left _ _ h2, q_32 ha, q_32 hb, q_32]
    subst e
    rw [Int.tdiv_neg, Int.tdiv_one]
    have := ha.1
    have := ha.2
    constructor <;> omega
  · have h2 : Int32.ofInt b ≠ -1 := by
      intro q
      have := congrArg Int32.toInt q
      rw [q_32 hb] at this
      exact e (by rw [this]; decide)
    apply Int32.toInt_inj.mp
    rw [Int32.toInt_div_of_ne_right _ _ h2, q_32 ha, q_32 hb, q_32]
    have h3 : (a.tdiv b).natAbs ≤ a.natAbs := by rw [Int.natAbs_tdiv]; exact Nat.div_le_self _ _
    have := ha.1
    have := ha.2
    by_cases h4 : a = -2147483648
    · subst h4
      have h5 : ¬ (-2147483648 : Int).tdiv b = 2147483648 := by
        intro q
        have h6 := Int.tdiv_mul_add_tmod (-2147483648) b
        rw [q] at h6
        by_cases h7 : b = 0
        · subst h7; simp at q
        · have h8 := Int.natAbs_tmod (-2147483648) b
          have h9 : (2147483648 : Nat) % b.natAbs < b.natAbs := Nat.mod_lt _ (by omega)
          have h10 : ((-2147483648 : Int).tmod b).natAbs < b.natAbs := by rw [h8]; exact h9
          omega
      constructor <;> omega
    · constructor <;> omega
theorem q_64div {a b : Int} (ha : q_rl a) (hb : q_rl b) (h : ¬ b = -1) : Int64.ofInt a / Int64.ofInt b = Int64.ofInt (a.tdiv b) := by
  have h2 : Int64.ofInt b ≠ -1 := by
    intro q
    have := congrArg Int64.toInt q
    rw [q_64 hb] at this
    exact h (by rw [this]; decide)
  apply Int64.toInt_inj.mp
  rw [Int64.toInt_div_of_ne_right _ _ h2, q_64 ha, q_64 hb, q_64]
  have h3 : (a.tdiv b).natAbs ≤ a.natAbs := by rw [Int.natAbs_tdiv]; exact Nat.div_le_self _ _
  have := ha.1
  have := ha.2
  by_cases h4 : a = -9223372036854775808
  · subst h4
    have h5 : ¬ (-9223372036854775808 : Int).tdiv b = 9223372036854775808 := by
      intro q
      have h6 := Int.tdiv_mul_add_tmod (-9223372036854775808) b
      rw [q] at h6
      by_cases h7 : b = 0
      · subst h7; simp at q
      · have h8 := Int.natAbs_tmod (-9223372036854775808) b
        have h9 : (9223372036854775808 : Nat) % b.natAbs < b.natAbs := Nat.mod_lt _ (by omega)
        have h10 : ((-9223372036854775808 : Int).tmod b).natAbs < b.natAbs := by rw [h8]; exact h9
        omega
    constructor <;> omega
  · constructor <;> omega
theorem q_32rem {a b : Int} (ha : q_r a) (hb : q_r b) (h : ¬ (a = -2147483648 ∧ b = -1)) : Int32.ofInt a - Int32.ofInt a / Int32.ofInt b * Int32.ofInt b = Int32.ofInt (a.tmod b) := by
  rw [q_32div ha hb h, ← Int32.ofInt_mul, ← Int32.ofInt_sub]
  congr 1
  have := Int.tdiv_mul_add_tmod a b
  omega
theorem q_64rem {a b : Int} (ha : q_rl a) (hb : q_rl b) (h : ¬ b = -1) : Int64.ofInt a - Int64.ofInt a / Int64.ofInt b * Int64.ofInt b = Int64.ofInt (a.tmod b) := by
  rw [q_64div ha hb h, ← Int64.ofInt_mul, ← Int64.ofInt_sub]
  congr 1
  have := Int.tdiv_mul_add_tmod a b
  omega
theorem q_i2l {z : Int} (h : q_r z) : (Int32.ofInt z).toInt64 = Int64.ofInt z := by
  apply Int64.toInt_inj.mp
  rw [Int32.toInt_toInt64, q_32 h, q_64]
  have := h.1
  have := h.2
  constructor <;> omega
def q_shl (a b : Int) : Int := (Int32.ofInt a <<< (Int32.ofInt b &&& 31)).toInt
def q_or (a b : Int) : Int := (Int32.ofInt a ||| Int32.ofInt b).toInt
def q_and (a b : Int) : Int := (Int32.ofInt a &&& Int32.ofInt b).toInt
theorem q_ar {b : Nat} {z : Int} {n : Nat} (h0 : 0 ≤ z) (h : z < n) (hn : n < 2147483648) : vp_in (Int32.ofInt z) n := by
  have hz : q_r z := ⟨by omega, by omega⟩
  rintro (q | q)
  · rw [q_0, q_32lt hz q_r0] at q
    omega
  · rw [q_cl hz] at q
    omega
def q_rf (o : Option Nat) : Value := match o with
  | none => .null
  | some a => .ref a
theorem q_v_rf (b : Nat) (o : Option Nat) : q_v b (q_rf o) = va_rf (o.map (fun x => b + x)) := by cases o <;> rfl
theorem q_lget {ls : Array Slot} {nL b i : Nat} {lv : List (Option Value)} {u : Value} (h : lv_has ls nL (q_ll b lv)) (hi : lv[i]? = some (some u)) : ls[i]? = some (.val (q_v b u)) := h.2.2 (i, q_v b u) (q_ll_mem.mpr ⟨u, hi, rfl⟩)
theorem q_lset1 {b i : Nat} {lv lv' : List (Option Value)} {v : Value} (h : q_st1 lv i v = lv') {ls : Array Slot} {nL : Nat} (hl : lv_has ls nL ((i, q_v b v) :: (q_ll b lv).filter (fun q => !(q.1 == i) && !(q.1 + 1 == i && q.2.category == 2)))) : lv_has ls nL (q_ll b lv') := by
  refine ⟨hl.1, hl.2.1, fun q hq => hl.2.2 q ?_⟩
  obtain ⟨j, x⟩ := q
  obtain ⟨u, h1, rfl⟩ := q_ll_mem.mp hq
  rw [← h] at h1
  unfold q_st1 at h1
  by_cases e : j = i
  · subst e
    have hlt : j < (q_kill lv j).length := by
      have := (List.getElem?_eq_some_iff.mp h1).1
      rwa [List.length_set] at this
    rw [List.getElem?_set_self hlt] at h1
    injection h1 with h1
    injection h1 with h1
    subst h1
    exact List.mem_cons_self
  · rw [List.getElem?_set_ne (Ne.symm e)] at h1
    obtain ⟨h2, h3⟩ := q_kill_get h1
    refine List.mem_cons_of_mem _ (List.mem_filter.mpr ⟨q_ll_mem.mpr ⟨u, h2, rfl⟩, ?_⟩)
    simp only [Bool.and_eq_true, Bool.not_eq_true', beq_eq_false_iff_ne, ne_eq, Bool.and_eq_false_iff, q_v_cat]
    refine ⟨e, ?_⟩
    by_cases h4 : j + 1 = i
    · exact Or.inr (fun h5 => h3 ⟨h4, h5⟩)
    · exact Or.inl h4
theorem q_lset2 {b i : Nat} {lv lv' : List (Option Value)} {v : Value} (h : q_st2 lv i v = lv') {ls : Array Slot} {nL : Nat} (hl : lv_has ls nL ((i, q_v b v) :: (q_ll b lv).filter (fun q => !(q.1 == i) && (!(q.1 == i + 1) && !(q.1 + 1 == i && q.2.category == 2))))) : lv_has ls nL (q_ll b lv') := by
  refine ⟨hl.1, hl.2.1, fun q hq => hl.2.2 q ?_⟩
  obtain ⟨j, x⟩ := q
  obtain ⟨u, h1, rfl⟩ := q_ll_mem.mp hq
  rw [← h] at h1
  unfold q_st2 at h1
  by_cases e1 : j = i + 1
  · subst e1
    have hlt := (List.getElem?_eq_some_iff.mp h1).1
    rw [List.length_set] at hlt
    rw [List.getElem?_set_self hlt] at h1
    cases h1
  rw [List.getElem?_set_ne (Ne.symm e1)] at h1
  by_cases e : j = i
  · subst e
    have hlt : j < (q_kill lv j).length := by
      have := (List.getElem?_eq_some_iff.mp h1).1
      rwa [List.length_set] at this
    rw [List.getElem?_set_self hlt] at h1
    injection h1 with h1
    injection h1 with h1
    subst h1
    exact List.mem_cons_self
  · rw [List.getElem?_set_ne (Ne.symm e)] at h1
    obtain ⟨h2, h3⟩ := q_kill_get h1
    refine List.mem_cons_of_mem _ (List.mem_filter.mpr ⟨q_ll_mem.mpr ⟨u, h2, rfl⟩, ?_⟩)
    simp only [Bool.and_eq_true, Bool.not_eq_true', beq_eq_false_iff_ne, ne_eq, Bool.and_eq_false_iff, q_v_cat]
    refine ⟨e, e1, ?_⟩
    by_cases h4 : j + 1 = i
    · exact Or.inr (fun h5 => h3 ⟨h4, h5⟩)
    · exact Or.inl h4
section QR
variable {M : q_M} {fr : Nat} {Q : Option Value → q_W → Prop} {kc ks pc : Nat} {lv : List (Option Value)} {st : List Value} {w : q_W}

theorem q_iconst {n : Int} (hd : decode M.2.1 pc = .ok (.iconst n, 1)) (k : q_J M fr Q kc ks (pc + 1) lv (q_i n :: st) w) : q_J M fr Q kc ks pc lv st w :=
  q_go (fun _ _ _ _ _ _ _ _ _ _ _ _ _ _ _ _ _ hx hb _ _ _ k => lv_iconst (v := Int32.ofInt n) hx hb hd rfl k) k
theorem q_bipush {n : Int} (hd : decode M.2.1 pc = .ok (.bipush n, 2)) (k : q_J M fr Q kc ks (pc + 2) lv (q_i n :: st) w) (hv : (Int8.ofInt n).toInt32 = Int32.ofInt n := by decide) : q_J M fr Q kc ks pc lv st w :=
  q_go (fun _ _ _ _ _ _ _ _ _ _ _ _ _ _ _ _ _ hx hb _ _ _ k => lv_bipush (v := Int32.ofInt n) hx hb hd hv k) k
theorem q_sipush {n : Int} (hd : decode M.2.1 pc = .ok (.sipush n, 3)) (k : q_J M fr Q kc ks (pc + 3) lv (q_i n :: st) w) (hv : (Int16.ofInt n).toInt32 = Int32.ofInt n := by decide) : q_J M fr Q kc ks pc lv st w :=
  q_go (fun _ _ _ _ _ _ _ _ _ _ _ _ _ _ _ _ _ hx hb _ _ _ k => lv_sipush (v := Int32.ofInt n) hx hb hd hv k) k
theorem q_lconst {n : Fin 2} (z : Int) (hd : decode M.2.1 pc = .ok (.lconst n, 1)) (k : q_J M fr Q kc ks (pc + 1) lv (q_l z :: st) w) (hv : Int64.ofNat (n : Nat) = Int64.ofInt z := by decide) : q_J M fr Q kc ks pc lv st w :=
  q_go (fun _ _ _ _ _ _ _ _ _ _ _ _ _ _ _ _ _ hx hb _ _ _ k => lv_lconst (v := Int64.ofInt z) hx hb hd hv k) k
theorem q_ldcw {idx : Nat} {v : Int32} (z : Int) (hw : Cond.constant M.1.cls idx v ∈ q_B) (hd : decode M.2.1 pc = .ok (.ldc_w idx, 3)) (k : q_J M fr Q kc ks (pc + 3) lv (q_i z :: st) w) (hv : v = Int32.ofInt z := by decide) : q_J M fr Q kc ks pc lv st w :=
  q_go (fun _ _ _ _ _ _ _ _ _ _ _ _ _ _ _ _ _ hx hb ho ht _ k => lv_ldcw hx hb ho (ht _ hw) hd (by rw [hv]; exact k)) k
theorem q_ldc {idx : Nat} {v : Int32} (z : Int) (hw : Cond.constant M.1.cls idx v ∈ q_B) (hd : decode M.2.1 pc = .ok (.ldc idx, 2)) (k : q_J M fr Q kc ks (pc + 2) lv (q_i z :: st) w) (hv : v = Int32.ofInt z := by decide) : q_J M fr Q kc ks pc lv st w :=
  q_go (fun _ _ _ _ _ _ _ _ _ _ _ _ _ _ _ _ _ hx hb ho ht _ k => lv_ldc hx hb ho (ht _ hw) hd (by rw [hv]; exact k)) k
theorem q_ldc2 {idx : Nat} {v : Int64} (z : Int) (hw : Cond.constantLong M.1.cls idx v ∈ q_B) (hd : decode M.2.1 pc = .ok (.ldc2_w idx, 3)) (k : q_J M fr Q kc ks (pc + 3) lv (q_l z :: st) w) (hv : v = Int64.ofInt z := by decide) : q_J M fr Q kc ks pc lv st w :=
  q_go (fun _ _ _ _ _ _ _ _ _ _ _ _ _ _ _ _ _ hx hb ho ht _ k => lv_ldc2 hx hb ho (ht _ hw) hd (by rw [hv]; exact k)) k
theorem q_null (hd : decode M.2.1 pc = .ok (.aconst_null, 1)) (k : q_J M fr Q kc ks (pc + 1) lv (.null :: st) w) : q_J M fr Q kc ks pc lv st w :=
  q_go (fun _ _ _ _ _ _ _ _ _ _ _ _ _ _ _ _ _ hx hb _ _ _ k => lv_null hx hb hd k) k
theorem q_iload_n {j : Fin 4} {z : Int} (hd : decode M.2.1 pc = .ok (.iload_n j, 1)) (hi : lv[(j : Nat)]? = some (some (q_i z))) (k : q_J M fr Q kc ks (pc + 1) lv (q_i z :: st) w) : q_J M fr Q kc ks pc lv st w :=
  q_go (fun _ _ _ _ _ _ _ _ _ _ _ _ _ _ _ _ _ hx hb _ _ hl k => lv_iload_n hx hb hd rfl (q_lget hl hi) k) k
theorem q_iload {i : Nat} {z : Int} (hd : decode M.2.1 pc = .ok (.iload i, 2)) (hi : lv[i]? = some (some (q_i z))) (k : q_J M fr Q kc ks (pc + 2) lv (q_i z :: st) w) : q_J M fr Q kc ks pc lv st w :=
  q_go (fun _ _ _ _ _ _ _ _ _ _ _ _ _ _ _ _ _ hx hb _ _ hl k => lv_iload hx hb hd (q_lget hl hi) k) k
theorem q_lload_n {j : Fin 4} {z : Int} (hd : decode M.2.1 pc = .ok (.lload_n j, 1)) (hi : lv[(j : Nat)]? = some (some (q_l z))) (k : q_J M fr Q kc ks (pc + 1) lv (q_l z :: st) w) : q_J M fr Q kc ks pc lv st w :=
  q_go (fun _ _ _ _ _ _ _ _ _ _ _ _ _ _ _ _ _ hx hb _ _ hl k => lv_lload_n hx hb hd rfl (q_lget hl hi) k) k
theorem q_lload {i : Nat} {z : Int} (hd : decode M.2.1 pc = .ok (.lload i, 2)) (hi : lv[i]? = some (some (q_l z))) (k : q_J M fr Q kc ks (pc + 2) lv (q_l z :: st) w) : q_J M fr Q kc ks pc lv st w :=
  q_go (fun _ _ _ _ _ _ _ _ _ _ _ _ _ _ _ _ _ hx hb _ _ hl k => lv_lload hx hb hd (q_lget hl hi) k) k
theorem q_aload_n {j : Fin 4} {z : Nat} (hd : decode M.2.1 pc = .ok (.aload_n j, 1)) (hi : lv[(j : Nat)]? = some (some (.ref z))) (k : q_J M fr Q kc ks (pc + 1) lv (.ref z :: st) w) : q_J M fr Q kc ks pc lv st w :=
  q_go (fun _ _ _ _ _ _ _ _ _ _ _ _ _ _ _ _ _ hx hb _ _ hl k => lv_aload_n hx hb hd rfl (q_lget hl hi) k) k
theorem q_aload {i : Nat} {z : Nat} (hd : decode M.2.1 pc = .ok (.aload i, 2)) (hi : lv[i]? = some (some (.ref z))) (k : q_J M fr Q kc ks (pc + 2) lv (.ref z :: st) w) : q_J M fr Q kc ks pc lv st w :=
  q_go (fun _ _ _ _ _ _ _ _ _ _ _ _ _ _ _ _ _ hx hb _ _ hl k => lv_aload hx hb hd (q_lget hl hi) k) k
theorem q_aload_nN {j : Fin 4} (hd : decode M.2.1 pc = .ok (.aload_n j, 1)) (hi : lv[(j : Nat)]? = some (some .null)) (k : q_J M fr Q kc ks (pc + 1) lv (.null :: st) w) : q_J M fr Q kc ks pc lv st w :=
  q_go (fun _ _ _ _ _ _ _ _ _ _ _ _ _ _ _ _ _ hx hb _ _ hl k => lv_aload_nN hx hb hd rfl (q_lget hl hi) k) k
theorem q_aloadN {i : Nat} (hd : decode M.2.1 pc = .ok (.aload i, 2)) (hi : lv[i]? = some (some .null)) (k : q_J M fr Q kc ks (pc + 2) lv (.null :: st) w) : q_J M fr Q kc ks pc lv st w :=
  q_go (fun _ _ _ _ _ _ _ _ _ _ _ _ _ _ _ _ _ hx hb _ _ hl k => lv_aloadN hx hb hd (q_lget hl hi) k) k
theorem q_iadd {a b : Int} (hd : decode M.2.1 pc = .ok (.iadd, 1)) (k : q_J M fr Q kc ks (pc + 1) lv (q_i (a + b) :: st) w) : q_J M fr Q kc ks pc lv (q_i b :: q_i a :: st) w :=
  q_go (fun _ _ _ _ _ _ _ _ _ _ _ _ _ _ _ _ _ hx hb _ _ hl k => lv_iadd hx hb hd (by rw [← Int32.ofInt_add]; exact k)) k
theorem q_isub {a b : Int} (hd : decode M.2.1 pc = .ok (.isub, 1)) (k : q_J M fr Q kc ks (pc + 1) lv (q_i (a - b) :: st) w) : q_J M fr Q kc ks pc lv (q_i b :: q_i a :: st) w :=
  q_go (fun _ _ _ _ _ _ _ _ _ _ _ _ _ _ _ _ _ hx hb _ _ hl k => lv_isub hx hb hd (by rw [← Int32.ofInt_sub]; exact k)) k
theorem q_imul {a b : Int} (hd : decode M.2.1 pc = .ok (.imul, 1)) (k : q_J M fr Q kc ks (pc + 1) lv (q_i (a * b) :: st) w) : q_J M fr Q kc ks pc lv (q_i b :: q_i a :: st) w :=
  q_go (fun _ _ _ _ _ _ _ _ _ _ _ _ _ _ _ _ _ hx hb _ _ hl k => lv_imul hx hb hd (by rw [← Int32.ofInt_mul]; exact k)) k
theorem q_ladd {a b : Int} (hd : decode M.2.1 pc = .ok (.ladd, 1)) (k : q_J M fr Q kc ks (pc + 1) lv (q_l (a + b) :: st) w) : q_J M fr Q kc ks pc lv (q_l b :: q_l a :: st) w :=
  q_go (fun _ _ _ _ _ _ _ _ _ _ _ _ _ _ _ _ _ hx hb _ _ hl k => lv_ladd hx hb hd (by rw [← Int64.ofInt_add]; exact k)) k
theorem q_lsub {a b : Int} (hd : decode M.2.1 pc = .ok (.lsub, 1)) (k : q_J M fr Q kc ks (pc + 1) lv (q_l (a - b) :: st) w) : q_J M fr Q kc ks pc lv (q_l b :: q_l a :: st) w :=
  q_go (fun _ _ _ _ _ _ _ _ _ _ _ _ _ _ _ _ _ hx hb _ _ hl k => lv_lsub hx hb hd (by rw [← Int64.ofInt_sub]; exact k)) k
theorem q_lmul {a b : Int} (hd : decode M.2.1 pc = .ok (.lmul, 1)) (k : q_J M fr Q kc ks (pc + 1) lv (q_l (a * b) :: st) w) : q_J M fr Q kc ks pc lv (q_l b :: q_l a :: st) w :=
  q_go (fun _ _ _ _ _ _ _ _ _ _ _ _ _ _ _ _ _ hx hb _ _ hl k => lv_lmul hx hb hd (by rw [← Int64.ofInt_mul]; exact k)) k
theorem q_idiv {a b : Int} (hd : decode M.2.1 pc = .ok (.idiv, 1)) (ha : q_r a) (hb2 : q_r b) (h0 : b ≠ 0) (hm : ¬ (a = -2147483648 ∧ b = -1)) (k : q_J M fr Q kc ks (pc + 1) lv (q_i (a.tdiv b) :: st) w) : q_J M fr Q kc ks pc lv (q_i b :: q_i a :: st) w :=
  q_go (fun _ _ _ _ _ _ _ _ _ _ _ _ _ _ _ _ _ hx hb _ _ hl k => lv_idiv hx hb hd (fun q => h0 ((q_32eq hb2 q_r0).mp (q.trans q_0))) (by rw [q_32div ha hb2 hm]; exact k)) k
theorem q_irem {a b : Int} (hd : decode M.2.1 pc = .ok (.irem, 1)) (ha : q_r a) (hb2 : q_r b) (h0 : b ≠ 0) (hm : ¬ (a = -2147483648 ∧ b = -1)) (k : q_J M fr Q kc ks (pc + 1) lv (q_i (a.tmod b) :: st) w) : q_J M fr Q kc ks pc lv (q_i b :: q_i a :: st) w :=
  q_go (fun _ _ _ _ _ _ _ _ _ _ _ _ _ _ _ _ _ hx hb _ _ hl k => lv_irem hx hb hd (fun q => h0 ((q_32eq hb2 q_r0).mp (q.trans q_0))) (by rw [q_32rem ha hb2 hm]; exact k)) k
theorem q_ldiv {a b : Int} (hd : decode M.2.1 pc = .ok (.ldiv, 1)) (ha : q_rl a) (hb2 : q_rl b) (h0 : b ≠ 0) (hm : ¬ b = -1) (k : q_J M fr Q kc ks (pc + 1) lv (q_l (a.tdiv b) :: st) w) : q_J M fr Q kc ks pc lv (q_l b :: q_l a :: st) w :=
  q_go (fun _ _ _ _ _ _ _ _ _ _ _ _ _ _ _ _ _ hx hb _ _ hl k => lv_ldiv hx hb hd (fun q => h0 ((q_64eq hb2 ⟨by decide, by decide⟩).mp (q.trans q_0l))) (by rw [q_64div ha hb2 hm]; exact k)) k
theorem q_lrem {a b : Int} (hd : decode M.2.1 pc = .ok (.lrem, 1)) (ha : q_rl a) (hb2 : q_rl b) (h0 : b ≠ 0) (hm : ¬ b = -1) (k : q_J M fr Q kc ks (pc + 1) lv (q_l (a.tmod b) :: st) w) : q_J M fr Q kc ks pc lv (q_l b :: q_l a :: st) w :=
  q_go (fun _ _ _ _ _ _ _ _ _ _ _ _ _ _ _ _ _ hx hb _ _ hl k => lv_lrem hx hb hd (fun q => h0 ((q_64eq hb2 ⟨by decide, by decide⟩).mp (q.trans q_0l))) (by rw [q_64rem ha hb2 hm]; exact k)) k
theorem q_ishl {a b : Int} (hd : decode M.2.1 pc = .ok (.ishl, 1)) (k : q_J M fr Q kc ks (pc + 1) lv (q_i (q_shl a b) :: st) w) : q_J M fr Q kc ks pc lv (q_i b :: q_i a :: st) w :=
  q_go (fun _ _ _ _ _ _ _ _ _ _ _ _ _ _ _ _ _ hx hb _ _ hl k => lv_ishl hx hb hd (by have k := k; simp only [q_shl, q_i, List.map_cons, Int32.ofInt_toInt] at k; exact k)) k
theorem q_ior {a b : Int} (hd : decode M.2.1 pc = .ok (.ior, 1)) (k : q_J M fr Q kc ks (pc + 1) lv (q_i (q_or a b) :: st) w) : q_J M fr Q kc ks pc lv (q_i b :: q_i a :: st) w :=
  q_go (fun _ _ _ _ _ _ _ _ _ _ _ _ _ _ _ _ _ hx hb _ _ hl k => lv_ior hx hb hd (by have k := k; simp only [q_or, q_i, List.map_cons, Int32.ofInt_toInt] at k; exact k)) k
theorem q_iand {a b : Int} (hd : decode M.2.1 pc = .ok (.iand, 1)) (k : q_J M fr Q kc ks (pc + 1) lv (q_i (q_and a b) :: st) w) : q_J M fr Q kc ks pc lv (q_i b :: q_i a :: st) w :=
  q_go (fun _ _ _ _ _ _ _ _ _ _ _ _ _ _ _ _ _ hx hb _ _ hl k => lv_iand hx hb hd (by have k := k; simp only [q_and, q_i, List.map_cons, Int32.ofInt_toInt] at k; exact k)) k
theorem q_i2lr {a : Int} (hd : decode M.2.1 pc = .ok (.i2l, 1)) (ha : q_r a) (k : q_J M fr Q kc ks (pc + 1) lv (q_l a :: st) w) : q_J M fr Q kc ks pc lv (q_i a :: st) w :=
  q_go (fun _ _ _ _ _ _ _ _ _ _ _ _ _ _ _ _ _ hx hb _ _ hl k => lv_i2l (v := Int64.ofInt a) hx hb hd (q_i2l ha) k) k
theorem q_l2i {a : Int} (hd : decode M.2.1 pc = .ok (.l2i, 1)) (k : q_J M fr Q kc ks (pc + 1) lv (q_i a :: st) w) : q_J M fr Q kc ks pc lv (q_l a :: st) w :=
  q_go (fun _ _ _ _ _ _ _ _ _ _ _ _ _ _ _ _ _ hx hb _ _ hl k => lv_l2i (v := Int32.ofInt a) hx hb hd Int64.toInt32_ofInt k) k
theorem q_i2b {a : Int} (hd : decode M.2.1 pc = .ok (.i2b, 1)) (ha : q_r a) (k : q_J M fr Q kc ks (pc + 1) lv (q_i (a.bmod 256) :: st) w) : q_J M fr Q kc ks pc lv (q_i a :: st) w :=
  q_go (fun _ _ _ _ _ _ _ _ _ _ _ _ _ _ _ _ _ hx hb _ _ hl k => lv_i2b (v := Int32.ofInt (a.bmod 256)) hx hb hd (by
    apply Int32.toInt_inj.mp
    have h1 := Int.le_bmod (x := a) (m := 256) (by decide)
    have h2 := Int.bmod_lt (x := a) (m := 256) (by decide)
    rw [Int8.toInt_toInt32, Int32.toInt_toInt8, q_32 ha, q_32 ⟨by omega, by omega⟩]) k) k
theorem q_dup {v : Value} (hd : decode M.2.1 pc = .ok (.dup, 1)) (hv : v.category = 1) (k : q_J M fr Q kc ks (pc + 1) lv (v :: v :: st) w) : q_J M fr Q kc ks pc lv (v :: st) w :=
  q_go (fun _ _ _ _ _ _ _ _ _ _ _ _ _ _ _ _ _ hx hb _ _ hl k => lv_dup hx hb hd ((q_v_cat _ _).trans hv) k) k
theorem q_dup2 {u v : Value} (hd : decode M.2.1 pc = .ok (.dup2, 1)) (hu : u.category = 1) (hv : v.category = 1) (k : q_J M fr Q kc ks (pc + 1) lv (u :: v :: u :: v :: st) w) : q_J M fr Q kc ks pc lv (u :: v :: st) w :=
  q_go (fun _ _ _ _ _ _ _ _ _ _ _ _ _ _ _ _ _ hx hb _ _ hl k => lv_dup2_11 hx hb hd ((q_v_cat _ _).trans hu) ((q_v_cat _ _).trans hv) k) k
theorem q_dup2l {v : Value} (hd : decode M.2.1 pc = .ok (.dup2, 1)) (hv : v.category = 2) (k : q_J M fr Q kc ks (pc + 1) lv (v :: v :: st) w) : q_J M fr Q kc ks pc lv (v :: st) w :=
  q_go (fun _ _ _ _ _ _ _ _ _ _ _ _ _ _ _ _ _ hx hb _ _ hl k => lv_dup2_2 hx hb hd ((q_v_cat _ _).trans hv) k) k
theorem q_goto {off : Int} {tgt : Nat} (hd : decode M.2.1 pc = .ok (.goto off, 3)) (ht : (pc : Int) + off = (tgt : Int)) (k : q_J M fr Q kc ks tgt lv st w) : q_J M fr Q kc ks pc lv st w :=
  q_go (fun _ _ _ _ _ _ _ _ _ _ _ _ _ _ _ _ _ hx hb _ _ hl k => lv_goto hx hb hd ht k) k
theorem q_ifnullS {a : Nat} {off : Int} (hd : decode M.2.1 pc = .ok (.ifnull off, 3)) (k : q_J M fr Q kc ks (pc + 3) lv st w) : q_J M fr Q kc ks pc lv (.ref a :: st) w :=
  q_go (fun _ _ _ _ _ _ _ _ _ _ _ _ _ _ _ _ _ hx hb _ _ hl k => lv_ifnull hx hb hd k) k
theorem q_ifnullN {off : Int} {tgt : Nat} (hd : decode M.2.1 pc = .ok (.ifnull off, 3)) (ht : (pc : Int) + off = (tgt : Int)) (k : q_J M fr Q kc ks tgt lv st w) : q_J M fr Q kc ks pc lv (.null :: st) w :=
  q_go (fun _ _ _ _ _ _ _ _ _ _ _ _ _ _ _ _ _ hx hb _ _ hl k => lv_ifnullN hx hb hd ht k) k
theorem q_ifnonnullS {a : Nat} {off : Int} {tgt : Nat} (hd : decode M.2.1 pc = .ok (.ifnonnull off, 3)) (ht : (pc : Int) + off = (tgt : Int)) (k : q_J M fr Q kc ks tgt lv st w) : q_J M fr Q kc ks pc lv (.ref a :: st) w :=
  q_go (fun _ _ _ _ _ _ _ _ _ _ _ _ _ _ _ _ _ hx hb _ _ hl k => lv_ifnonnull hx hb hd ht k) k
theorem q_ifnonnullN {off : Int} (hd : decode M.2.1 pc = .ok (.ifnonnull off, 3)) (k : q_J M fr Q kc ks (pc + 3) lv st w) : q_J M fr Q kc ks pc lv (.null :: st) w :=
  q_go (fun _ _ _ _ _ _ _ _ _ _ _ _ _ _ _ _ _ hx hb _ _ hl k => lv_ifnonnullN hx hb hd k) k
theorem q_istore_n {j : Fin 4} {z : Int} {lv' : List (Option Value)} (hd : decode M.2.1 pc = .ok (.istore_n j, 1)) (hj : (j : Nat) < M.2.2.1) (h : q_st1 lv j (q_i z) = lv') (k : q_J M fr Q kc ks (pc + 1) lv' st w) : q_J M fr Q kc ks pc lv (q_i z :: st) w := by
  intro p l e R s m args below meth c D dA b n0 n mc ms H locs ls cells slots C hd2 hs hn hc hk hP hS hl
  exact lv_istore_n C.2.1 C.2.2.1 hd rfl hl hj rfl (fun ls2 hl2 => k p l e R s m args below meth c D dA b n0 n mc ms H locs ls2 cells slots C hd2 hs hn hc hk hP hS (q_lset1 h hl2))
theorem q_istore {i : Nat} {z : Int} {lv' : List (Option Value)} (hd : decode M.2.1 pc = .ok (.istore i, 2)) (hj : i < M.2.2.1) (h : q_st1 lv i (q_i z) = lv') (k : q_J M fr Q kc ks (pc + 2) lv' st w) : q_J M fr Q kc ks pc lv (q_i z :: st) w := by
  intro p l e R s m args below meth c D dA b n0 n mc ms H locs ls cells slots C hd2 hs hn hc hk hP hS hl
  exact lv_istore C.2.1 C.2.2.1 hd hl hj rfl (fun ls2 hl2 => k p l e R s m args below meth c D dA b n0 n mc ms H locs ls2 cells slots C hd2 hs hn hc hk hP hS (q_lset1 h hl2))
theorem q_lstore_n {j : Fin 4} {z : Int} {lv' : List (Option Value)} (hd : decode M.2.1 pc = .ok (.lstore_n j, 1)) (hj : (j : Nat) + 1 < M.2.2.1) (h : q_st2 lv j (q_l z) = lv') (k : q_J M fr Q kc ks (pc + 1) lv' st w) : q_J M fr Q kc ks pc lv (q_l z :: st) w := by
  intro p l e R s m args below meth c D dA b n0 n mc ms H locs ls cells slots C hd2 hs hn hc hk hP hS hl
  exact lv_lstore_n C.2.1 C.2.2.1 hd rfl hl hj rfl (fun ls2 hl2 => k p l e R s m args below meth c D dA b n0 n mc ms H locs ls2 cells slots C hd2 hs hn hc hk hP hS (q_lset2 h hl2))
theorem q_lstore {i : Nat} {z : Int} {lv' : List (Option Value)} (hd : decode M.2.1 pc = .ok (.lstore i, 2)) (hj : i + 1 < M.2.2.1) (h : q_st2 lv i (q_l z) = lv') (k : q_J M fr Q kc ks (pc + 2) lv' st w) : q_J M fr Q kc ks pc lv (q_l z :: st) w := by
  intro p l e R s m args below meth c D dA b n0 n mc ms H locs ls cells slots C hd2 hs hn hc hk hP hS hl
  exact lv_lstore C.2.1 C.2.2.1 hd hl hj rfl (fun ls2 hl2 => k p l e R s m args below meth c D dA b n0 n mc ms H locs ls2 cells slots C hd2 hs hn hc hk hP hS (q_lset2 h hl2))
theorem q_astore_n {j : Fin 4} {z : Nat} {lv' : List (Option Value)} (hd : decode M.2.1 pc = .ok (.astore_n j, 1)) (hj : (j : Nat) < M.2.2.1) (h : q_st1 lv j (.ref z) = lv') (k : q_J M fr Q kc ks (pc + 1) lv' st w) : q_J M fr Q kc ks pc lv (.ref z :: st) w := by
  intro p l e R s m args below meth c D dA b n0 n mc ms H locs ls cells slots C hd2 hs hn hc hk hP hS hl
  exact lv_astore_n C.2.1 C.2.2.1 hd rfl hl hj rfl (fun ls2 hl2 => k p l e R s m args below meth c D dA b n0 n mc ms H locs ls2 cells slots C hd2 hs hn hc hk hP hS (q_lset1 h hl2))
theorem q_astore {i : Nat} {z : Nat} {lv' : List (Option Value)} (hd : decode M.2.1 pc = .ok (.astore i, 2)) (hj : i < M.2.2.1) (h : q_st1 lv i (.ref z) = lv') (k : q_J M fr Q kc ks (pc + 2) lv' st w) : q_J M fr Q kc ks pc lv (.ref z :: st) w := by
  intro p l e R s m args below meth c D dA b n0 n mc ms H locs ls cells slots C hd2 hs hn hc hk hP hS hl
  exact lv_astore C.2.1 C.2.2.1 hd hl hj rfl (fun ls2 hl2 => k p l e R s m args below meth c D dA b n0 n mc ms H locs ls2 cells slots C hd2 hs hn hc hk hP hS (q_lset1 h hl2))
theorem q_astore_nN {j : Fin 4} {lv' : List (Option Value)} (hd : decode M.2.1 pc = .ok (.astore_n j, 1)) (hj : (j : Nat) < M.2.2.1) (h : q_st1 lv j .null = lv') (k : q_J M fr Q kc ks (pc + 1) lv' st w) : q_J M fr Q kc ks pc lv (.null :: st) w := by
  intro p l e R s m args below meth c D dA b n0 n mc ms H locs ls cells slots C hd2 hs hn hc hk hP hS hl
  exact lv_astore_nN C.2.1 C.2.2.1 hd rfl hl hj rfl (fun ls2 hl2 => k p l e R s m args below meth c D dA b n0 n mc ms H locs ls2 cells slots C hd2 hs hn hc hk hP hS (q_lset1 (v := .null) h hl2))
theorem q_astoreN {i : Nat} {lv' : List (Option Value)} (hd : decode M.2.1 pc = .ok (.astore i, 2)) (hj : i < M.2.2.1) (h : q_st1 lv i .null = lv') (k : q_J M fr Q kc ks (pc + 2) lv' st w) : q_J M fr Q kc ks pc lv (.null :: st) w := by
  intro p l e R s m args below meth c D dA b n0 n mc ms H locs ls cells slots C hd2 hs hn hc hk hP hS hl
  exact lv_astoreN C.2.1 C.2.2.1 hd hl hj rfl (fun ls2 hl2 => k p l e R s m args below meth c D dA b n0 n mc ms H locs ls2 cells slots C hd2 hs hn hc hk hP hS (q_lset1 (v := .null) h hl2))
theorem q_iinc {i : Nat} {n9 z : Int} {lv' : List (Option Value)} (hd : decode M.2.1 pc = .ok (.iinc i n9, 3)) (hi : lv[i]? = some (some (q_i z))) (hj : i < M.2.2.1) (h : q_st1 lv i (q_i (z + n9)) = lv') (k : q_J M fr Q kc ks (pc + 3) lv' st w) : q_J M fr Q kc ks pc lv st w := by
  intro p l e R s m args below meth c D dA b n0 n mc ms H locs ls cells slots C hd2 hs hn hc hk hP hS hl
  obtain ⟨j, hj2⟩ := List.getElem?_of_mem (q_ll_mem (b := b).mpr ⟨_, hi, rfl⟩)
  exact lv_iinc (v := Int32.ofInt (z + n9)) C.2.1 C.2.2.1 hd hl hj2 (Int32.ofInt_add z n9).symm hj rfl (fun ls2 hl2 => k p l e R s m args below meth c D dA b n0 n mc ms H locs ls2 cells slots C hd2 hs hn hc hk hP hS (q_lset1 (v := q_i (z + n9)) h hl2))
theorem q_icmp_eq {a b : Int} {off : Int} {tgt : Nat} (hd : decode M.2.1 pc = .ok (.if_icmp .eq off, 3)) (ht : (pc : Int) + off = (tgt : Int)) (ha : q_r a) (hb : q_r b) (kt : a = b → q_J M fr Q kc ks tgt lv st w) (kf : ¬ a = b → q_J M fr Q kc ks (pc + 3) lv st w) : q_J M fr Q kc ks pc lv (q_i b :: q_i a :: st) w := by
  intro p l e R s m args below meth c D dA b9 n0 n mc ms H locs ls cells slots C hd2 hs hn hc hk hP hS hl
  exact lv_icmp_eq C.2.1 C.2.2.1 hd ht (fun q => kt ((q_32eq ha hb).mp q) p l e R s m args below meth c D dA b9 n0 n mc ms H locs ls cells slots C hd2 hs hn hc hk hP hS hl) (fun q => kf (fun q2 => q ((q_32eq ha hb).mpr q2)) p l e R s m args below meth c D dA b9 n0 n mc ms H locs ls cells slots C hd2 hs hn hc hk hP hS hl)
theorem q_icmp_ne {a b : Int} {off : Int} {tgt : Nat} (hd : decode M.2.1 pc = .ok (.if_icmp .ne off, 3)) (ht : (pc : Int) + off = (tgt : Int)) (ha : q_r a) (hb : q_r b) (kt : a ≠ b → q_J M fr Q kc ks tgt lv st w) (kf : a = b → q_J M fr Q kc ks (pc + 3) lv st w) : q_J M fr Q kc ks pc lv (q_i b :: q_i a :: st) w := by
  intro p l e R s m args below meth c D dA b9 n0 n mc ms H locs ls cells slots C hd2 hs hn hc hk hP hS hl
  exact lv_icmp_ne C.2.1 C.2.2.1 hd ht (fun q => kt (fun q2 => q ((q_32eq ha hb).mpr q2)) p l e R s m args below meth c D dA b9 n0 n mc ms H locs ls cells slots C hd2 hs hn hc hk hP hS hl) (fun q => kf ((q_32eq ha hb).mp q) p l e R s m args below meth c D dA b9 n0 n mc ms H locs ls cells slots C hd2 hs hn hc hk hP hS hl)
theorem q_icmp_lt {a b : Int} {off : Int} {tgt : Nat} (hd : decode M.2.1 pc = .ok (.if_icmp .lt off, 3)) (ht : (pc : Int) + off = (tgt : Int)) (ha : q_r a) (hb : q_r b) (kt : a < b → q_J M fr Q kc ks tgt lv st w) (kf : b ≤ a → q_J M fr Q kc ks (pc + 3) lv st w) : q_J M fr Q kc ks pc lv (q_i b :: q_i a :: st) w := by
  intro p l e R s m args below meth c D dA b9 n0 n mc ms H locs ls cells slots C hd2 hs hn hc hk hP hS hl
  exact lv_icmp_lt C.2.1 C.2.2.1 hd ht (fun q => kt ((q_32lt ha hb).mp q) p l e R s m args below meth c D dA b9 n0 n mc ms H locs ls cells slots C hd2 hs hn hc hk hP hS hl) (fun q => kf (Int.not_lt.mp fun q2 => q ((q_32lt ha hb).mpr q2)) p l e R s m args below meth c D dA b9 n0 n mc ms H locs ls cells slots C hd2 hs hn hc hk hP hS hl)
theorem q_icmp_ge {a b : Int} {off : Int} {tgt : Nat} (hd : decode M.2.1 pc = .ok (.if_icmp .ge off, 3)) (ht : (pc : Int) + off = (tgt : Int)) (ha : q_r a) (hb : q_r b) (kt : b ≤ a → q_J M fr Q kc ks tgt lv st w) (kf : a < b → q_J M fr Q kc ks (pc + 3) lv st w) : q_J M fr Q kc ks pc lv (q_i b :: q_i a :: st) w := by
  intro p l e R s m args below meth c D dA b9 n0 n mc ms H locs ls cells slots C hd2 hs hn hc hk hP hS hl
  exact lv_icmp_ge C.2.1 C.2.2.1 hd ht (fun q => kt ((q_32le hb ha).mp q) p l e R s m args below meth c D dA b9 n0 n mc ms H locs ls cells slots C hd2 hs hn hc hk hP hS hl) (fun q => kf (Int.not_le.mp fun q2 => q ((q_32le hb ha).mpr q2)) p l e R s m args below meth c D dA b9 n0 n mc ms H locs ls cells slots C hd2 hs hn hc hk hP hS hl)
theorem q_icmp_gt {a b : Int} {off : Int} {tgt : Nat} (hd : decode M.2.1 pc = .ok (.if_icmp .gt off, 3)) (ht : (pc : Int) + off = (tgt : Int)) (ha : q_r a) (hb : q_r b) (kt : b < a → q_J M fr Q kc ks tgt lv st w) (kf : a ≤ b → q_J M fr Q kc ks (pc + 3) lv st w) : q_J M fr Q kc ks pc lv (q_i b :: q_i a :: st) w := by
  intro p l e R s m args below meth c D dA b9 n0 n mc ms H locs ls cells slots C hd2 hs hn hc hk hP hS hl
  exact lv_icmp_gt C.2.1 C.2.2.1 hd ht (fun q => kt ((q_32lt hb ha).mp q) p l e R s m args below meth c D dA b9 n0 n mc ms H locs ls cells slots C hd2 hs hn hc hk hP hS hl) (fun q => kf (Int.not_lt.mp fun q2 => q ((q_32lt hb ha).mpr q2)) p l e R s m args below meth c D dA b9 n0 n mc ms H locs ls cells slots C hd2 hs hn hc hk hP hS hl)
theorem q_icmp_le {a b : Int} {off : Int} {tgt : Nat} (hd : decode M.2.1 pc = .ok (.if_icmp .le off, 3)) (ht : (pc : Int) + off = (tgt : Int)) (ha : q_r a) (hb : q_r b) (kt : a ≤ b → q_J M fr Q kc ks tgt lv st w) (kf : b < a → q_J M fr Q kc ks (pc + 3) lv st w) : q_J M fr Q kc ks pc lv (q_i b :: q_i a :: st) w := by
  intro p l e R s m args below meth c D dA b9 n0 n mc ms H locs ls cells slots C hd2 hs hn hc hk hP hS hl
  exact lv_icmp_le C.2.1 C.2.2.1 hd ht (fun q => kt ((q_32le ha hb).mp q) p l e R s m args below meth c D dA b9 n0 n mc ms H locs ls cells slots C hd2 hs hn hc hk hP hS hl) (fun q => kf (Int.not_le.mp fun q2 => q ((q_32le ha hb).mpr q2)) p l e R s m args below meth c D dA b9 n0 n mc ms H locs ls cells slots C hd2 hs hn hc hk hP hS hl)
theorem q_if_eq {a : Int} {off : Int} {tgt : Nat} (hd : decode M.2.1 pc = .ok (.ifCond .eq off, 3)) (ht : (pc : Int) + off = (tgt : Int)) (ha : q_r a) (kt : a = 0 → q_J M fr Q kc ks tgt lv st w) (kf : ¬ a = 0 → q_J M fr Q kc ks (pc + 3) lv st w) : q_J M fr Q kc ks pc lv (q_i a :: st) w := by
  intro p l e R s m args below meth c D dA b9 n0 n mc ms H locs ls cells slots C hd2 hs hn hc hk hP hS hl
  exact lv_if_eq C.2.1 C.2.2.1 hd ht (fun q => kt ((q_32eq ha q_r0).mp (q.trans q_0)) p l e R s m args below meth c D dA b9 n0 n mc ms H locs ls cells slots C hd2 hs hn hc hk hP hS hl) (fun q => kf (fun q2 => q (((q_32eq ha q_r0).mpr q2).trans q_0.symm)) p l e R s m args below meth c D dA b9 n0 n mc ms H locs ls cells slots C hd2 hs hn hc hk hP hS hl)
theorem q_if_ne {a : Int} {off : Int} {tgt : Nat} (hd : decode M.2.1 pc = .ok (.ifCond .ne off, 3)) (ht : (pc : Int) + off = (tgt : Int)) (ha : q_r a) (kt : a ≠ 0 → q_J M fr Q kc ks tgt lv st w) (kf : a = 0 → q_J M fr Q kc ks (pc + 3) lv st w) : q_J M fr Q kc ks pc lv (q_i a :: st) w := by
  intro p l e R s m args below meth c D dA b9 n0 n mc ms H locs ls cells slots C hd2 hs hn hc hk hP hS hl
  exact lv_if_ne C.2.1 C.2.2.1 hd ht (fun q => kt (fun q2 => q (((q_32eq ha q_r0).mpr q2).trans q_0.symm)) p l e R s m args below meth c D dA b9 n0 n mc ms H locs ls cells slots C hd2 hs hn hc hk hP hS hl) (fun q => kf ((q_32eq ha q_r0).mp (q.trans q_0)) p l e R s m args below meth c D dA b9 n0 n mc ms H locs ls cells slots C hd2 hs hn hc hk hP hS hl)
theorem q_if_lt {a : Int} {off : Int} {tgt : Nat} (hd : decode M.2.1 pc = .ok (.ifCond .lt off, 3)) (ht : (pc : Int) + off = (tgt : Int)) (ha : q_r a) (kt : a < 0 → q_J M fr Q kc ks tgt lv st w) (kf : 0 ≤ a → q_J M fr Q kc ks (pc + 3) lv st w) : q_J M fr Q kc ks pc lv (q_i a :: st) w := by
  intro p l e R s m args below meth c D dA b9 n0 n mc ms H locs ls cells slots C hd2 hs hn hc hk hP hS hl
  exact lv_if_lt C.2.1 C.2.2.1 hd ht (fun q => kt ((q_32lt ha q_r0).mp (by rw [← q_0]; exact q)) p l e R s m args below meth c D dA b9 n0 n mc ms H locs ls cells slots C hd2 hs hn hc hk hP hS hl) (fun q => kf (Int.not_lt.mp fun q2 => q (by rw [q_0]; exact (q_32lt ha q_r0).mpr q2)) p l e R s m args below meth c D dA b9 n0 n mc ms H locs ls cells slots C hd2 hs hn hc hk hP hS hl)
theorem q_if_ge {a : Int} {off : Int} {tgt : Nat} (hd : decode M.2.1 pc = .ok (.ifCond .ge off, 3)) (ht : (pc : Int) + off = (tgt : Int)) (ha : q_r a) (kt : 0 ≤ a → q_J M fr Q kc ks tgt lv st w) (kf : a < 0 → q_J M fr Q kc ks (pc + 3) lv st w) : q_J M fr Q kc ks pc lv (q_i a :: st) w := by
  intro p l e R s m args below meth c D dA b9 n0 n mc ms H locs ls cells slots C hd2 hs hn hc hk hP hS hl
  exact lv_if_ge C.2.1 C.2.2.1 hd ht (fun q => kt ((q_32le q_r0 ha).mp (by rw [← q_0]; exact q)) p l e R s m args below meth c D dA b9 n0 n mc ms H locs ls cells slots C hd2 hs hn hc hk hP hS hl) (fun q => kf (Int.not_le.mp fun q2 => q (by show (0 : Int32) ≤ _; rw [q_0]; exact (q_32le q_r0 ha).mpr q2)) p l e R s m args below meth c D dA b9 n0 n mc ms H locs ls cells slots C hd2 hs hn hc hk hP hS hl)
theorem q_if_gt {a : Int} {off : Int} {tgt : Nat} (hd : decode M.2.1 pc = .ok (.ifCond .gt off, 3)) (ht : (pc : Int) + off = (tgt : Int)) (ha : q_r a) (kt : 0 < a → q_J M fr Q kc ks tgt lv st w) (kf : a ≤ 0 → q_J M fr Q kc ks (pc + 3) lv st w) : q_J M fr Q kc ks pc lv (q_i a :: st) w := by
  intro p l e R s m args below meth c D dA b9 n0 n mc ms H locs ls cells slots C hd2 hs hn hc hk hP hS hl
  exact lv_if_gt C.2.1 C.2.2.1 hd ht (fun q => kt ((q_32lt q_r0 ha).mp (by rw [← q_0]; exact q)) p l e R s m args below meth c D dA b9 n0 n mc ms H locs ls cells slots C hd2 hs hn hc hk hP hS hl) (fun q => kf (Int.not_lt.mp fun q2 => q (by show (0 : Int32) < _; rw [q_0]; exact (q_32lt q_r0 ha).mpr q2)) p l e R s m args below meth c D dA b9 n0 n mc ms H locs ls cells slots C hd2 hs hn hc hk hP hS hl)
theorem q_if_le {a : Int} {off : Int} {tgt : Nat} (hd : decode M.2.1 pc = .ok (.ifCond .le off, 3)) (ht : (pc : Int) + off = (tgt : Int)) (ha : q_r a) (kt : a ≤ 0 → q_J M fr Q kc ks tgt lv st w) (kf : 0 < a → q_J M fr Q kc ks (pc + 3) lv st w) : q_J M fr Q kc ks pc lv (q_i a :: st) w := by
  intro p l e R s m args below meth c D dA b9 n0 n mc ms H locs ls cells slots C hd2 hs hn hc hk hP hS hl
  exact lv_if_le C.2.1 C.2.2.1 hd ht (fun q => kt ((q_32le ha q_r0).mp (by rw [← q_0]; exact q)) p l e R s m args below meth c D dA b9 n0 n mc ms H locs ls cells slots C hd2 hs hn hc hk hP hS hl) (fun q => kf (Int.not_le.mp fun q2 => q (by rw [q_0]; exact (q_32le ha q_r0).mpr q2)) p l e R s m args below meth c D dA b9 n0 n mc ms H locs ls cells slots C hd2 hs hn hc hk hP hS hl)
def q_cmp (a b : Int) : Int := if b < a then 1 else if a = b then 0 else -1
theorem q_cmp_r (a b : Int) : q_r (q_cmp a b) := by
  unfold q_cmp
  split
  · exact ⟨by decide, by decide⟩
  · split
    · exact ⟨by decide, by decide⟩
    · exact ⟨by decide, by decide⟩
theorem q_lcmp {a b : Int} (hd : decode M.2.1 pc = .ok (.lcmp, 1)) (ha : q_rl a) (hb : q_rl b) (k : q_J M fr Q kc ks (pc + 1) lv (q_i (q_cmp a b) :: st) w) : q_J M fr Q kc ks pc lv (q_l b :: q_l a :: st) w :=
  q_go (fun _ _ _ _ _ _ _ _ _ _ _ _ _ _ _ _ _ hx hb2 _ _ _ k => W.lcmp hx hb2 hd (by
    have e : lg_cmp (Int64.ofInt a) (Int64.ofInt b) = Int32.ofInt (q_cmp a b) := by
      unfold lg_cmp q_cmp
      simp only [gt_iff_lt, q_64lt hb ha, q_64eq ha hb]
      split
      · decide
      · split <;> decide
    rw [e]; exact k)) k
theorem q_lcmp_eq {a b : Int} {off : Int} {tgt : Nat} (hd1 : decode M.2.1 pc = .ok (.lcmp, 1)) (hd : decode M.2.1 (pc + 1) = .ok (.ifCond .eq off, 3)) (ht : (pc + 1 : Int) + off = (tgt : Int)) (ha : q_rl a) (hb : q_rl b) (kt : a = b → q_J M fr Q kc ks tgt lv st w) (kf : ¬ a = b → q_J M fr Q kc ks (pc + 4) lv st w) : q_J M fr Q kc ks pc lv (q_l b :: q_l a :: st) w :=
  q_lcmp hd1 ha hb (q_if_eq (tgt := tgt) hd (by rw [← ht]; rfl) (q_cmp_r a b) (fun q => kt (by unfold q_cmp at q; split at q <;> (try split at q) <;> omega)) (fun q => kf (by unfold q_cmp at q; split at q <;> (try split at q) <;> omega)))
theorem q_lcmp_ne {a b : Int} {off : Int} {tgt : Nat} (hd1 : decode M.2.1 pc = .ok (.lcmp, 1)) (hd : decode M.2.1 (pc + 1) = .ok (.ifCond .ne off, 3)) (ht : (pc + 1 : Int) + off = (tgt : Int)) (ha : q_rl a) (hb : q_rl b) (kt : a ≠ b → q_J M fr Q kc ks tgt lv st w) (kf : a = b → q_J M fr Q kc ks (pc + 4) lv st w) : q_J M fr Q kc ks pc lv (q_l b :: q_l a :: st) w :=
  q_lcmp hd1 ha hb (q_if_ne (tgt := tgt) hd (by rw [← ht]; rfl) (q_cmp_r a b) (fun q => kt (by unfold q_cmp at q; split at q <;> (try split at q) <;> omega)) (fun q => kf (by unfold q_cmp at q; split at q <;> (try split at q) <;> omega)))
theorem q_lcmp_lt {a b : Int} {off : Int} {tgt : Nat} (hd1 : decode M.2.1 pc = .ok (.lcmp, 1)) (hd : decode M.2.1 (pc + 1) = .ok (.ifCond .lt off, 3)) (ht : (pc + 1 : Int) + off = (tgt : Int)) (ha : q_rl a) (hb : q_rl b) (kt : a < b → q_J M fr Q kc ks tgt lv st w) (kf : b ≤ a → q_J M fr Q kc ks (pc + 4) lv st w) : q_J M fr Q kc ks pc lv (q_l b :: q_l a :: st) w :=
  q_lcmp hd1 ha hb (q_if_lt (tgt := tgt) hd (by rw [← ht]; rfl) (q_cmp_r a b) (fun q => kt (by unfold q_cmp at q; split at q <;> (try split at q) <;> omega)) (fun q => kf (by unfold q_cmp at q; split at q <;> (try split at q) <;> omega)))
theorem q_lcmp_ge {a b : Int} {off : Int} {tgt : Nat} (hd1 : decode M.2.1 pc = .ok (.lcmp, 1)) (hd : decode M.2.1 (pc + 1) = .ok (.ifCond .ge off, 3)) (ht : (pc + 1 : Int) + off = (tgt : Int)) (ha : q_rl a) (hb : q_rl b) (kt : b ≤ a → q_J M fr Q kc ks tgt lv st w) (kf : a < b → q_J M fr Q kc ks (pc + 4) lv st w) : q_J M fr Q kc ks pc lv (q_l b :: q_l a :: st) w :=
  q_lcmp hd1 ha hb (q_if_ge (tgt := tgt) hd (by rw [← ht]; rfl) (q_cmp_r a b) (fun q => kt (by unfold q_cmp at q; split at q <;> (try split at q) <;> omega)) (fun q => kf (by unfold q_cmp at q; split at q <;> (try split at q) <;> omega)))
theorem q_lcmp_gt {a b : Int} {off : Int} {tgt : Nat} (hd1 : decode M.2.1 pc = .ok (.lcmp, 1)) (hd : decode M.2.1 (pc + 1) = .ok (.ifCond .gt off, 3)) (ht : (pc + 1 : Int) + off = (tgt : Int)) (ha : q_rl a) (hb : q_rl b) (kt : b < a → q_J M fr Q kc ks tgt lv st w) (kf : a ≤ b → q_J M fr Q kc ks (pc + 4) lv st w) : q_J M fr Q kc ks pc lv (q_l b :: q_l a :: st) w :=
  q_lcmp hd1 ha hb (q_if_gt (tgt := tgt) hd (by rw [← ht]; rfl) (q_cmp_r a b) (fun q => kt (by unfold q_cmp at q; split at q <;> (try split at q) <;> omega)) (fun q => kf (by unfold q_cmp at q; split at q <;> (try split at q) <;> omega)))
theorem q_lcmp_le {a b : Int} {off : Int} {tgt : Nat} (hd1 : decode M.2.1 pc = .ok (.lcmp, 1)) (hd : decode M.2.1 (pc + 1) = .ok (.ifCond .le off, 3)) (ht : (pc + 1 : Int) + off = (tgt : Int)) (ha : q_rl a) (hb : q_rl b) (kt : a ≤ b → q_J M fr Q kc ks tgt lv st w) (kf : b < a → q_J M fr Q kc ks (pc + 4) lv st w) : q_J M fr Q kc ks pc lv (q_l b :: q_l a :: st) w :=
  q_lcmp hd1 ha hb (q_if_le (tgt := tgt) hd (by rw [← ht]; rfl) (q_cmp_r a b) (fun q => kt (by unfold q_cmp at q; split at q <;> (try split at q) <;> omega)) (fun q => kf (by unfold q_cmp at q; split at q <;> (try split at q) <;> omega)))
end QR
end
section
/-! fields, arrays, calls, returns -/
def q_FL (own : String) (idx ci k : Nat) : Prop := ∃ (C : String) (T : u_T) (N : Nat) (ref : String), vwCl[ci]? = some (C, T, N) ∧ k < N ∧ (∀ w ∈ u_ws C T N, w ∈ q_B) ∧ Cond.fieldLink own idx ref (T k).2.1 (T k).2.2.1 ∈ q_B ∧ (ref = (T k).1 ∨ Cond.sameField ref (T k).1 (T k).2.1 (T k).2.2.1 ∈ q_B)
/-- a field that is put to: fin: it is final (its own constructor puts it) -/
def q_FP (own : String) (idx ci k : Nat) (ty : FieldType) (fin : Bool) : Prop := ∃ (C : String) (T : u_T) (N : Nat) (ref : String) (ty0 : Nat → FieldType), vwCl[ci]? = some (C, T, N) ∧ k < N ∧ (∀ w ∈ u_ws C T N, w ∈ q_B) ∧ Cond.fieldLink own idx ref (T k).2.1 (T k).2.2.1 ∈ q_B ∧ (ref = (T k).1 ∨ Cond.sameField ref (T k).1 (T k).2.1 (T k).2.2.1 ∈ q_B) ∧
  (∀ k, k < N → parseFieldDescriptor (T k).2.2.1 = some (ty0 k)) ∧ (∀ a, a < N → ∀ b, b < N → a ≠ b → (T a).2.1 ≠ (T b).2.1) ∧ (T k).2.2.2 = fin ∧ parseFieldDescriptor (T k).2.2.1 = some ty ∧ (fin = true → (T k).1 = own)
section QR
variable {M : q_M} {fr : Nat} {Q : Option Value → q_W → Prop} {kc ks pc : Nat} {lv : List (Option Value)} {st : List Value} {w : q_W}
theorem q_get {a ci fk idx : Nat} {fs : List Value} {v : Value} (hf : q_FL M.1.cls idx ci fk) (hw : w a = some (q_ob ci fs)) (hv : fs[fk]? = some v) (hd : decode M.2.1 pc = .ok (.getfield idx, 3)) (k : q_J M fr Q kc ks (pc + 3) lv (v :: st) w) : q_J M fr Q kc ks pc lv (.ref a :: st) w := by
  intro p l e R s m args below meth c D dA b n0 n mc ms H locs ls cells slots C hd2 hs hn hc hk hP hS hl
  obtain ⟨Cn, T, N, ref, h1, h2, h3, h4, h5⟩ := hf
  refine va_get (D := D) (ci := ci) (v := q_v b v) (C := Cn) (T := T) (N := N) C.2.1 C.2.2.1 C.2.2.2.2.2.2.2.2.1 h3 C.2.2.2.2.1 C.2.2.2.2.2.2.2.2.2.1.1 hP a (q_c_get hd2 hw) h1 fk h2 (C.2.2.2.2.2.2.2.2.1 _ h4) ?_ (by rw [List.getElem?_map, hv]; rfl) hd (k p l e R s m args below meth c D dA b n0 n mc ms H locs ls cells slots C hd2 hs hn hc hk hP hS hl)
  rcases h5 with h5 | h5
  · rw [h5]; exact fun _ h => h
  · exact fun x hx => u_same (C.2.2.2.2.2.2.2.2.1 _ h5) x hx
theorem q_put0 {a ci fk idx : Nat} {fs : List Value} {v : Value} {ty : FieldType} (hf : q_FP M.1.cls idx ci fk ty false) (hw : w a = some (q_ob ci fs)) (hl2 : fk < fs.length) (hn2 : ∀ b, narrow ty (q_v b v) = q_v b v) (hfit : ∀ b, fits ty (q_v b v) = true) (hd : decode M.2.1 pc = .ok (.putfield idx, 3)) (k : q_J M fr Q kc ks (pc + 3) lv st (q_up w a (q_ob ci (fs.set fk v)))) : q_J M fr Q kc ks pc lv (v :: .ref a :: st) w := by
  intro p l e R s m args below meth c D dA b n0 n mc ms H locs ls cells slots C hd2 hs hn hc hk hP hS hl
  obtain ⟨Cn, T, N, ref, ty0, h1, h2, h3, h4, h5, h6, h7, h8, h9, h10⟩ := hf
  refine va_put (D := D) (ci := ci) (v := q_v b v) (ty := ty) (C := Cn) (T := T) (N := N) C.2.1 C.2.2.1 C.2.2.2.2.2.2.2.2.1 h3 ty0 h6 h7 C.2.2.2.2.1 C.2.2.2.2.2.2.2.2.2.1.1 hP (q_c_D dA b w n) hS a (q_c_get hd2 hw) h1 fk h2 (C.2.2.2.2.2.2.2.2.1 _ h4) ?_ h8 h9 (hn2 b) (hfit b) (by rw [List.length_map]; exact hl2) hd (fun H1 locs1 hP1 _ hS1 => ?_)
  · rcases h5 with h5 | h5
    · rw [h5]; exact fun _ h => h
    · exact fun x hx => u_same (C.2.2.2.2.2.2.2.2.1 _ h5) x hx
  · rw [q_c_set (c := q_ob ci (fs.set fk v)) (hd2.lt hw) (by show _ = Sum.inr (ci, (fs.set fk v).map (q_v b)); rw [List.map_set])] at hP1
    exact k p l e R s m args below meth c D dA b n0 n mc ms H1 locs1 ls cells slots C (hd2.up _ (hd2.lt hw)) hs hn hc hk hP1 hS1 hl
theorem q_putF0 {a ci fk idx : Nat} {fs : List Value} {v : Value} {ty : FieldType} (hf : q_FP M.1.cls idx ci fk ty true) (hi : M.1.name = "<init>") (hw : w a = some (q_ob ci fs)) (hl2 : fk < fs.length) (hn2 : ∀ b, narrow ty (q_v b v) = q_v b v) (hfit : ∀ b, fits ty (q_v b v) = true) (hd : decode M.2.1 pc = .ok (.putfield idx, 3)) (k : q_J M fr Q kc ks (pc + 3) lv st (q_up w a (q_ob ci (fs.set fk v)))) : q_J M fr Q kc ks pc lv (v :: .ref a :: st) w := by
  intro p l e R s m args below meth c D dA b n0 n mc ms H locs ls cells slots C hd2 hs hn hc hk hP hS hl
  obtain ⟨Cn, T, N, ref, ty0, h1, h2, h3, h4, h5, h6, h7, h8, h9, h10⟩ := hf
  refine va_putF (D := D) (ci := ci) (v := q_v b v) (ty := ty) (C := Cn) (T := T) (N := N) C.2.1 C.2.2.1 C.2.2.2.2.2.2.2.2.1 h3 ty0 h6 h7 C.2.2.2.2.1 C.2.2.2.2.2.2.2.2.2.1.1 hP (q_c_D dA b w n) hS a (q_c_get hd2 hw) h1 fk h2 (C.2.2.2.2.2.2.2.2.1 _ h4) ?_ h8 (C.2.2.2.2.2.2.2.1.trans hi) (h10 rfl) h9 (hn2 b) (hfit b) (by rw [List.length_map]; exact hl2) hd (fun H1 locs1 hP1 _ hS1 => ?_)
  · rcases h5 with h5 | h5
    · rw [h5]; exact fun _ h => h
    · exact fun x hx => u_same (C.2.2.2.2.2.2.2.2.1 _ h5) x hx
  · rw [q_c_set (c := q_ob ci (fs.set fk v)) (hd2.lt hw) (by show _ = Sum.inr (ci, (fs.set fk v).map (q_v b)); rw [List.map_set])] at hP1
    exact k p l e R s m args below meth c D dA b n0 n mc ms H1 locs1 ls cells slots C (hd2.up _ (hd2.lt hw)) hs hn hc hk hP1 hS1 hl
theorem q_puti {a ci fk idx : Nat} {fs : List Value} {z : Int} (hf : q_FP M.1.cls idx ci fk .int false) (hw : w a = some (q_ob ci fs)) (hl2 : fk < fs.length) (hd : decode M.2.1 pc = .ok (.putfield idx, 3)) (k : q_J M fr Q kc ks (pc + 3) lv st (q_up w a (q_ob ci (fs.set fk (q_i z))))) : q_J M fr Q kc ks pc lv (q_i z :: .ref a :: st) w := q_put0 hf hw hl2 (fun _ => rfl) (fun _ => rfl) hd k
theorem q_putl {a ci fk idx : Nat} {fs : List Value} {z : Int} (hf : q_FP M.1.cls idx ci fk .long false) (hw : w a = some (q_ob ci fs)) (hl2 : fk < fs.length) (hd : decode M.2.1 pc = .ok (.putfield idx, 3)) (k : q_J M fr Q kc ks (pc + 3) lv st (q_up w a (q_ob ci (fs.set fk (q_l z))))) : q_J M fr Q kc ks pc lv (q_l z :: .ref a :: st) w := q_put0 hf hw hl2 (fun _ => rfl) (fun _ => rfl) hd k
theorem q_putro {a ci fk idx x : Nat} {fs : List Value} {C : String} (hf : q_FP M.1.cls idx ci fk (.object C) true) (hi : M.1.name = "<init>") (hw : w a = some (q_ob ci fs)) (hl2 : fk < fs.length) (hd : decode M.2.1 pc = .ok (.putfield idx, 3)) (k : q_J M fr Q kc ks (pc + 3) lv st (q_up w a (q_ob ci (fs.set fk (.ref x))))) : q_J M fr Q kc ks pc lv (.ref x :: .ref a :: st) w := q_putF0 hf hi hw hl2 (fun _ => rfl) (fun _ => rfl) hd k
theorem q_putra {a ci fk idx x : Nat} {fs : List Value} {t : FieldType} (hf : q_FP M.1.cls idx ci fk (.array t) true) (hi : M.1.name = "<init>") (hw : w a = some (q_ob ci fs)) (hl2 : fk < fs.length) (hd : decode M.2.1 pc = .ok (.putfield idx, 3)) (k : q_J M fr Q kc ks (pc + 3) lv st (q_up w a (q_ob ci (fs.set fk (.ref x))))) : q_J M fr Q kc ks pc lv (.ref x :: .ref a :: st) w := q_putF0 hf hi hw hl2 (fun _ => rfl) (fun _ => rfl) hd k
theorem q_iald {a n9 : Nat} {f : Int → Int} {z : Int} (hw : w a = some (q_ia n9 f)) (h0 : 0 ≤ z) (hz : z < n9) (hd : decode M.2.1 pc = .ok (.iaload, 1)) (k : q_J M fr Q kc ks (pc + 1) lv (q_i (f z) :: st) w) (hn9 : n9 < 2147483648 := by decide) : q_J M fr Q kc ks pc lv (q_i z :: .ref a :: st) w := by
  intro p l e R s m args below meth c D dA b n0 n mc ms H locs ls cells slots C hd2 hs hn hc hk hP hS hl
  have kk := k p l e R s m args below meth c D dA b n0 n mc ms H locs ls cells slots C hd2 hs hn hc hk hP hS hl
  refine va_iald (D := D) C.2.1 C.2.2.1 C.2.2.2.2.2.2.2.2.2.1.1 hP a 0 (q_c_get hd2 hw) rfl (q_ar (b := 0) h0 hz hn9) hd ?_
  rw [q_cl ⟨by omega, by omega⟩, Int.toNat_of_nonneg h0]
  exact kk
theorem q_lald {a n9 : Nat} {f : Int → Int} {z : Int} (hw : w a = some (q_la n9 f)) (h0 : 0 ≤ z) (hz : z < n9) (hd : decode M.2.1 pc = .ok (.laload, 1)) (k : q_J M fr Q kc ks (pc + 1) lv (q_l (f z) :: st) w) (hn9 : n9 < 2147483648 := by decide) : q_J M fr Q kc ks pc lv (q_i z :: .ref a :: st) w := by
  intro p l e R s m args below meth c D dA b n0 n mc ms H locs ls cells slots C hd2 hs hn hc hk hP hS hl
  have kk := k p l e R s m args below meth c D dA b n0 n mc ms H locs ls cells slots C hd2 hs hn hc hk hP hS hl
  refine va_lald (D := D) C.2.1 C.2.2.1 C.2.2.2.2.2.2.2.2.2.1.1 hP a 1 (q_c_get hd2 hw) rfl (q_ar (b := 0) h0 hz hn9) hd ?_
  rw [q_cl ⟨by omega, by omega⟩, Int.toNat_of_nonneg h0]
  exact kk
theorem q_iast {a n9 : Nat} {f : Int → Int} {z x : Int} (hw : w a = some (q_ia n9 f)) (h0 : 0 ≤ z) (hz : z < n9) (hd : decode M.2.1 pc = .ok (.iastore, 1)) (k : q_J M fr Q kc ks (pc + 1) lv st (q_up w a (q_ia n9 (q_us f z x)))) (hn9 : n9 < 2147483648 := by decide) : q_J M fr Q kc ks pc lv (q_i x :: q_i z :: .ref a :: st) w := by
  intro p l e R s m args below meth c D dA b n0 n mc ms H locs ls cells slots C hd2 hs hn hc hk hP hS hl
  refine va_iast (D := D) C.2.1 C.2.2.1 C.2.2.2.2.2.2.2.2.2.1.1 hP (q_c_D dA b w n) hS a 0 (q_c_get hd2 hw) rfl (q_ar (b := 0) h0 hz hn9) hd (fun H1 locs1 hP1 _ hS1 => ?_)
  rw [q_c_set (c := q_ia n9 (q_us f z x)) (hd2.lt hw) (by
    rw [q_cl ⟨by omega, by omega⟩]
    show Sum.inl (dA 0, n9, Sum.inl (upd (fun j : Nat => Int32.ofInt (f (j : Int))) z.toNat (Int32.ofInt x))) = Sum.inl (dA 0, n9, Sum.inl (fun j : Nat => Int32.ofInt (q_us f z x (j : Int))))
    congr 4
    funext j
    unfold upd q_us
    by_cases e : j = z.toNat
    · rw [if_pos e, if_pos (by omega)]
    · rw [if_neg e, if_neg (by omega)])] at hP1
  exact k p l e R s m args below meth c D dA b n0 n mc ms H1 locs1 ls cells slots C (hd2.up _ (hd2.lt hw)) hs hn hc hk hP1 hS1 hl
theorem q_last {a n9 : Nat} {f : Int → Int} {z x : Int} (hw : w a = some (q_la n9 f)) (h0 : 0 ≤ z) (hz : z < n9) (hd : decode M.2.1 pc = .ok (.lastore, 1)) (k : q_J M fr Q kc ks (pc + 1) lv st (q_up w a (q_la n9 (q_us f z x)))) (hn9 : n9 < 2147483648 := by decide) : q_J M fr Q kc ks pc lv (q_l x :: q_i z :: .ref a :: st) w := by
  intro p l e R s m args below meth c D dA b n0 n mc ms H locs ls cells slots C hd2 hs hn hc hk hP hS hl
  refine va_last (D := D) C.2.1 C.2.2.1 C.2.2.2.2.2.2.2.2.2.1.1 hP (q_c_D dA b w n) hS a 1 (q_c_get hd2 hw) rfl (q_ar (b := 0) h0 hz hn9) hd (fun H1 locs1 hP1 _ hS1 => ?_)
  rw [q_c_set (c := q_la n9 (q_us f z x)) (hd2.lt hw) (by
    rw [q_cl ⟨by omega, by omega⟩]
    show Sum.inl (dA 1, n9, Sum.inr (Sum.inl (vp_updL (fun j : Nat => Int64.ofInt (f (j : Int))) z.toNat (Int64.ofInt x)))) = Sum.inl (dA 1, n9, Sum.inr (Sum.inl (fun j : Nat => Int64.ofInt (q_us f z x (j : Int)))))
    congr 5
    funext j
    unfold vp_updL q_us
    by_cases e : j = z.toNat
    · rw [if_pos e, if_pos (by omega)]
    · rw [if_neg e, if_neg (by omega)])] at hP1
  exact k p l e R s m args below meth c D dA b n0 n mc ms H1 locs1 ls cells slots C (hd2.up _ (hd2.lt hw)) hs hn hc hk hP1 hS1 hl
theorem q_aald {a n9 ak : Nat} {f : Int → Option Nat} {z : Int} (hw : w a = some (q_ra ak n9 f)) (hak : ak = 2 ∨ ak = 3 ∨ ak = 4 ∨ ak = 5) (h0 : 0 ≤ z) (hz : z < n9) (hd : decode M.2.1 pc = .ok (.aaload, 1)) (k : q_J M fr Q kc ks (pc + 1) lv (q_rf (f z) :: st) w) (hn9 : n9 < 2147483648 := by decide) : q_J M fr Q kc ks pc lv (q_i z :: .ref a :: st) w := by
  intro p l e R s m args below meth c D dA b n0 n mc ms H locs ls cells slots C hd2 hs hn hc hk hP hS hl
  have kk := k p l e R s m args below meth c D dA b n0 n mc ms H locs ls cells slots C hd2 hs hn hc hk hP hS hl
  rw [List.map_cons, q_v_rf] at kk
  have hin := q_ar (b := 0) h0 hz hn9
  have hlt : (Int32.ofInt z).toNatClampNeg < n9 := by rw [q_cl ⟨by omega, by omega⟩]; omega
  have hget := q_c_get (dA := dA) (b := b) hd2 hw
  have hK := C.2.2.2.2.2.2.2.2.2.1.1
  obtain ⟨ty, ht, hty⟩ : ∃ ty, (q_tys dA)[ak]? = some (dA ak, ty) ∧ ty.isReference = true := by
    rcases hak with rfl | rfl | rfl | rfl
    · exact ⟨_, rfl, rfl⟩
    · exact ⟨_, rfl, rfl⟩
    · exact ⟨_, rfl, rfl⟩
    · exact ⟨_, rfl, rfl⟩
  refine W.aald (v := va_rf ((f z).map (fun x => b + x))) (ty := ty) C.2.1 C.2.2.1 (hP a _ hget) ((hK.2 ak _ ht).1 n9 _) hty (fun q => by cases q) (by show ¬ (Int32.ofInt z < 0 ∨ (arrV _ _ _).slots.size ≤ _); rw [arrV_size]; exact hin) (by show (arrV (dA ak) n9 (fun j : Nat => va_rf ((f (j : Int)).map (fun x => b + x)))).slots[_]? = _; rw [arrV_read _ _ hlt, q_cl ⟨by omega, by omega⟩, Int.toNat_of_nonneg h0]) rfl rfl hd kk
theorem q_alen {a n9 ak : Nat} {y : (Nat → Int32) ⊕ (Nat → Int64) ⊕ (Nat → UInt32) ⊕ (Nat → UInt64) ⊕ (Nat → Option Nat)} (hw : w a = some (.inl (ak, n9, y))) (hak : ak < 6) (hd : decode M.2.1 pc = .ok (.arraylength, 1)) (k : q_J M fr Q kc ks (pc + 1) lv (q_i n9 :: st) w) : q_J M fr Q kc ks pc lv (.ref a :: st) w := by
  intro p l e R s m args below meth c D dA b n0 n mc ms H locs ls cells slots C hd2 hs hn hc hk hP hS hl
  have kk := k p l e R s m args below meth c D dA b n0 n mc ms H locs ls cells slots C hd2 hs hn hc hk hP hS hl
  obtain ⟨ty, ht⟩ : ∃ ty, (q_tys dA)[ak]? = some (dA ak, ty) := by
    rcases (show ak = 0 ∨ ak = 1 ∨ ak = 2 ∨ ak = 3 ∨ ak = 4 ∨ ak = 5 by omega) with rfl | rfl | rfl | rfl | rfl | rfl <;> exact ⟨_, rfl⟩
  refine va_alen (D := D) C.2.1 C.2.2.1 C.2.2.2.2.2.2.2.2.2.1.1 hP a ak (q_c_get hd2 hw) ht (v := Int32.ofInt n9) ?_ hd kk
  have : (q_arr b (n9, y)).1 = n9 := by
    rcases y with y | y | y | y | y <;> rfl
  rw [this]
  rfl
/-! a call, by its run -/
theorem q_run {p : Program} {l : Launch} {e : Env} {R : Room} {s : State} {m : MethodId} {args : Array Value} {below : List Frame} {meth : Method} {c : Code} {H : Heap} {locs : List Loc} {cells slots kc1 ks1 n1 b : Nat} {Z : State → Prop} {ls : Array Slot} {st0 rest : List Value} {a : Array Value} {Q1 : Option Value → q_W → Prop} {D : va_G} {dA : Nat → ClassId}
    (hr : va_Run p l e R s m args below meth c H locs cells slots kc1 ks1 (F0 m pc ls st0) rest (q_Qc Q1 D dA b n1 a) (fun q => b ≤ q)) (hS : va_S (fun q => b ≤ q) s.heap H locs)
    (kk : ∀ (v : Option Value) (w' : q_W) (H1 : Heap) (locs1 : List Loc), Q1 v w' → q_dom w' n1 → va_P D vwCl (q_c dA b w' n1) H1 → va_S (fun q => b ≤ q) s.heap H1 locs1 → W p l e R s m args below meth c H1 locs1 (cells + kc1) (slots + ks1) Z (F0 m (pc + 3) ls ((v.toList ++ []).map (q_v b) ++ rest))) : W p l e R s m args below meth c H locs cells slots Z (F0 m pc ls st0) := by
  intro T hT X
  obtain ⟨v, st₀, t, T', L, h0, X', hL, e1, e2, ⟨⟨v', w', hv, hq, hd, hp⟩, hz, hk⟩, st⟩ := hr T hT X
  injection hv with hv
  subst hv
  rw [h0] at hz hk
  obtain ⟨t2, a1, b1⟩ := kk v' w' T'.heap (locs ++ L) hq hd (by rw [e1]; exact hp) ⟨Nat.le_trans hS.1 (by rw [e1]; exact hz), fun q h1 h2 => by rw [e1, hk q (Nat.lt_of_lt_of_le h1 hS.1) h2]; exact hS.2.1 q h1 h2, fun q hq => by
      rcases List.mem_append.mp hq with h | h
      · exact hS.2.2 q h
      · exact hL q h⟩ T' rfl X'
  refine ⟨t2, st t2 ?_, b1⟩
  have : (Option.map (q_v b) v').toList ++ rest = (v'.toList ++ []).map (q_v b) ++ rest := by cases v' <;> rfl
  dsimp only
  rw [this]
  exact a1
end QR
end
section
/-! calls and returns -/
/-- what a call asks of the tables: a method of the receiver's own class -/
def q_CV (own : String) (idx ci : Nat) (M1 : q_M) (np : Nat) : Prop := ∃ (T : u_T) (N : Nat), vwCl[ci]? = some (M1.1.cls, T, N) ∧ Cond.methodLink own idx M1.1 ∈ q_B ∧ Cond.instanceMethod M1.1 ∈ q_B ∧ Cond.selects M1.1.cls M1.1 M1.1 ∈ q_B ∧ Cond.initialized M1.1.cls ∈ q_B ∧ Cond.code M1.1 M1.2.1 M1.2.2.1 M1.2.2.2 ∈ q_B ∧ (M1.1.cls ≠ "java/lang/invoke/MethodHandle" ∧ M1.1.cls ≠ "java/lang/invoke/VarHandle") ∧ (parseMethodDescriptor M1.1.desc).map (fun d => d.parameters.length) = some np ∧ M1.2.2.1 ≤ 24
/-- .. a method M1 that the receiver's class (number ci) has for the named one x, declared in owner (ov: another method's code stands there) -/
def q_CU (own : String) (idx ci : Nat) (M1 : q_M) (np : Nat) : Prop := ∃ (C : String) (T : u_T) (N : Nat) (owner : String) (x : MethodName), vwCl[ci]? = some (C, T, N) ∧ Cond.methodLink own idx x ∈ q_B ∧ Cond.sameMethod x.cls owner x.name x.desc ∈ q_B ∧ Cond.selects C x M1.1 ∈ q_B ∧ Cond.instanceMethod M1.1 ∈ q_B ∧ Cond.initialized M1.1.cls ∈ q_B ∧ Cond.code M1.1 M1.2.1 M1.2.2.1 M1.2.2.2 ∈ q_B ∧ Cond.instanceMethod ⟨owner, x.name, x.desc⟩ ∈ q_B ∧ (∃ b0 m0 r0, Cond.code ⟨owner, x.name, x.desc⟩ b0 m0 r0 ∈ q_B) ∧ (owner ≠ "java/lang/invoke/MethodHandle" ∧ owner ≠ "java/lang/invoke/VarHandle") ∧ (parseMethodDescriptor x.desc).map (fun d => d.parameters.length) = some np ∧ M1.2.2.1 ≤ 24
def q_CS (own : String) (idx : Nat) (M1 : q_M) (np : Nat) : Prop := Cond.methodLink own idx M1.1 ∈ q_B ∧ Cond.static M1.1 ∈ q_B ∧ Cond.initialized M1.1.cls ∈ q_B ∧ Cond.code M1.1 M1.2.1 M1.2.2.1 M1.2.2.2 ∈ q_B ∧ (M1.1.cls ≠ "java/lang/invoke/MethodHandle" ∧ M1.1.cls ≠ "java/lang/invoke/VarHandle") ∧ (parseMethodDescriptor M1.1.desc).map (fun d => d.parameters.length) = some np ∧ M1.2.2.1 ≤ 24
def q_CI (own : String) (idx : Nat) (M1 : q_M) (np : Nat) : Prop := Cond.methodLink own idx M1.1 ∈ q_B ∧ Cond.instanceMethod M1.1 ∈ q_B ∧ Cond.initialized M1.1.cls ∈ q_B ∧ Cond.code M1.1 M1.2.1 M1.2.2.1 none ∈ q_B ∧ M1.2.2.2 = none ∧ M1.1.name = "<init>" ∧ (M1.1.cls ≠ "java/lang/invoke/MethodHandle" ∧ M1.1.cls ≠ "java/lang/invoke/VarHandle") ∧ (parseMethodDescriptor M1.1.desc).map (fun d => d.parameters.length) = some np ∧ M1.2.2.1 ≤ 24
/-- .. a nest mate's constructor -/
def q_CN (own : String) (idx : Nat) (M1 : q_M) (host : String) (np : Nat) : Prop := (own, idx, M1.1, host) ∈ q_nl ∧ Cond.instanceMethod M1.1 ∈ q_B ∧ Cond.initialized M1.1.cls ∈ q_B ∧ Cond.code M1.1 M1.2.1 M1.2.2.1 none ∈ q_B ∧ M1.2.2.2 = none ∧ M1.1.name = "<init>" ∧ (M1.1.cls ≠ "java/lang/invoke/MethodHandle" ∧ M1.1.cls ≠ "java/lang/invoke/VarHandle") ∧ (parseMethodDescriptor M1.1.desc).map (fun d => d.parameters.length) = some np ∧ M1.2.2.1 ≤ 24
theorem q_allB {x : Cond} {l : List Cond} (h : x ∈ q_B) (hl : ∀ w ∈ l, w ∈ q_B) : ∀ w ∈ l ++ (x :: q_B), w ∈ q_B := fun w hw => by
  rcases List.mem_append.mp hw with h1 | h1
  · exact hl w h1
  · rcases List.mem_cons.mp h1 with h2 | h2
    · rw [h2]; exact h
    · exact h2
theorem q_blind {av : List Value} {D : va_G} {dA : Nat → ClassId} {b n : Nat} {w : q_W} : FrameBlind (va_Pc av (fun U => U.heap.size = b + n ∧ va_P D vwCl (q_c dA b w n) U.heap ∧ q_K D dA U)) := fun a U g mk q => ⟨q.1, q.2.1, q.2.2.1, q_K.same (u := U) (U := U.calling g mk a) rfl q.2.2.2⟩
section QR
variable {M : q_M} {fr : Nat} {Q : Option Value → q_W → Prop} {kc ks kc0 ks0 pc : Nat} {lv : List (Option Value)} {st st0 : List Value} {w : q_W}
theorem q_roomle {fr fr1 nL mc ms kc1 ks1 : Nat} (h : fr1 + 1 ≤ fr) (hL : nL ≤ 24) : (q_rm fr1 kc1 ks1).frames + 1 ≤ (q_rm fr mc ms).frames ∧ 8 + (nL + 11) + (q_rm fr1 kc1 ks1).locals ≤ (q_rm fr mc ms).locals := ⟨h, by show 8 + (nL + 11) + 43 * fr1 ≤ 43 * fr; omega⟩
theorem q_catsum (b : Nat) (l : List Value) : ((l.map (q_v b)).map (fun v => v.category)).sum = (l.map (fun v => v.category)).sum := by
  rw [List.map_map]
  congr 1
  apply List.map_congr_left
  intro a _
  exact q_v_cat b a
theorem q_stk (b : Nat) {As : List Value} {a : Nat} (h : st0 = As.reverse ++ .ref a :: st) : st0.map (q_v b) = (As.map (q_v b)).reverse ++ .ref (b + a) :: st.map (q_v b) := by
  rw [h, List.map_append, List.map_reverse, List.map_cons]
  rfl
theorem q_stkS (b : Nat) {As : List Value} (h : st0 = As.reverse ++ st) : st0.map (q_v b) = (As.map (q_v b)).reverse ++ st.map (q_v b) := by
  rw [h, List.map_append, List.map_reverse]
theorem q_callV {M1 : q_M} {fr1 kc1 ks1 idx a ci np : Nat} {fs : List Value} (As : List Value) {Q1 : Option Value → q_W → Prop} (hc1 : q_CV M.1.cls idx ci M1 np) (hw : w a = some (q_ob ci fs)) (hT1 : q_T M1 fr1 kc1 ks1 (.ref a :: As) w Q1) (hfr : fr1 + 1 ≤ fr) (hn1 : As.length = np) (hst : st0 = As.reverse ++ .ref a :: st) (hroom : (st.map (fun v => v.category)).sum ≤ 8) (hkc : kc0 = kc1 + kc) (hks : ks0 = ks1 + ks) (hd : decode M.2.1 pc = .ok (.invokevirtual idx, 3))
    (k : ∀ (v : Option Value) (w' : q_W), Q1 v w' → q_J M fr Q kc ks (pc + 3) lv (v.toList ++ [] ++ st) w') : q_J M fr Q kc0 ks0 pc lv st0 w := by
  intro p l e R s m args below meth c D dA b n0 n mc ms H locs ls cells slots C hd2 hs hn hc hk hP hS hl
  obtain ⟨T, N, h1, h2, h3, h4, h5, h6, h7, h8, h9⟩ := hc1
  have hsx := C.1
  subst hsx
  intro T9 hT9 X
  have hsz := q_size X hT9 hd2 hs hn hP hS
  have hr := va_recv C.2.2.2.2.2.2.2.2.2.1.1 hP (ci := ci) (q0 := a) h1 (q_c_get hd2 hw)
  refine (q_run (va_runV (As := As.map (q_v b)) (rest := st.map (q_v b)) ⟨C.2.1, C.2.2.1, C.2.2.2.1, C.2.2.2.2.1, C.2.2.2.2.2.2.2.2.1⟩ (hT1 l D dA b n hd2) (cwV np C.2.2.2.2.2.2.2.2.1 (q_goodB (q_allB h6 (List.forall_mem_cons.mpr ⟨h2, List.forall_mem_cons.mpr ⟨h3, List.forall_mem_cons.mpr ⟨h4, List.forall_mem_cons.mpr ⟨h5, fun _ h => absurd h List.not_mem_nil⟩⟩⟩⟩))) rfl rfl rfl ⟨rfl, h7.1, h7.2, h8⟩ (q_roomle hfr h9))
    ⟨q_blind, hr, fun U hU hW => ⟨rfl, by rw [hU]; exact hsz, by rw [hU]; exact hP, C.2.2.2.2.2.2.2.2.2.1.warm hW⟩⟩ rfl (by rw [List.length_map]; exact hn1) hl.1 (q_stk b hst) (lv_room (by rw [q_catsum]; exact hroom)) hd ⟨by show cells + kc1 ≤ mc; omega, by show slots + ks1 ≤ ms; omega⟩) hS (fun v w' H1 locs1 hq hd3 hP1 hS1 => ?_)) T9 hT9 X
  have kk := k v w' hq p l e _ s m args below meth c D dA b n0 (n + kc1) mc ms H1 locs1 ls (cells + kc1) (slots + ks1) C hd3 hs (by omega) (by omega) (by omega) hP1 hS1 hl
  rw [List.map_append] at kk
  exact kk
theorem q_callU {M1 : q_M} {fr1 kc1 ks1 idx a ci np : Nat} {fs : List Value} (As : List Value) {Q1 : Option Value → q_W → Prop} (hc1 : q_CU M.1.cls idx ci M1 np) (hw : w a = some (q_ob ci fs)) (hT1 : q_T M1 fr1 kc1 ks1 (.ref a :: As) w Q1) (hfr : fr1 + 1 ≤ fr) (hn1 : As.length = np) (hst : st0 = As.reverse ++ .ref a :: st) (hroom : (st.map (fun v => v.category)).sum ≤ 8) (hkc : kc0 = kc1 + kc) (hks : ks0 = ks1 + ks) (hd : decode M.2.1 pc = .ok (.invokevirtual idx, 3))
    (k : ∀ (v : Option Value) (w' : q_W), Q1 v w' → q_J M fr Q kc ks (pc + 3) lv (v.toList ++ [] ++ st) w') : q_J M fr Q kc0 ks0 pc lv st0 w := by
  intro p l e R s m args below meth c D dA b n0 n mc ms H locs ls cells slots C hd2 hs hn hc hk hP hS hl
  obtain ⟨Cn, T, N, owner, x, h1, h2, h3, h4, h5, h6, h7, h8, ⟨b0, m0, r0, h9⟩, h10, h11, h12⟩ := hc1
  have hsx := C.1
  subst hsx
  intro T9 hT9 X
  have hsz := q_size X hT9 hd2 hs hn hP hS
  have hr := va_recv C.2.2.2.2.2.2.2.2.2.1.1 hP (ci := ci) (q0 := a) h1 (q_c_get hd2 hw)
  refine (q_run (va_runU (As := As.map (q_v b)) (rest := st.map (q_v b)) ⟨C.2.1, C.2.2.1, C.2.2.2.1, C.2.2.2.2.1, C.2.2.2.2.2.2.2.2.1⟩ (hT1 l D dA b n hd2) (va_cwO (C := Cn) (owner := owner) (x := x) np C.2.2.2.2.2.2.2.2.1 (q_goodB (q_allB h7 (List.forall_mem_cons.mpr ⟨h2, List.forall_mem_cons.mpr ⟨h3, List.forall_mem_cons.mpr ⟨h8, List.forall_mem_cons.mpr ⟨h4, List.forall_mem_cons.mpr ⟨h5, List.forall_mem_cons.mpr ⟨h6, fun _ h => absurd h List.not_mem_nil⟩⟩⟩⟩⟩⟩))) rfl rfl rfl h9 ⟨h10.1, h10.2, h11⟩ (q_roomle hfr h12))
    ⟨q_blind, hr, fun U hU hW => ⟨rfl, by rw [hU]; exact hsz, by rw [hU]; exact hP, C.2.2.2.2.2.2.2.2.2.1.warm hW⟩⟩ rfl (by rw [List.length_map]; exact hn1) hl.1 (q_stk b hst) (lv_room (by rw [q_catsum]; exact hroom)) hd ⟨by show cells + kc1 ≤ mc; omega, by show slots + ks1 ≤ ms; omega⟩) hS (fun v w' H1 locs1 hq hd3 hP1 hS1 => ?_)) T9 hT9 X
  have kk := k v w' hq p l e _ s m args below meth c D dA b n0 (n + kc1) mc ms H1 locs1 ls (cells + kc1) (slots + ks1) C hd3 hs (by omega) (by omega) (by omega) hP1 hS1 hl
  rw [List.map_append] at kk
  exact kk
theorem q_callS {M1 : q_M} {fr1 kc1 ks1 idx np : Nat} (As : List Value) {Q1 : Option Value → q_W → Prop} (hc1 : q_CS M.1.cls idx M1 np) (hT1 : q_T M1 fr1 kc1 ks1 As w Q1) (hfr : fr1 + 1 ≤ fr) (hn1 : As.length = np) (hst : st0 = As.reverse ++ st) (hroom : (st.map (fun v => v.category)).sum ≤ 8) (hkc : kc0 = kc1 + kc) (hks : ks0 = ks1 + ks) (hd : decode M.2.1 pc = .ok (.invokestatic idx, 3))
    (k : ∀ (v : Option Value) (w' : q_W), Q1 v w' → q_J M fr Q kc ks (pc + 3) lv (v.toList ++ [] ++ st) w') : q_J M fr Q kc0 ks0 pc lv st0 w := by
  intro p l e R s m args below meth c D dA b n0 n mc ms H locs ls cells slots C hd2 hs hn hc hk hP hS hl
  obtain ⟨h2, h3, h5, h6, h7, h8, h9⟩ := hc1
  have hsx := C.1
  subst hsx
  intro T9 hT9 X
  have hsz := q_size X hT9 hd2 hs hn hP hS
  refine (q_run (va_runS (As := As.map (q_v b)) (rest := st.map (q_v b)) ⟨C.2.1, C.2.2.1, C.2.2.2.1, C.2.2.2.2.1, C.2.2.2.2.2.2.2.2.1⟩ (hT1 l D dA b n hd2) (va_cwS np C.2.2.2.2.2.2.2.2.1 (q_goodB (q_allB h6 (List.forall_mem_cons.mpr ⟨h2, List.forall_mem_cons.mpr ⟨h3, List.forall_mem_cons.mpr ⟨h5, fun _ h => absurd h List.not_mem_nil⟩⟩⟩))) rfl rfl rfl ⟨h7.1, h7.2, h8⟩ (q_roomle hfr h9))
    ⟨q_blind, fun U hU hW => ⟨rfl, by rw [hU]; exact hsz, by rw [hU]; exact hP, C.2.2.2.2.2.2.2.2.2.1.warm hW⟩⟩ rfl (by rw [List.length_map]; exact hn1) hl.1 (q_stkS b hst) (lv_room (by rw [q_catsum]; exact hroom)) hd ⟨by show cells + kc1 ≤ mc; omega, by show slots + ks1 ≤ ms; omega⟩) hS (fun v w' H1 locs1 hq hd3 hP1 hS1 => ?_)) T9 hT9 X
  have kk := k v w' hq p l e _ s m args below meth c D dA b n0 (n + kc1) mc ms H1 locs1 ls (cells + kc1) (slots + ks1) C hd3 hs (by omega) (by omega) (by omega) hP1 hS1 hl
  rw [List.map_append] at kk
  exact kk
theorem q_callI {M1 : q_M} {fr1 kc1 ks1 idx a np : Nat} (As : List Value) {Q1 : Option Value → q_W → Prop} (hc1 : q_CI M.1.cls idx M1 np) (hT1 : q_T M1 fr1 kc1 ks1 (.ref a :: As) w Q1) (hfr : fr1 + 1 ≤ fr) (hn1 : As.length = np) (hst : st0 = As.reverse ++ .ref a :: st) (hroom : (st.map (fun v => v.category)).sum ≤ 8) (hkc : kc0 = kc1 + kc) (hks : ks0 = ks1 + ks) (hd : decode M.2.1 pc = .ok (.invokespecial idx, 3))
    (k : ∀ (v : Option Value) (w' : q_W), Q1 v w' → q_J M fr Q kc ks (pc + 3) lv (v.toList ++ [] ++ st) w') : q_J M fr Q kc0 ks0 pc lv st0 w := by
  intro p l e R s m args below meth c D dA b n0 n mc ms H locs ls cells slots C hd2 hs hn hc hk hP hS hl
  obtain ⟨y9, c9, L9, r9⟩ := M1
  obtain ⟨h2, h3, h5, h6, h10, h11, h7, h8, h9⟩ := hc1
  dsimp only at h10
  subst h10
  have hsx := C.1
  subst hsx
  intro T9 hT9 X
  have hsz := q_size X hT9 hd2 hs hn hP hS
  refine (q_run (va_runI (As := As.map (q_v b)) (rest := st.map (q_v b)) ⟨C.2.1, C.2.2.1, C.2.2.2.1, C.2.2.2.2.1, C.2.2.2.2.2.2.2.2.1⟩ (hT1 l D dA b n hd2) (cwI np C.2.2.2.2.2.2.2.2.1 (q_goodB (q_allB (l := []) h6 (fun w hw => by cases hw))) rfl rfl rfl (C.2.2.2.2.2.2.2.2.1 _ h5) (C.2.2.2.2.2.2.2.2.1 _ h2) (C.2.2.2.2.2.2.2.2.1 _ h3) h11 ⟨h7.1, h7.2, h8⟩ (q_roomle hfr h9))
    ⟨q_blind, fun U hU hW => ⟨rfl, by rw [hU]; exact hsz, by rw [hU]; exact hP, C.2.2.2.2.2.2.2.2.2.1.warm hW⟩⟩ rfl (by rw [List.length_map]; exact hn1) hl.1 (q_stk b hst) (lv_room (by rw [q_catsum]; exact hroom)) hd ⟨by show cells + kc1 ≤ mc; omega, by show slots + ks1 ≤ ms; omega⟩) hS (fun v w' H1 locs1 hq hd3 hP1 hS1 => ?_)) T9 hT9 X
  have kk := k v w' hq p l e _ s m args below meth c D dA b n0 (n + kc1) mc ms H1 locs1 ls (cells + kc1) (slots + ks1) C hd3 hs (by omega) (by omega) (by omega) hP1 hS1 hl
  rw [List.map_append] at kk
  exact kk
theorem q_callN {M1 : q_M} {fr1 kc1 ks1 idx a np : Nat} {host : String} (As : List Value) {Q1 : Option Value → q_W → Prop} (hc1 : q_CN M.1.cls idx M1 host np) (hT1 : q_T M1 fr1 kc1 ks1 (.ref a :: As) w Q1) (hfr : fr1 + 1 ≤ fr) (hn1 : As.length = np) (hst : st0 = As.reverse ++ .ref a :: st) (hroom : (st.map (fun v => v.category)).sum ≤ 8) (hkc : kc0 = kc1 + kc) (hks : ks0 = ks1 + ks) (hd : decode M.2.1 pc = .ok (.invokespecial idx, 3))
    (k : ∀ (v : Option Value) (w' : q_W), Q1 v w' → q_J M fr Q kc ks (pc + 3) lv (v.toList ++ [] ++ st) w') : q_J M fr Q kc0 ks0 pc lv st0 w := by
  intro p l e R s m args below meth c D dA b n0 n mc ms H locs ls cells slots C hd2 hs hn hc hk hP hS hl
  obtain ⟨y9, c9, L9, r9⟩ := M1
  obtain ⟨h2, h3, h5, h6, h10, h11, h7, h8, h9⟩ := hc1
  dsimp only at h10
  subst h10
  have hsx := C.1
  subst hsx
  intro T9 hT9 X
  have hsz := q_size X hT9 hd2 hs hn hP hS
  refine (q_run (va_runIN (As := As.map (q_v b)) (rest := st.map (q_v b)) ⟨C.2.1, C.2.2.1, C.2.2.2.1, C.2.2.2.2.1, C.2.2.2.2.2.2.2.2.1⟩ (hT1 l D dA b n hd2) ⟨va_cnB np C.2.2.2.2.2.2.2.2.1 (q_goodB (q_allB (l := []) h6 (fun w hw => by cases hw))) rfl rfl rfl (C.2.2.2.2.2.2.2.2.2.1.2.2.2.2.1 _ h2) (C.2.2.2.2.2.2.2.2.1 _ h5) ⟨h7.1, h7.2, h8⟩ (q_roomle hfr h9), h11, C.2.2.2.2.2.2.2.2.1 _ h3⟩
    ⟨q_blind, fun U hU hW => ⟨rfl, by rw [hU]; exact hsz, by rw [hU]; exact hP, C.2.2.2.2.2.2.2.2.2.1.warm hW⟩⟩ rfl (by rw [List.length_map]; exact hn1) hl.1 (q_stk b hst) (lv_room (by rw [q_catsum]; exact hroom)) hd ⟨by show cells + kc1 ≤ mc; omega, by show slots + ks1 ≤ ms; omega⟩) hS (fun v w' H1 locs1 hq hd3 hP1 hS1 => ?_)) T9 hT9 X
  have kk := k v w' hq p l e _ s m args below meth c D dA b n0 (n + kc1) mc ms H1 locs1 ls (cells + kc1) (slots + ks1) C hd3 hs (by omega) (by omega) (by omega) hP1 hS1 hl
  rw [List.map_append] at kk
  exact kk
/-! returns -/
theorem q_iret {z : Int} (hr : M.2.2.2 = some .int) (hd : decode M.2.1 pc = .ok (.ireturn, 1)) (hq : Q (some (q_i z)) w) : q_J M fr Q 0 ks pc lv [q_i z] w := by
  intro p l e R s m args below meth c D dA b n0 n mc ms H locs ls cells slots C hd2 hs hn hc hk hP hS hl
  refine W.widen (k := mc) (n := ms) (by omega) (by omega) ?_
  exact W.iret (v := Int32.ofInt z) C.2.1 C.2.2.1 (C.2.2.2.2.2.1.trans hr) (fun t ht hW => ⟨⟨some (q_i z), w, rfl, hq, by rw [show n0 + mc = n by omega]; exact hd2, by rw [ht, show n0 + mc = n by omega]; exact hP⟩, hS.F ht⟩) hS.2.2 hd C.2.2.2.2.2.2.1
theorem q_lret {z : Int} (hr : M.2.2.2 = some .long) (hd : decode M.2.1 pc = .ok (.lreturn, 1)) (hq : Q (some (q_l z)) w) : q_J M fr Q 0 ks pc lv [q_l z] w := by
  intro p l e R s m args below meth c D dA b n0 n mc ms H locs ls cells slots C hd2 hs hn hc hk hP hS hl
  refine W.widen (k := mc) (n := ms) (by omega) (by omega) ?_
  exact W.lret (v := Int64.ofInt z) C.2.1 C.2.2.1 (C.2.2.2.2.2.1.trans hr) (fun t ht hW => ⟨⟨some (q_l z), w, rfl, hq, by rw [show n0 + mc = n by omega]; exact hd2, by rw [ht, show n0 + mc = n by omega]; exact hP⟩, hS.F ht⟩) hS.2.2 hd C.2.2.2.2.2.2.1
theorem q_zret {z : Int} (hr : M.2.2.2 = some .boolean) (hz : z = 0 ∨ z = 1) (hd : decode M.2.1 pc = .ok (.ireturn, 1)) (hq : Q (some (q_i z)) w) : q_J M fr Q 0 ks pc lv [q_i z] w := by
  intro p l e R s m args below meth c D dA b n0 n mc ms H locs ls cells slots C hd2 hs hn hc hk hP hS hl
  refine W.widen (k := mc) (n := ms) (by omega) (by omega) ?_
  exact W.zret (v := Int32.ofInt z) (ty := .boolean) C.2.1 C.2.2.1 (C.2.2.2.2.2.1.trans hr) (by rcases hz with rfl | rfl <;> decide) (fun t ht hW => ⟨⟨some (q_i z), w, rfl, hq, by rw [show n0 + mc = n by omega]; exact hd2, by rw [ht, show n0 + mc = n by omega]; exact hP⟩, hS.F ht⟩) hS.2.2 hd C.2.2.2.2.2.2.1
theorem q_vret (hr : M.2.2.2 = none) (hd : decode M.2.1 pc = .ok (.return_, 1)) (hq : Q none w) : q_J M fr Q 0 ks pc lv [] w := by
  intro p l e R s m args below meth c D dA b n0 n mc ms H locs ls cells slots C hd2 hs hn hc hk hP hS hl
  refine W.widen (k := mc) (n := ms) (by omega) (by omega) ?_
  exact W.vret C.2.1 C.2.2.1 (C.2.2.2.2.2.1.trans hr) (fun t ht hW => ⟨⟨none, w, rfl, hq, by rw [show n0 + mc = n by omega]; exact hd2, by rw [ht, show n0 + mc = n by omega]; exact hP⟩, hS.F ht⟩) hS.2.2 hd C.2.2.2.2.2.2.1
theorem q_aret {o : Option Nat} {C0 : String} (hr : M.2.2.2 = some (.object C0)) (hd : decode M.2.1 pc = .ok (.areturn, 1)) (hq : Q (some (q_rf o)) w) : q_J M fr Q 0 ks pc lv [q_rf o] w := by
  intro p l e R s m args below meth c D dA b n0 n mc ms H locs ls cells slots C hd2 hs hn hc hk hP hS hl
  refine W.widen (k := mc) (n := ms) (by omega) (by omega) ?_
  exact W.aret (v := q_v b (q_rf o)) C.2.1 C.2.2.1 (C.2.2.2.2.2.1.trans hr) (Or.inl ⟨C0, rfl⟩) (by cases o; exact Or.inl rfl; exact Or.inr ⟨_, rfl⟩) (fun t ht hW => ⟨⟨some (q_rf o), w, rfl, hq, by rw [show n0 + mc = n by omega]; exact hd2, by rw [ht, show n0 + mc = n by omega]; exact hP⟩, hS.F ht⟩) hS.2.2 hd C.2.2.2.2.2.2.1
end QR
end
section
/-! classes asked, Math, arraycopy, switches, new cells -/
section QR
variable {M : q_M} {fr : Nat} {Q : Option Value → q_W → Prop} {kc ks kc0 ks0 pc : Nat} {lv : List (Option Value)} {st st0 : List Value} {w : q_W}
theorem q_instY {a ci idx : Nat} {fs : List Value} {C nm : String} {T : u_T} {N : Nat} (h1 : vwCl[ci]? = some (C, T, N)) (hc1 : (C, nm) ∈ q_cs) (hlk : Cond.classLink M.1.cls idx nm ∈ q_B) (hw : w a = some (q_ob ci fs)) (hd : decode M.2.1 pc = .ok (.instanceof idx, 3)) (k : q_J M fr Q kc ks (pc + 3) lv (q_i 1 :: st) w) : q_J M fr Q kc ks pc lv (.ref a :: st) w := by
  intro p l e R s m args below meth c D dA b n0 n mc ms H locs ls cells slots C9 hd2 hs hn hc hk hP hS hl
  exact va_instY C9.2.1 C9.2.2.1 C9.2.2.2.2.1 (C9.2.2.2.2.2.2.2.2.1 _ hlk) (C9.2.2.2.2.2.2.2.2.2.1.2.2.1 _ hc1) (va_recv C9.2.2.2.2.2.2.2.2.2.1.1 hP (ci := ci) (q0 := a) h1 (q_c_get hd2 hw)) hd (k p l e R s m args below meth c D dA b n0 n mc ms H locs ls cells slots C9 hd2 hs hn hc hk hP hS hl)
theorem q_instS {a ci idx : Nat} {fs : List Value} {C : String} {T : u_T} {N : Nat} (h1 : vwCl[ci]? = some (C, T, N)) (hlk : Cond.classLink M.1.cls idx C ∈ q_B) (hw : w a = some (q_ob ci fs)) (hd : decode M.2.1 pc = .ok (.instanceof idx, 3)) (k : q_J M fr Q kc ks (pc + 3) lv (q_i 1 :: st) w) : q_J M fr Q kc ks pc lv (.ref a :: st) w := by
  intro p l e R s m args below meth c D dA b n0 n mc ms H locs ls cells slots C9 hd2 hs hn hc hk hP hS hl
  exact va_instS C9.2.1 C9.2.2.1 C9.2.2.2.2.1 (C9.2.2.2.2.2.2.2.2.1 _ hlk) (C9.2.2.2.2.2.2.2.2.2.1.1.1 ci _ h1).2 (va_recv C9.2.2.2.2.2.2.2.2.2.1.1 hP (ci := ci) (q0 := a) h1 (q_c_get hd2 hw)) hd (k p l e R s m args below meth c D dA b n0 n mc ms H locs ls cells slots C9 hd2 hs hn hc hk hP hS hl)
theorem q_instNo {a ci idx : Nat} {fs : List Value} {C nm : String} {T : u_T} {N : Nat} (h1 : vwCl[ci]? = some (C, T, N)) (hc1 : (C, nm) ∈ q_nc) (hlk : Cond.classLink M.1.cls idx nm ∈ q_B) (hw : w a = some (q_ob ci fs)) (hd : decode M.2.1 pc = .ok (.instanceof idx, 3)) (k : q_J M fr Q kc ks (pc + 3) lv (q_i 0 :: st) w) : q_J M fr Q kc ks pc lv (.ref a :: st) w := by
  intro p l e R s m args below meth c D dA b n0 n mc ms H locs ls cells slots C9 hd2 hs hn hc hk hP hS hl
  exact va_instNo C9.2.1 C9.2.2.1 C9.2.2.2.2.1 (C9.2.2.2.2.2.2.2.2.1 _ hlk) (C9.2.2.2.2.2.2.2.2.2.1.2.1 _ hc1) (va_recv C9.2.2.2.2.2.2.2.2.2.1.1 hP (ci := ci) (q0 := a) h1 (q_c_get hd2 hw)) hd (k p l e R s m args below meth c D dA b n0 n mc ms H locs ls cells slots C9 hd2 hs hn hc hk hP hS hl)
theorem q_castY {a ci idx : Nat} {fs : List Value} {C nm : String} {T : u_T} {N : Nat} (h1 : vwCl[ci]? = some (C, T, N)) (hc1 : (C, nm) ∈ q_cs) (hlk : Cond.classLink M.1.cls idx nm ∈ q_B) (hw : w a = some (q_ob ci fs)) (hd : decode M.2.1 pc = .ok (.checkcast idx, 3)) (k : q_J M fr Q kc ks (pc + 3) lv (.ref a :: st) w) : q_J M fr Q kc ks pc lv (.ref a :: st) w := by
  intro p l e R s m args below meth c D dA b n0 n mc ms H locs ls cells slots C9 hd2 hs hn hc hk hP hS hl
  exact va_castY C9.2.1 C9.2.2.1 C9.2.2.2.2.1 (C9.2.2.2.2.2.2.2.2.1 _ hlk) (C9.2.2.2.2.2.2.2.2.2.1.2.2.1 _ hc1) (va_recv C9.2.2.2.2.2.2.2.2.2.1.1 hP (ci := ci) (q0 := a) h1 (q_c_get hd2 hw)) hd (k p l e R s m args below meth c D dA b n0 n mc ms H locs ls cells slots C9 hd2 hs hn hc hk hP hS hl)
theorem q_castS {a ci idx : Nat} {fs : List Value} {C : String} {T : u_T} {N : Nat} (h1 : vwCl[ci]? = some (C, T, N)) (hlk : Cond.classLink M.1.cls idx C ∈ q_B) (hw : w a = some (q_ob ci fs)) (hd : decode M.2.1 pc = .ok (.checkcast idx, 3)) (k : q_J M fr Q kc ks (pc + 3) lv (.ref a :: st) w) : q_J M fr Q kc ks pc lv (.ref a :: st) w := by
  intro p l e R s m args below meth c D dA b n0 n mc ms H locs ls cells slots C9 hd2 hs hn hc hk hP hS hl
  exact va_castS C9.2.1 C9.2.2.1 C9.2.2.2.2.1 (C9.2.2.2.2.2.2.2.2.1 _ hlk) (C9.2.2.2.2.2.2.2.2.2.1.1.1 ci _ h1).2 (va_recv C9.2.2.2.2.2.2.2.2.2.1.1 hP (ci := ci) (q0 := a) h1 (q_c_get hd2 hw)) hd (k p l e R s m args below meth c D dA b n0 n mc ms H locs ls cells slots C9 hd2 hs hn hc hk hP hS hl)
theorem q_jmax {idx : Nat} {x y : Int} (h1 : Cond.methodLink M.1.cls idx Lib.Math.max.name ∈ q_B) (h2 : Cond.static Lib.Math.max.name ∈ q_B) (h3 : Cond.initialized "java/lang/Math" ∈ q_B) (h4 : Cond.code Lib.Math.max.name Lib.Math.max.code 2 (some .int) ∈ q_B) (hfr : 1 ≤ fr) (hroom : (st.map (fun v => v.category)).sum ≤ 8) (hx : q_r x) (hy : q_r y) (hd : decode M.2.1 pc = .ok (.invokestatic idx, 3)) (k : q_J M fr Q kc ks (pc + 3) lv (q_i (if x < y then y else x) :: st) w) : q_J M fr Q kc ks pc lv (q_i y :: q_i x :: st) w := by
  intro p l e R s m args below meth c D dA b n0 n mc ms H locs ls cells slots C hd2 hs hn hc hk hP hS hl
  have hB := C.2.2.2.2.2.2.2.2.1
  refine va_mmax C.2.1 C.2.2.1 (C.2.2.2.1.trans hl.1.symm) C.2.2.2.2.1 (hB _ h1) (hB _ h2) (hB _ h3) (hB _ h4) (by rw [C.1]; exact hfr) (by rw [C.1, q_catsum]; show _ ≤ 43 * fr; omega) (by rw [C.1]; show cells ≤ mc; omega) (by rw [C.1]; show slots ≤ ms; omega) hd ?_
  have kk := k p l e R s m args below meth c D dA b n0 n mc ms H locs ls cells slots C hd2 hs hn hc hk hP hS hl
  have e9 : (if Int32.ofInt x < Int32.ofInt y then Int32.ofInt y else Int32.ofInt x) = Int32.ofInt (if x < y then y else x) := by
    by_cases q : x < y
    · rw [if_pos q, if_pos ((q_32lt hx hy).mpr q)]
    · rw [if_neg q, if_neg (fun q2 => q ((q_32lt hx hy).mp q2))]
  rw [e9]
  exact kk
theorem q_jmin {idx : Nat} {x y : Int} (h1 : Cond.methodLink M.1.cls idx Lib.Math.min.name ∈ q_B) (h2 : Cond.static Lib.Math.min.name ∈ q_B) (h3 : Cond.initialized "java/lang/Math" ∈ q_B) (h4 : Cond.code Lib.Math.min.name Lib.Math.min.code 2 (some .int) ∈ q_B) (hfr : 1 ≤ fr) (hroom : (st.map (fun v => v.category)).sum ≤ 8) (hx : q_r x) (hy : q_r y) (hd : decode M.2.1 pc = .ok (.invokestatic idx, 3)) (k : q_J M fr Q kc ks (pc + 3) lv (q_i (if y < x then y else x) :: st) w) : q_J M fr Q kc ks pc lv (q_i y :: q_i x :: st) w := by
  intro p l e R s m args below meth c D dA b n0 n mc ms H locs ls cells slots C hd2 hs hn hc hk hP hS hl
  have hB := C.2.2.2.2.2.2.2.2.1
  refine va_mmin C.2.1 C.2.2.1 (C.2.2.2.1.trans hl.1.symm) C.2.2.2.2.1 (hB _ h1) (hB _ h2) (hB _ h3) (hB _ h4) (by rw [C.1]; exact hfr) (by rw [C.1, q_catsum]; show _ ≤ 43 * fr; omega) (by rw [C.1]; show cells ≤ mc; omega) (by rw [C.1]; show slots ≤ ms; omega) hd ?_
  have kk := k p l e R s m args below meth c D dA b n0 n mc ms H locs ls cells slots C hd2 hs hn hc hk hP hS hl
  have e9 : (if Int32.ofInt y < Int32.ofInt x then Int32.ofInt y else Int32.ofInt x) = Int32.ofInt (if y < x then y else x) := by
    by_cases q : y < x
    · rw [if_pos q, if_pos ((q_32lt hy hx).mpr q)]
    · rw [if_neg q, if_neg (fun q2 => q ((q_32lt hy hx).mp q2))]
  rw [e9]
  exact kk
theorem q_jmaxl {idx : Nat} {x y : Int} (h1 : Cond.methodLink M.1.cls idx Lib.MathLoose.max_long.x ∈ q_B) (h2 : Cond.static Lib.MathLoose.max_long.x ∈ q_B) (h3 : Cond.initialized "java/lang/Math" ∈ q_B) (h4 : Cond.code Lib.MathLoose.max_long.x Lib.MathLoose.max_long.code 4 (some .long) ∈ q_B) (hfr : 1 ≤ fr) (hroom : (st.map (fun v => v.category)).sum ≤ 8) (hx : q_rl x) (hy : q_rl y) (hd : decode M.2.1 pc = .ok (.invokestatic idx, 3)) (k : q_J M fr Q kc ks (pc + 3) lv (q_l (if x < y then y else x) :: st) w) : q_J M fr Q kc ks pc lv (q_l y :: q_l x :: st) w := by
  intro p l e R s m args below meth c D dA b n0 n mc ms H locs ls cells slots C hd2 hs hn hc hk hP hS hl
  have hB := C.2.2.2.2.2.2.2.2.1
  refine va_mmax_long C.2.1 C.2.2.1 (C.2.2.2.1.trans hl.1.symm) C.2.2.2.2.1 (hB _ h1) (hB _ h2) (hB _ h3) (hB _ h4) (by rw [C.1]; exact hfr) (by rw [C.1, q_catsum]; show _ ≤ 43 * fr; omega) (by rw [C.1]; show cells ≤ mc; omega) (by rw [C.1]; show slots ≤ ms; omega) hd ?_
  have kk := k p l e R s m args below meth c D dA b n0 n mc ms H locs ls cells slots C hd2 hs hn hc hk hP hS hl
  have e9 : (if Int64.ofInt y < Int64.ofInt x then Int64.ofInt x else Int64.ofInt y) = Int64.ofInt (if x < y then y else x) := by
    by_cases q : y < x
    · rw [if_neg (show ¬ x < y by omega), if_pos ((q_64lt hy hx).mpr q)]
    · rw [if_neg (fun q2 => q ((q_64lt hy hx).mp q2))]
      by_cases q3 : x < y
      · rw [if_pos q3]
      · rw [if_neg q3, show x = y by omega]
  rw [e9]
  exact kk
/-- f's places from sp on, n of them, come to g's from dp on -/
def q_cpy (f g : Int → Int) (sp dp n : Int) : Int → Int := fun j => if dp ≤ j ∧ j < dp + n then f (sp + (j - dp)) else g j
theorem q_copyi {idx a0 a1 n0' n1' : Nat} {f g : Int → Int} {sp dp n' : Int} (h1 : Cond.methodLink M.1.cls idx arraycopyName ∈ q_B) (h2 : Cond.native arraycopyName ∈ q_B) (h3 : Cond.static arraycopyName ∈ q_B) (h4 : Cond.initialized "java/lang/System" ∈ q_B) (hw0 : w a0 = some (q_ia n0' f)) (hw1 : w a1 = some (q_ia n1' g)) (hs0 : 0 ≤ sp) (hd0 : 0 ≤ dp) (hn0 : 0 ≤ n') (hs1 : sp + n' ≤ n0') (hd1 : dp + n' ≤ n1') (hfr : 1 ≤ fr) (hroom : (st.map (fun v => v.category)).sum ≤ 8) (hd : decode M.2.1 pc = .ok (.invokestatic idx, 3)) (k : q_J M fr Q kc ks (pc + 3) lv st (q_up w a1 (q_ia n1' (q_cpy f g sp dp n')))) (hb0 : n0' < 2147483648 := by decide) (hb1 : n1' < 2147483648 := by decide) : q_J M fr Q kc ks pc lv (q_i n' :: q_i dp :: .ref a1 :: q_i sp :: .ref a0 :: st) w := by
  intro p l e R s m args below meth c D dA b n0 n mc ms H locs ls cells slots C hd2 hs hn hc hk hP hS hl
  have hB := C.2.2.2.2.2.2.2.2.1
  have r1 : q_r sp := ⟨by omega, by omega⟩
  have r2 : q_r dp := ⟨by omega, by omega⟩
  have r3 : q_r n' := ⟨by omega, by omega⟩
  have nn : ∀ z : Int, 0 ≤ z → q_r z → ¬ Int32.ofInt z < 0 := fun z h hr q => by rw [q_0, q_32lt hr q_r0] at q; omega
  refine va_copyi (D := D) C.2.1 C.2.2.1 (C.2.2.2.1.trans hl.1.symm) C.2.2.2.2.1 (hB _ h1) (hB _ h2) (hB _ h3) (hB _ h4) C.2.2.2.2.2.2.2.2.2.1.1 hP (q_c_D dA b w n) hS a0 a1 0 0 (ty := .int) (q_c_get hd2 hw0) (q_c_get hd2 hw1) rfl rfl rfl (nn _ hs0 r1) (nn _ hd0 r2) (nn _ hn0 r3) (by rw [q_cl r1, q_cl r3]; omega) (by rw [q_cl r2, q_cl r3]; omega) (fun _ _ => rfl) (by rw [C.1]; exact hfr) (by rw [C.1, q_catsum, show nativeFrameWords "java/lang/System" "arraycopy" 5 = 7 by decide]; show _ + (7 + 11) ≤ 43 * fr; omega) hd (fun H1 locs1 hP1 _ hS1 => ?_)
  rw [q_c_set (c := q_ia n1' (q_cpy f g sp dp n')) (hd2.lt hw1) (by
    rw [q_cl r1, q_cl r2, q_cl r3]
    show Sum.inl (dA 0, n1', Sum.inl (va_cpy (fun j : Nat => Int32.ofInt (f (j : Int))) (fun j : Nat => Int32.ofInt (g (j : Int))) sp.toNat dp.toNat n'.toNat)) = Sum.inl (dA 0, n1', Sum.inl (fun j : Nat => Int32.ofInt (q_cpy f g sp dp n' (j : Int))))
    congr 4
    funext j
    unfold va_cpy q_cpy
    by_cases q : dp.toNat ≤ j ∧ j < dp.toNat + n'.toNat
    · rw [if_pos q, if_pos (by omega)]
      dsimp only
      rw [show ((sp.toNat + (j - dp.toNat) : Nat) : Int) = sp + ((j : Int) - dp) by omega]
    · rw [if_neg q, if_neg (by omega)])] at hP1
  exact k p l e R s m args below meth c D dA b n0 n mc ms H1 locs1 ls cells slots C (hd2.up _ (hd2.lt hw1)) hs hn hc hk hP1 hS1 hl
theorem q_copyl {idx a0 a1 n0' n1' : Nat} {f g : Int → Int} {sp dp n' : Int} (h1 : Cond.methodLink M.1.cls idx arraycopyName ∈ q_B) (h2 : Cond.native arraycopyName ∈ q_B) (h3 : Cond.static arraycopyName ∈ q_B) (h4 : Cond.initialized "java/lang/System" ∈ q_B) (hw0 : w a0 = some (q_la n0' f)) (hw1 : w a1 = some (q_la n1' g)) (hs0 : 0 ≤ sp) (hd0 : 0 ≤ dp) (hn0 : 0 ≤ n') (hs1 : sp + n' ≤ n0') (hd1 : dp + n' ≤ n1') (hfr : 1 ≤ fr) (hroom : (st.map (fun v => v.category)).sum ≤ 8) (hd : decode M.2.1 pc = .ok (.invokestatic idx, 3)) (k : q_J M fr Q kc ks (pc + 3) lv st (q_up w a1 (q_la n1' (q_cpy f g sp dp n')))) (hb0 : n0' < 2147483648 := by decide) (hb1 : n1' < 2147483648 := by decide) : q_J M fr Q kc ks pc lv (q_i n' :: q_i dp :: .ref a1 :: q_i sp :: .ref a0 :: st) w := by
  intro p l e R s m args below meth c D dA b n0 n mc ms H locs ls cells slots C hd2 hs hn hc hk hP hS hl
  have hB := C.2.2.2.2.2.2.2.2.1
  have r1 : q_r sp := ⟨by omega, by omega⟩
  have r2 : q_r dp := ⟨by omega, by omega⟩
  have r3 : q_r n' := ⟨by omega, by omega⟩
  have nn : ∀ z : Int, 0 ≤ z → q_r z → ¬ Int32.ofInt z < 0 := fun z h hr q => by rw [q_0, q_32lt hr q_r0] at q; omega
  refine va_copyl (D := D) C.2.1 C.2.2.1 (C.2.2.2.1.trans hl.1.symm) C.2.2.2.2.1 (hB _ h1) (hB _ h2) (hB _ h3) (hB _ h4) C.2.2.2.2.2.2.2.2.2.1.1 hP (q_c_D dA b w n) hS a0 a1 1 1 (ty := .long) (q_c_get hd2 hw0) (q_c_get hd2 hw1) rfl rfl rfl (nn _ hs0 r1) (nn _ hd0 r2) (nn _ hn0 r3) (by rw [q_cl r1, q_cl r3]; omega) (by rw [q_cl r2, q_cl r3]; omega) (fun _ _ => rfl) (by rw [C.1]; exact hfr) (by rw [C.1, q_catsum, show nativeFrameWords "java/lang/System" "arraycopy" 5 = 7 by decide]; show _ + (7 + 11) ≤ 43 * fr; omega) hd (fun H1 locs1 hP1 _ hS1 => ?_)
  rw [q_c_set (c := q_la n1' (q_cpy f g sp dp n')) (hd2.lt hw1) (by
    rw [q_cl r1, q_cl r2, q_cl r3]
    show Sum.inl (dA 1, n1', Sum.inr (Sum.inl (va_cpy (fun j : Nat => Int64.ofInt (f (j : Int))) (fun j : Nat => Int64.ofInt (g (j : Int))) sp.toNat dp.toNat n'.toNat))) = Sum.inl (dA 1, n1', Sum.inr (Sum.inl (fun j : Nat => Int64.ofInt (q_cpy f g sp dp n' (j : Int)))))
    congr 5
    funext j
    unfold va_cpy q_cpy
    by_cases q : dp.toNat ≤ j ∧ j < dp.toNat + n'.toNat
    · rw [if_pos q, if_pos (by omega)]
      dsimp only
      rw [show ((sp.toNat + (j - dp.toNat) : Nat) : Int) = sp + ((j : Int) - dp) by omega]
    · rw [if_neg q, if_neg (by omega)])] at hP1
  exact k p l e R s m args below meth c D dA b n0 n mc ms H1 locs1 ls cells slots C (hd2.up _ (hd2.lt hw1)) hs hn hc hk hP1 hS1 hl
theorem q_tabOut {z dflt lo hi : Int} {offs : Array Int} {len tgt : Nat} (hd : decode M.2.1 pc = .ok (.tableswitch dflt lo hi offs, len)) (hz : q_r z) (h : z < lo ∨ hi < z) (ht : (pc : Int) + dflt = (tgt : Int)) (k : q_J M fr Q kc ks tgt lv st w) : q_J M fr Q kc ks pc lv (q_i z :: st) w :=
  q_go (fun _ _ _ _ _ _ _ _ _ _ _ _ _ _ _ _ _ hx hb _ _ _ k => lv_tableOut hx hb hd (by rw [q_32 hz]; exact h) ht k) k
theorem q_tabIn {z dflt lo hi off : Int} {offs : Array Int} {len tgt : Nat} (hd : decode M.2.1 pc = .ok (.tableswitch dflt lo hi offs, len)) (hz : q_r z) (h1 : lo ≤ z) (h2 : z ≤ hi) (ho : offs[(z - lo).toNat]? = some off) (ht : (pc : Int) + off = (tgt : Int)) (k : q_J M fr Q kc ks tgt lv st w) : q_J M fr Q kc ks pc lv (q_i z :: st) w :=
  q_go (fun _ _ _ _ _ _ _ _ _ _ _ _ _ _ _ _ _ hx hb _ _ _ k => lv_tableIn hx hb hd (by rw [q_32 hz]; omega) (by rw [q_32 hz]; omega) (by rw [q_32 hz]; exact ho) ht k) k
theorem q_objInit {idx a : Nat} (h1 : Cond.methodLink M.1.cls idx Lib.objectInit ∈ q_B) (h2 : Cond.instanceMethod Lib.objectInit ∈ q_B) (h3 : Cond.code Lib.objectInit ⟨#[0xb1]⟩ 1 none ∈ q_B) (hfr : 1 ≤ fr) (hroom : (st.map (fun v => v.category)).sum ≤ 8) (hd : decode M.2.1 pc = .ok (.invokespecial idx, 3)) (k : q_J M fr Q kc ks (pc + 3) lv st w) : q_J M fr Q kc ks pc lv (.ref a :: st) w := by
  intro p l e R s m args below meth c D dA b n0 n mc ms H locs ls cells slots C hd2 hs hn hc hk hP hS hl
  have hB := C.2.2.2.2.2.2.2.2.1
  exact W.objInit C.2.1 C.2.2.1 C.2.2.2.2.1 (hB _ h1) (hB _ h2) (hB _ h3) rfl (hl.1.trans C.2.2.2.1.symm) rfl hd (by rw [C.1]; exact hfr) (by rw [C.1, q_catsum]; show 2 * 0 + _ + 12 ≤ 43 * fr; omega) (k p l e R s m args below meth c D dA b n0 n mc ms H locs ls cells slots C hd2 hs hn hc hk hP hS hl)
end QR
end
