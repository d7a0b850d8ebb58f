-- ===== PART A: goes FIRST, ahead of the names: the tables' words, and 'selects' of the private methods out of them =====
/-- a private method of a class that the tables say can be made, by its rows of tables_1 -/
def lw_okq (q : MethodName × Nat) : Prop := (q.1.cls ≠ "java/lang/invoke/MethodHandle" ∧ q.1.cls ≠ "java/lang/invoke/VarHandle") ∧ Cond.instantiable q.1.cls q.2 ∈ tables_1 ∧ Cond.privateMethod q.1 ∈ tables_1 ∧ Cond.instanceMethod q.1 ∈ tables_1
theorem lw_p0 : lw_okq (⟨"java/util/ArrayList", "add", "(Ljava/lang/Object;[Ljava/lang/Object;I)V"⟩, 3) := ⟨⟨by decide +kernel, by decide +kernel⟩, List.mem_of_getElem? (i := 143) (by decide +kernel), List.mem_of_getElem? (i := 195) (by decide +kernel), List.mem_of_getElem? (i := 196) (by decide +kernel)⟩
theorem lw_p1 : lw_okq (⟨"java/util/ArrayList", "grow", "()[Ljava/lang/Object;"⟩, 3) := ⟨⟨by decide +kernel, by decide +kernel⟩, List.mem_of_getElem? (i := 143) (by decide +kernel), List.mem_of_getElem? (i := 199) (by decide +kernel), List.mem_of_getElem? (i := 200) (by decide +kernel)⟩
theorem lw_p2 : lw_okq (⟨"java/util/ArrayList", "grow", "(I)[Ljava/lang/Object;"⟩, 3) := ⟨⟨by decide +kernel, by decide +kernel⟩, List.mem_of_getElem? (i := 143) (by decide +kernel), List.mem_of_getElem? (i := 203) (by decide +kernel), List.mem_of_getElem? (i := 204) (by decide +kernel)⟩
theorem lw_p3 : lw_okq (⟨"PolicyDesk", "declareClass", "(LPolicyDesk$Line;Z)I"⟩, 10) := ⟨⟨by decide +kernel, by decide +kernel⟩, List.mem_of_getElem? (i := 33) (by decide +kernel), List.mem_of_getElem? (i := 769) (by decide +kernel), List.mem_of_getElem? (i := 770) (by decide +kernel)⟩
theorem lw_p4 : lw_okq (⟨"PolicyDesk", "declareMember", "(LPolicyDesk$Line;)I"⟩, 10) := ⟨⟨by decide +kernel, by decide +kernel⟩, List.mem_of_getElem? (i := 33) (by decide +kernel), List.mem_of_getElem? (i := 785) (by decide +kernel), List.mem_of_getElem? (i := 786) (by decide +kernel)⟩
theorem lw_p5 : lw_okq (⟨"PolicyDesk", "declareRule", "(LPolicyDesk$Line;LPolicyDesk$Verb;)I"⟩, 10) := ⟨⟨by decide +kernel, by decide +kernel⟩, List.mem_of_getElem? (i := 33) (by decide +kernel), List.mem_of_getElem? (i := 841) (by decide +kernel), List.mem_of_getElem? (i := 842) (by decide +kernel)⟩
theorem lw_p6 : lw_okq (⟨"PolicyDesk", "standInOf", "(Ljava/lang/String;)LPolicyDesk$MemberRow;"⟩, 10) := ⟨⟨by decide +kernel, by decide +kernel⟩, List.mem_of_getElem? (i := 33) (by decide +kernel), List.mem_of_getElem? (i := 847) (by decide +kernel), List.mem_of_getElem? (i := 848) (by decide +kernel)⟩
theorem lw_p7 : lw_okq (⟨"PolicyDesk", "ask", "(LPolicyDesk$Line;LPolicyDesk$Verb;)I"⟩, 10) := ⟨⟨by decide +kernel, by decide +kernel⟩, List.mem_of_getElem? (i := 33) (by decide +kernel), List.mem_of_getElem? (i := 921) (by decide +kernel), List.mem_of_getElem? (i := 922) (by decide +kernel)⟩
theorem lw_p8 : lw_okq (⟨"PolicyDesk", "judgeMember", "(LPolicyDesk$Line;LPolicyDesk$Verb;)I"⟩, 10) := ⟨⟨by decide +kernel, by decide +kernel⟩, List.mem_of_getElem? (i := 33) (by decide +kernel), List.mem_of_getElem? (i := 929) (by decide +kernel), List.mem_of_getElem? (i := 930) (by decide +kernel)⟩
theorem lw_p9 : lw_okq (⟨"PolicyDesk$Members", "declaredInFaces", "(LPolicyDesk$ClassRow;Ljava/lang/String;Ljava/lang/String;)LPolicyDesk$MemberRow;"⟩, 2) := ⟨⟨by decide +kernel, by decide +kernel⟩, List.mem_of_getElem? (i := 310) (by decide +kernel), List.mem_of_getElem? (i := 938) (by decide +kernel), List.mem_of_getElem? (i := 939) (by decide +kernel)⟩
theorem lw_p10 : lw_okq (⟨"PolicyDesk", "weigh", "(LPolicyDesk$ClassRow;LPolicyDesk$MemberRow;)I"⟩, 10) := ⟨⟨by decide +kernel, by decide +kernel⟩, List.mem_of_getElem? (i := 33) (by decide +kernel), List.mem_of_getElem? (i := 961) (by decide +kernel), List.mem_of_getElem? (i := 962) (by decide +kernel)⟩
theorem lw_p11 : lw_okq (⟨"PolicyDesk", "judgeClass", "(LPolicyDesk$Line;LPolicyDesk$Verb;)I"⟩, 10) := ⟨⟨by decide +kernel, by decide +kernel⟩, List.mem_of_getElem? (i := 33) (by decide +kernel), List.mem_of_getElem? (i := 977) (by decide +kernel), List.mem_of_getElem? (i := 978) (by decide +kernel)⟩
theorem lw_p12 : lw_okq (⟨"PolicyDeskModel", "title", "(IJI)V"⟩, 44) := ⟨⟨by decide +kernel, by decide +kernel⟩, List.mem_of_getElem? (i := 1127) (by decide +kernel), List.mem_of_getElem? (i := 1134) (by decide +kernel), List.mem_of_getElem? (i := 1135) (by decide +kernel)⟩
theorem lw_p13 : lw_okq (⟨"PolicyDeskModel", "split", "()I"⟩, 44) := ⟨⟨by decide +kernel, by decide +kernel⟩, List.mem_of_getElem? (i := 1127) (by decide +kernel), List.mem_of_getElem? (i := 1289) (by decide +kernel), List.mem_of_getElem? (i := 1290) (by decide +kernel)⟩
theorem lw_p14 : lw_okq (⟨"PolicyDeskModel", "work", "(I)I"⟩, 44) := ⟨⟨by decide +kernel, by decide +kernel⟩, List.mem_of_getElem? (i := 1127) (by decide +kernel), List.mem_of_getElem? (i := 1293) (by decide +kernel), List.mem_of_getElem? (i := 1294) (by decide +kernel)⟩
theorem lw_p15 : lw_okq (⟨"PolicyDeskModel", "is", "(IJI)Z"⟩, 44) := ⟨⟨by decide +kernel, by decide +kernel⟩, List.mem_of_getElem? (i := 1127) (by decide +kernel), List.mem_of_getElem? (i := 1298) (by decide +kernel), List.mem_of_getElem? (i := 1299) (by decide +kernel)⟩
def lw_privs_1 : List (MethodName × Nat) := [(⟨"java/util/ArrayList", "add", "(Ljava/lang/Object;[Ljava/lang/Object;I)V"⟩, 3), (⟨"java/util/ArrayList", "grow", "()[Ljava/lang/Object;"⟩, 3), (⟨"java/util/ArrayList", "grow", "(I)[Ljava/lang/Object;"⟩, 3), (⟨"PolicyDesk", "declareClass", "(LPolicyDesk$Line;Z)I"⟩, 10), (⟨"PolicyDesk", "declareMember", "(LPolicyDesk$Line;)I"⟩, 10), (⟨"PolicyDesk", "declareRule", "(LPolicyDesk$Line;LPolicyDesk$Verb;)I"⟩, 10), (⟨"PolicyDesk", "standInOf", "(Ljava/lang/String;)LPolicyDesk$MemberRow;"⟩, 10), (⟨"PolicyDesk", "ask", "(LPolicyDesk$Line;LPolicyDesk$Verb;)I"⟩, 10), (⟨"PolicyDesk", "judgeMember", "(LPolicyDesk$Line;LPolicyDesk$Verb;)I"⟩, 10), (⟨"PolicyDesk$Members", "declaredInFaces", "(LPolicyDesk$ClassRow;Ljava/lang/String;Ljava/lang/String;)LPolicyDesk$MemberRow;"⟩, 2), (⟨"PolicyDesk", "weigh", "(LPolicyDesk$ClassRow;LPolicyDesk$MemberRow;)I"⟩, 10), (⟨"PolicyDesk", "judgeClass", "(LPolicyDesk$Line;LPolicyDesk$Verb;)I"⟩, 10), (⟨"PolicyDeskModel", "title", "(IJI)V"⟩, 44), (⟨"PolicyDeskModel", "split", "()I"⟩, 44), (⟨"PolicyDeskModel", "work", "(I)I"⟩, 44), (⟨"PolicyDeskModel", "is", "(IJI)Z"⟩, 44)]
theorem lw_r1 : ∀ q ∈ lw_privs_1, lw_okq q := List.forall_mem_cons.mpr ⟨lw_p0, List.forall_mem_cons.mpr ⟨lw_p1, List.forall_mem_cons.mpr ⟨lw_p2, List.forall_mem_cons.mpr ⟨lw_p3, List.forall_mem_cons.mpr ⟨lw_p4, List.forall_mem_cons.mpr ⟨lw_p5, List.forall_mem_cons.mpr ⟨lw_p6, List.forall_mem_cons.mpr ⟨lw_p7, List.forall_mem_cons.mpr ⟨lw_p8, List.forall_mem_cons.mpr ⟨lw_p9, List.forall_mem_cons.mpr ⟨lw_p10, List.forall_mem_cons.mpr ⟨lw_p11, List.forall_mem_cons.mpr ⟨lw_p12, List.forall_mem_cons.mpr ⟨lw_p13, List.forall_mem_cons.mpr ⟨lw_p14, List.forall_mem_cons.mpr ⟨lw_p15, fun _ h => absurd h List.not_mem_nil⟩⟩⟩⟩⟩⟩⟩⟩⟩⟩⟩⟩⟩⟩⟩⟩
theorem lw_p16 : lw_okq (⟨"PolicyDeskModel", "declare", "(IZ)I"⟩, 44) := ⟨⟨by decide +kernel, by decide +kernel⟩, List.mem_of_getElem? (i := 1127) (by decide +kernel), List.mem_of_getElem? (i := 1302) (by decide +kernel), List.mem_of_getElem? (i := 1303) (by decide +kernel)⟩
theorem lw_p17 : lw_okq (⟨"PolicyDeskModel", "isName", "(I)Z"⟩, 44) := ⟨⟨by decide +kernel, by decide +kernel⟩, List.mem_of_getElem? (i := 1127) (by decide +kernel), List.mem_of_getElem? (i := 1306) (by decide +kernel), List.mem_of_getElem? (i := 1307) (by decide +kernel)⟩
theorem lw_p18 : lw_okq (⟨"PolicyDeskModel", "behindName", "(II)I"⟩, 44) := ⟨⟨by decide +kernel, by decide +kernel⟩, List.mem_of_getElem? (i := 1127) (by decide +kernel), List.mem_of_getElem? (i := 1310) (by decide +kernel), List.mem_of_getElem? (i := 1311) (by decide +kernel)⟩
theorem lw_p19 : lw_okq (⟨"PolicyDeskModel", "behindPart", "(II)I"⟩, 44) := ⟨⟨by decide +kernel, by decide +kernel⟩, List.mem_of_getElem? (i := 1127) (by decide +kernel), List.mem_of_getElem? (i := 1314) (by decide +kernel), List.mem_of_getElem? (i := 1315) (by decide +kernel)⟩
theorem lw_p20 : lw_okq (⟨"PolicyDeskModel", "classOf", "(I)I"⟩, 44) := ⟨⟨by decide +kernel, by decide +kernel⟩, List.mem_of_getElem? (i := 1127) (by decide +kernel), List.mem_of_getElem? (i := 1321) (by decide +kernel), List.mem_of_getElem? (i := 1322) (by decide +kernel)⟩
theorem lw_p21 : lw_okq (⟨"PolicyDeskModel", "find", "(II)I"⟩, 44) := ⟨⟨by decide +kernel, by decide +kernel⟩, List.mem_of_getElem? (i := 1127) (by decide +kernel), List.mem_of_getElem? (i := 1325) (by decide +kernel), List.mem_of_getElem? (i := 1326) (by decide +kernel)⟩
theorem lw_p22 : lw_okq (⟨"PolicyDeskModel", "isInterface", "()Z"⟩, 44) := ⟨⟨by decide +kernel, by decide +kernel⟩, List.mem_of_getElem? (i := 1127) (by decide +kernel), List.mem_of_getElem? (i := 1329) (by decide +kernel), List.mem_of_getElem? (i := 1330) (by decide +kernel)⟩
theorem lw_p23 : lw_okq (⟨"PolicyDeskModel", "add", "(IZ)I"⟩, 44) := ⟨⟨by decide +kernel, by decide +kernel⟩, List.mem_of_getElem? (i := 1127) (by decide +kernel), List.mem_of_getElem? (i := 1335) (by decide +kernel), List.mem_of_getElem? (i := 1336) (by decide +kernel)⟩
theorem lw_p24 : lw_okq (⟨"PolicyDeskModel", "isMember", "(I)Z"⟩, 44) := ⟨⟨by decide +kernel, by decide +kernel⟩, List.mem_of_getElem? (i := 1127) (by decide +kernel), List.mem_of_getElem? (i := 1339) (by decide +kernel), List.mem_of_getElem? (i := 1340) (by decide +kernel)⟩
theorem lw_p25 : lw_okq (⟨"PolicyDeskModel", "isShape", "(I)Z"⟩, 44) := ⟨⟨by decide +kernel, by decide +kernel⟩, List.mem_of_getElem? (i := 1127) (by decide +kernel), List.mem_of_getElem? (i := 1343) (by decide +kernel), List.mem_of_getElem? (i := 1344) (by decide +kernel)⟩
theorem lw_p26 : lw_okq (⟨"PolicyDeskModel", "behindType", "(II)I"⟩, 44) := ⟨⟨by decide +kernel, by decide +kernel⟩, List.mem_of_getElem? (i := 1127) (by decide +kernel), List.mem_of_getElem? (i := 1347) (by decide +kernel), List.mem_of_getElem? (i := 1348) (by decide +kernel)⟩
theorem lw_p27 : lw_okq (⟨"PolicyDeskModel", "isType", "(I)Z"⟩, 44) := ⟨⟨by decide +kernel, by decide +kernel⟩, List.mem_of_getElem? (i := 1127) (by decide +kernel), List.mem_of_getElem? (i := 1351) (by decide +kernel), List.mem_of_getElem? (i := 1352) (by decide +kernel)⟩
theorem lw_p28 : lw_okq (⟨"PolicyDeskModel", "marksOf", "(I)I"⟩, 44) := ⟨⟨by decide +kernel, by decide +kernel⟩, List.mem_of_getElem? (i := 1127) (by decide +kernel), List.mem_of_getElem? (i := 1355) (by decide +kernel), List.mem_of_getElem? (i := 1356) (by decide +kernel)⟩
theorem lw_p29 : lw_okq (⟨"PolicyDeskModel", "own", "(IIIZ)I"⟩, 44) := ⟨⟨by decide +kernel, by decide +kernel⟩, List.mem_of_getElem? (i := 1127) (by decide +kernel), List.mem_of_getElem? (i := 1359) (by decide +kernel), List.mem_of_getElem? (i := 1360) (by decide +kernel)⟩
theorem lw_p30 : lw_okq (⟨"PolicyDeskModel", "isThis", "(IIIZ)Z"⟩, 44) := ⟨⟨by decide +kernel, by decide +kernel⟩, List.mem_of_getElem? (i := 1127) (by decide +kernel), List.mem_of_getElem? (i := 1363) (by decide +kernel), List.mem_of_getElem? (i := 1364) (by decide +kernel)⟩
theorem lw_p31 : lw_okq (⟨"PolicyDeskModel", "rule", "(II)I"⟩, 44) := ⟨⟨by decide +kernel, by decide +kernel⟩, List.mem_of_getElem? (i := 1127) (by decide +kernel), List.mem_of_getElem? (i := 1370) (by decide +kernel), List.mem_of_getElem? (i := 1371) (by decide +kernel)⟩
def lw_privs_2 : List (MethodName × Nat) := [(⟨"PolicyDeskModel", "declare", "(IZ)I"⟩, 44), (⟨"PolicyDeskModel", "isName", "(I)Z"⟩, 44), (⟨"PolicyDeskModel", "behindName", "(II)I"⟩, 44), (⟨"PolicyDeskModel", "behindPart", "(II)I"⟩, 44), (⟨"PolicyDeskModel", "classOf", "(I)I"⟩, 44), (⟨"PolicyDeskModel", "find", "(II)I"⟩, 44), (⟨"PolicyDeskModel", "isInterface", "()Z"⟩, 44), (⟨"PolicyDeskModel", "add", "(IZ)I"⟩, 44), (⟨"PolicyDeskModel", "isMember", "(I)Z"⟩, 44), (⟨"PolicyDeskModel", "isShape", "(I)Z"⟩, 44), (⟨"PolicyDeskModel", "behindType", "(II)I"⟩, 44), (⟨"PolicyDeskModel", "isType", "(I)Z"⟩, 44), (⟨"PolicyDeskModel", "marksOf", "(I)I"⟩, 44), (⟨"PolicyDeskModel", "own", "(IIIZ)I"⟩, 44), (⟨"PolicyDeskModel", "isThis", "(IIIZ)Z"⟩, 44), (⟨"PolicyDeskModel", "rule", "(II)I"⟩, 44)]
theorem lw_r2 : ∀ q ∈ lw_privs_2, lw_okq q := List.forall_mem_cons.mpr ⟨lw_p16, List.forall_mem_cons.mpr ⟨lw_p17, List.forall_mem_cons.mpr ⟨lw_p18, List.forall_mem_cons.mpr ⟨lw_p19, List.forall_mem_cons.mpr ⟨lw_p20, List.forall_mem_cons.mpr ⟨lw_p21, List.forall_mem_cons.mpr ⟨lw_p22, List.forall_mem_cons.mpr ⟨lw_p23, List.forall_mem_cons.mpr ⟨lw_p24, List.forall_mem_cons.mpr ⟨lw_p25, List.forall_mem_cons.mpr ⟨lw_p26, List.forall_mem_cons.mpr ⟨lw_p27, List.forall_mem_cons.mpr ⟨lw_p28, List.forall_mem_cons.mpr ⟨lw_p29, List.forall_mem_cons.mpr ⟨lw_p30, List.forall_mem_cons.mpr ⟨lw_p31, fun _ h => absurd h List.not_mem_nil⟩⟩⟩⟩⟩⟩⟩⟩⟩⟩⟩⟩⟩⟩⟩⟩
theorem lw_p32 : lw_okq (⟨"PolicyDeskModel", "isPattern", "(I)Z"⟩, 44) := ⟨⟨by decide +kernel, by decide +kernel⟩, List.mem_of_getElem? (i := 1127) (by decide +kernel), List.mem_of_getElem? (i := 1374) (by decide +kernel), List.mem_of_getElem? (i := 1375) (by decide +kernel)⟩
theorem lw_p33 : lw_okq (⟨"PolicyDeskModel", "numberOf", "(I)I"⟩, 44) := ⟨⟨by decide +kernel, by decide +kernel⟩, List.mem_of_getElem? (i := 1127) (by decide +kernel), List.mem_of_getElem? (i := 1380) (by decide +kernel), List.mem_of_getElem? (i := 1381) (by decide +kernel)⟩
theorem lw_p34 : lw_okq (⟨"PolicyDeskModel", "lead", "()I"⟩, 44) := ⟨⟨by decide +kernel, by decide +kernel⟩, List.mem_of_getElem? (i := 1127) (by decide +kernel), List.mem_of_getElem? (i := 1385) (by decide +kernel), List.mem_of_getElem? (i := 1386) (by decide +kernel)⟩
theorem lw_p35 : lw_okq (⟨"PolicyDeskModel", "ask", "(I)I"⟩, 44) := ⟨⟨by decide +kernel, by decide +kernel⟩, List.mem_of_getElem? (i := 1127) (by decide +kernel), List.mem_of_getElem? (i := 1390) (by decide +kernel), List.mem_of_getElem? (i := 1391) (by decide +kernel)⟩
theorem lw_p36 : lw_okq (⟨"PolicyDeskModel", "answer", "(IZ)I"⟩, 44) := ⟨⟨by decide +kernel, by decide +kernel⟩, List.mem_of_getElem? (i := 1127) (by decide +kernel), List.mem_of_getElem? (i := 1394) (by decide +kernel), List.mem_of_getElem? (i := 1395) (by decide +kernel)⟩
theorem lw_p37 : lw_okq (⟨"PolicyDeskModel", "found", "(IIIZ)I"⟩, 44) := ⟨⟨by decide +kernel, by decide +kernel⟩, List.mem_of_getElem? (i := 1127) (by decide +kernel), List.mem_of_getElem? (i := 1398) (by decide +kernel), List.mem_of_getElem? (i := 1399) (by decide +kernel)⟩
theorem lw_p38 : lw_okq (⟨"PolicyDeskModel", "isOrdered", "(I)Z"⟩, 44) := ⟨⟨by decide +kernel, by decide +kernel⟩, List.mem_of_getElem? (i := 1127) (by decide +kernel), List.mem_of_getElem? (i := 1402) (by decide +kernel), List.mem_of_getElem? (i := 1403) (by decide +kernel)⟩
theorem lw_p39 : lw_okq (⟨"PolicyDeskModel", "facesFrom", "(I)V"⟩, 44) := ⟨⟨by decide +kernel, by decide +kernel⟩, List.mem_of_getElem? (i := 1127) (by decide +kernel), List.mem_of_getElem? (i := 1406) (by decide +kernel), List.mem_of_getElem? (i := 1407) (by decide +kernel)⟩
theorem lw_p40 : lw_okq (⟨"PolicyDeskModel", "isBelow", "(II)Z"⟩, 44) := ⟨⟨by decide +kernel, by decide +kernel⟩, List.mem_of_getElem? (i := 1127) (by decide +kernel), List.mem_of_getElem? (i := 1410) (by decide +kernel), List.mem_of_getElem? (i := 1411) (by decide +kernel)⟩
theorem lw_p41 : lw_okq (⟨"PolicyDeskModel", "best", "(IIII)I"⟩, 44) := ⟨⟨by decide +kernel, by decide +kernel⟩, List.mem_of_getElem? (i := 1127) (by decide +kernel), List.mem_of_getElem? (i := 1414) (by decide +kernel), List.mem_of_getElem? (i := 1415) (by decide +kernel)⟩
theorem lw_p42 : lw_okq (⟨"PolicyDeskModel", "fits", "(III)Z"⟩, 44) := ⟨⟨by decide +kernel, by decide +kernel⟩, List.mem_of_getElem? (i := 1127) (by decide +kernel), List.mem_of_getElem? (i := 1418) (by decide +kernel), List.mem_of_getElem? (i := 1419) (by decide +kernel)⟩
theorem lw_p43 : lw_okq (⟨"PolicyDeskModel", "fitsClass", "(II)Z"⟩, 44) := ⟨⟨by decide +kernel, by decide +kernel⟩, List.mem_of_getElem? (i := 1127) (by decide +kernel), List.mem_of_getElem? (i := 1422) (by decide +kernel), List.mem_of_getElem? (i := 1423) (by decide +kernel)⟩
theorem lw_p44 : lw_okq (⟨"PolicyDeskModel", "isBetter", "(II)Z"⟩, 44) := ⟨⟨by decide +kernel, by decide +kernel⟩, List.mem_of_getElem? (i := 1127) (by decide +kernel), List.mem_of_getElem? (i := 1426) (by decide +kernel), List.mem_of_getElem? (i := 1427) (by decide +kernel)⟩
theorem lw_p45 : lw_okq (⟨"PolicyDeskModel", "write", "(I)V"⟩, 44) := ⟨⟨by decide +kernel, by decide +kernel⟩, List.mem_of_getElem? (i := 1127) (by decide +kernel), List.mem_of_getElem? (i := 1430) (by decide +kernel), List.mem_of_getElem? (i := 1431) (by decide +kernel)⟩
theorem lw_p46 : lw_okq (⟨"PolicyDeskModel", "digits", "(I)V"⟩, 44) := ⟨⟨by decide +kernel, by decide +kernel⟩, List.mem_of_getElem? (i := 1127) (by decide +kernel), List.mem_of_getElem? (i := 1434) (by decide +kernel), List.mem_of_getElem? (i := 1435) (by decide +kernel)⟩
theorem lw_p47 : lw_okq (⟨"PolicyDeskModel", "letter", "(I)V"⟩, 44) := ⟨⟨by decide +kernel, by decide +kernel⟩, List.mem_of_getElem? (i := 1127) (by decide +kernel), List.mem_of_getElem? (i := 1438) (by decide +kernel), List.mem_of_getElem? (i := 1439) (by decide +kernel)⟩
def lw_privs_3 : List (MethodName × Nat) := [(⟨"PolicyDeskModel", "isPattern", "(I)Z"⟩, 44), (⟨"PolicyDeskModel", "numberOf", "(I)I"⟩, 44), (⟨"PolicyDeskModel", "lead", "()I"⟩, 44), (⟨"PolicyDeskModel", "ask", "(I)I"⟩, 44), (⟨"PolicyDeskModel", "answer", "(IZ)I"⟩, 44), (⟨"PolicyDeskModel", "found", "(IIIZ)I"⟩, 44), (⟨"PolicyDeskModel", "isOrdered", "(I)Z"⟩, 44), (⟨"PolicyDeskModel", "facesFrom", "(I)V"⟩, 44), (⟨"PolicyDeskModel", "isBelow", "(II)Z"⟩, 44), (⟨"PolicyDeskModel", "best", "(IIII)I"⟩, 44), (⟨"PolicyDeskModel", "fits", "(III)Z"⟩, 44), (⟨"PolicyDeskModel", "fitsClass", "(II)Z"⟩, 44), (⟨"PolicyDeskModel", "isBetter", "(II)Z"⟩, 44), (⟨"PolicyDeskModel", "write", "(I)V"⟩, 44), (⟨"PolicyDeskModel", "digits", "(I)V"⟩, 44), (⟨"PolicyDeskModel", "letter", "(I)V"⟩, 44)]
theorem lw_r3 : ∀ q ∈ lw_privs_3, lw_okq q := List.forall_mem_cons.mpr ⟨lw_p32, List.forall_mem_cons.mpr ⟨lw_p33, List.forall_mem_cons.mpr ⟨lw_p34, List.forall_mem_cons.mpr ⟨lw_p35, List.forall_mem_cons.mpr ⟨lw_p36, List.forall_mem_cons.mpr ⟨lw_p37, List.forall_mem_cons.mpr ⟨lw_p38, List.forall_mem_cons.mpr ⟨lw_p39, List.forall_mem_cons.mpr ⟨lw_p40, List.forall_mem_cons.mpr ⟨lw_p41, List.forall_mem_cons.mpr ⟨lw_p42, List.forall_mem_cons.mpr ⟨lw_p43, List.forall_mem_cons.mpr ⟨lw_p44, List.forall_mem_cons.mpr ⟨lw_p45, List.forall_mem_cons.mpr ⟨lw_p46, List.forall_mem_cons.mpr ⟨lw_p47, fun _ h => absurd h List.not_mem_nil⟩⟩⟩⟩⟩⟩⟩⟩⟩⟩⟩⟩⟩⟩⟩⟩
theorem lw_p48 : lw_okq (⟨"PolicyDeskModel", "said", "(J)V"⟩, 44) := ⟨⟨by decide +kernel, by decide +kernel⟩, List.mem_of_getElem? (i := 1127) (by decide +kernel), List.mem_of_getElem? (i := 1443) (by decide +kernel), List.mem_of_getElem? (i := 1444) (by decide +kernel)⟩
def lw_privs_4 : List (MethodName × Nat) := [(⟨"PolicyDeskModel", "said", "(J)V"⟩, 44)]
theorem lw_r4 : ∀ q ∈ lw_privs_4, lw_okq q := List.forall_mem_cons.mpr ⟨lw_p48, fun _ h => absurd h List.not_mem_nil⟩
def lw_privs : List (MethodName × Nat) := lw_privs_1 ++ (lw_privs_2 ++ (lw_privs_3 ++ (lw_privs_4)))
def lw_tbl : List Cond := k2_sels lw_privs ++ tables_1
theorem lw_privs_ok : ∀ q ∈ lw_privs, lw_okq q := by
  show ∀ q ∈ lw_privs_1 ++ (lw_privs_2 ++ (lw_privs_3 ++ (lw_privs_4))), lw_okq q
  exact List.forall_mem_append.mpr ⟨lw_r1, List.forall_mem_append.mpr ⟨lw_r2, List.forall_mem_append.mpr ⟨lw_r3, lw_r4⟩⟩⟩
/-! the words that every method takes: all of the tables' that stay as they are -/
def pd_gd (w : Cond) : Bool := (w.onTables && w.keeps) || (match w with | .arrayClass _ => true | _ => false)
def pd_T : List Cond := lw_tbl.filter pd_gd
theorem pd_T_good : ∀ w ∈ pd_T, (w.onTables && w.keeps) = true ∨ ∃ ty, w = .arrayClass ty := by
  intro w h
  have h2 := (List.mem_filter.mp h).2
  unfold pd_gd at h2
  rw [Bool.or_eq_true] at h2
  rcases h2 with h2 | h2
  · exact Or.inl h2
  · cases w <;> first | exact Or.inr ⟨_, rfl⟩ | (simp at h2)
theorem pd_in {w : Cond} (i : Nat) (h : lw_tbl[i]? = some w) (g : pd_gd w = true) : w ∈ pd_T := List.mem_filter.mpr ⟨List.mem_of_getElem? h, g⟩
/-- words that another law carries over -/
def pd_nk (w : Cond) : Bool := match w with | .castable _ _ => true | .declares _ => true | .fieldLinkNest _ _ _ _ _ _ => true | .methodLinkNest _ _ _ _ => true | _ => false
def pd_N : List Cond := lw_tbl.filter pd_nk
theorem pd_inN {w : Cond} (i : Nat) (h : lw_tbl[i]? = some w) (g : pd_nk w = true) : w ∈ pd_N := List.mem_filter.mpr ⟨List.mem_of_getElem? h, g⟩
theorem pd_N_warm {w : Cond} {s U : State} (hw : w ∈ pd_N) (hW : s.WarmedH U.vm) (h : va_Nw w s) : va_Nw w U := by
  have h2 := (List.mem_filter.mp hw).2
  unfold pd_nk at h2
  cases w <;> first | exact va_Nw.warmC hW h | exact va_Nw.warmD hW h | exact va_Nw.warmF hW h | exact va_Nw.warmM hW h | (simp at h2)
theorem pd_N_on {w : Cond} (hw : w ∈ pd_N) : w.onTables = true := by
  have h2 := (List.mem_filter.mp hw).2
  unfold pd_nk at h2
  cases w <;> first | rfl | (simp at h2)
theorem pd_T_sub {args : Array Value} {s : State} (h : ∀ w ∈ lw_tbl, w.before args s = true) : ∀ w ∈ pd_T, w.before args s = true := fun w hw => h w (List.mem_filter.mp hw).1
def pd_F0 : u_T := fun k => match k with
  | 0 => ("PolicyDesk", "letters", "Ljava/lang/StringBuilder;", true)
  | 1 => ("PolicyDesk", "classes", "LPolicyDesk$Classes;", true)
  | 2 => ("PolicyDesk", "members", "LPolicyDesk$Members;", true)
  | 3 => ("PolicyDesk", "rules", "LPolicyDesk$Rules;", true)
  | 4 => ("PolicyDesk", "book", "LPolicyDesk$Audit;", true)
  | 5 => ("PolicyDesk", "spent", "J", false)
  | 6 => ("PolicyDesk", "asks", "I", false)
  | 7 => ("PolicyDesk", "granted", "I", false)
  | 8 => ("PolicyDesk", "syntaxLines", "I", false)
  | _ => ("PolicyDesk", "decisions", "I", false)
def pd_F1 : u_T := fun k => match k with
  | 0 => ("PolicyDesk$Audit", "letters", "[C", true)
  | 1 => ("PolicyDesk$Audit", "lengths", "[I", true)
  | 2 => ("PolicyDesk$Audit", "draft", "Ljava/lang/StringBuilder;", true)
  | 3 => ("PolicyDesk$Audit", "kept", "I", false)
  | _ => ("PolicyDesk$Audit", "next", "I", false)
def pd_F2 : u_T := fun k => match k with
  | 0 => ("PolicyDesk$ClassRow", "number", "I", true)
  | 1 => ("PolicyDesk$ClassRow", "name", "Ljava/lang/String;", true)
  | 2 => ("PolicyDesk$ClassRow", "isInterface", "Z", true)
  | 3 => ("PolicyDesk$ClassRow", "above", "LPolicyDesk$ClassRow;", true)
  | 4 => ("PolicyDesk$ClassRow", "first", "LPolicyDesk$ClassRow;", true)
  | 5 => ("PolicyDesk$ClassRow", "second", "LPolicyDesk$ClassRow;", true)
  | 6 => ("PolicyDesk$ClassRow", "faces", "Ljava/util/ArrayList;", true)
  | 7 => ("PolicyDesk$ClassRow", "belowBits", "I", true)
  | _ => ("PolicyDesk$ClassRow", "lastSlash", "I", true)
def pd_F3 : u_T := fun k => match k with
  | 0 => ("PolicyDesk$Classes", "object", "LPolicyDesk$ClassRow;", true)
  | 1 => ("PolicyDesk$Classes", "budget", "LPolicyDesk$ClassRow;", true)
  | 2 => ("PolicyDesk$Classes", "rows", "[LPolicyDesk$ClassRow;", true)
  | _ => ("PolicyDesk$Classes", "size", "I", false)
def pd_F4 : u_T := fun k => match k with
  | 0 => ("PolicyDesk$Line", "letters", "Ljava/lang/String;", true)
  | 1 => ("PolicyDesk$Line", "size", "I", true)
  | _ => ("PolicyDesk$Line", "starts", "[I", true)
def pd_F5 : u_T := fun k => match k with
  | 0 => ("PolicyDesk$MemberRow", "number", "I", true)
  | 1 => ("PolicyDesk$MemberRow", "owner", "LPolicyDesk$ClassRow;", true)
  | 2 => ("PolicyDesk$MemberRow", "name", "Ljava/lang/String;", true)
  | 3 => ("PolicyDesk$MemberRow", "shape", "Ljava/lang/String;", true)
  | 4 => ("PolicyDesk$MemberRow", "isMethod", "Z", true)
  | _ => ("PolicyDesk$MemberRow", "marks", "I", true)
def pd_F6 : u_T := fun k => match k with
  | 0 => ("PolicyDesk$Members", "rows", "[LPolicyDesk$MemberRow;", true)
  | _ => ("PolicyDesk$Members", "size", "I", false)
def pd_F7 : u_T := fun k => match k with
  | 0 => ("PolicyDesk$Pattern", "reach", "I", true)
  | 1 => ("PolicyDesk$Pattern", "name", "Ljava/lang/String;", true)
  | 2 => ("PolicyDesk$Pattern", "behind", "I", true)
  | 3 => ("PolicyDesk$Pattern", "memberName", "Ljava/lang/String;", true)
  | _ => ("PolicyDesk$Pattern", "rank", "I", true)
def pd_F8 : u_T := fun k => match k with
  | 0 => ("PolicyDesk$RuleRow", "verb", "LPolicyDesk$Verb;", true)
  | 1 => ("PolicyDesk$RuleRow", "pattern", "LPolicyDesk$Pattern;", true)
  | 2 => ("PolicyDesk$RuleRow", "cost", "I", true)
  | _ => ("PolicyDesk$RuleRow", "standIn", "LPolicyDesk$MemberRow;", true)
def pd_F9 : u_T := fun k => match k with
  | 0 => ("PolicyDesk$Rules", "rows", "[LPolicyDesk$RuleRow;", true)
  | _ => ("PolicyDesk$Rules", "size", "I", false)
def pd_F10 : u_T := fun k => match k with
  | 0 => ("PolicyDeskModel", "line", "[I", true)
  | 1 => ("PolicyDeskModel", "starts", "[I", true)
  | 2 => ("PolicyDeskModel", "ends", "[I", true)
  | 3 => ("PolicyDeskModel", "size", "I", false)
  | 4 => ("PolicyDeskModel", "words", "I", false)
  | 5 => ("PolicyDeskModel", "syntaxes", "I", false)
  | 6 => ("PolicyDeskModel", "classLetters", "[I", true)
  | 7 => ("PolicyDeskModel", "classLength", "[I", true)
  | 8 => ("PolicyDeskModel", "above", "[I", true)
  | 9 => ("PolicyDeskModel", "faces", "[I", true)
  | 10 => ("PolicyDeskModel", "facesOf", "[I", true)
  | 11 => ("PolicyDeskModel", "isFace", "[Z", true)
  | 12 => ("PolicyDeskModel", "classes", "I", false)
  | 13 => ("PolicyDeskModel", "owner", "[I", true)
  | 14 => ("PolicyDeskModel", "marks", "[I", true)
  | 15 => ("PolicyDeskModel", "memberLetters", "[I", true)
  | 16 => ("PolicyDeskModel", "memberLength", "[I", true)
  | 17 => ("PolicyDeskModel", "shape", "[I", true)
  | 18 => ("PolicyDeskModel", "shapeLength", "[I", true)
  | 19 => ("PolicyDeskModel", "isMethod", "[Z", true)
  | 20 => ("PolicyDeskModel", "members", "I", false)
  | 21 => ("PolicyDeskModel", "does", "[I", true)
  | 22 => ("PolicyDeskModel", "wide", "[I", true)
  | 23 => ("PolicyDeskModel", "ruleLetters", "[I", true)
  | 24 => ("PolicyDeskModel", "ruleLength", "[I", true)
  | 25 => ("PolicyDeskModel", "tail", "[I", true)
  | 26 => ("PolicyDeskModel", "tailLetters", "[I", true)
  | 27 => ("PolicyDeskModel", "tailLength", "[I", true)
  | 28 => ("PolicyDeskModel", "number", "[I", true)
  | 29 => ("PolicyDeskModel", "rules", "I", false)
  | 30 => ("PolicyDeskModel", "audit", "[I", true)
  | 31 => ("PolicyDeskModel", "auditLength", "[I", true)
  | 32 => ("PolicyDeskModel", "asks", "I", false)
  | 33 => ("PolicyDeskModel", "answered", "I", false)
  | 34 => ("PolicyDeskModel", "decided", "I", false)
  | 35 => ("PolicyDeskModel", "at", "I", false)
  | 36 => ("PolicyDeskModel", "total", "J", false)
  | 37 => ("PolicyDeskModel", "patternKind", "I", false)
  | 38 => ("PolicyDeskModel", "nameEnd", "I", false)
  | 39 => ("PolicyDeskModel", "tailKind", "I", false)
  | 40 => ("PolicyDeskModel", "tailFrom", "I", false)
  | 41 => ("PolicyDeskModel", "order", "[I", true)
  | 42 => ("PolicyDeskModel", "open", "[I", true)
  | _ => ("PolicyDeskModel", "ordered", "I", false)
def pd_F11 : u_T := fun k => match k with
  | 0 => ("java/lang/AbstractStringBuilder", "value", "[B", false)
  | 1 => ("java/lang/AbstractStringBuilder", "coder", "B", false)
  | 2 => ("java/lang/AbstractStringBuilder", "maybeLatin1", "Z", false)
  | _ => ("java/lang/AbstractStringBuilder", "count", "I", false)
def pd_F12 : u_T := fun k => match k with
  | 0 => ("java/lang/String", "value", "[B", true)
  | _ => ("java/lang/String", "coder", "B", true)
def pd_F13 : u_T := fun k => match k with
  | 0 => ("java/util/ArrayList", "elementData", "[Ljava/lang/Object;", false)
  | 1 => ("java/util/ArrayList", "size", "I", false)
  | _ => ("java/util/AbstractList", "modCount", "I", false)
abbrev vwCl : List vw_C := [("PolicyDesk", pd_F0, 10), ("PolicyDesk$Audit", pd_F1, 5), ("PolicyDesk$ClassRow", pd_F2, 9), ("PolicyDesk$Classes", pd_F3, 4), ("PolicyDesk$Line", pd_F4, 3), ("PolicyDesk$MemberRow", pd_F5, 6), ("PolicyDesk$Members", pd_F6, 2), ("PolicyDesk$Pattern", pd_F7, 5), ("PolicyDesk$RuleRow", pd_F8, 4), ("PolicyDesk$Rules", pd_F9, 2), ("PolicyDeskModel", pd_F10, 44), ("java/lang/StringBuilder", pd_F11, 4), ("java/lang/String", pd_F12, 2), ("java/util/ArrayList", pd_F13, 3)]
theorem pd_vw_lays : ∀ r ∈ vwCl, ∀ w ∈ u_ws r.1 r.2.1 r.2.2, w ∈ lw_tbl := by decide +kernel
theorem pd_vw_types : ∀ r ∈ vwCl, ∀ k ∈ List.range r.2.2, (parseFieldDescriptor (r.2.1 k).2.2.1).isSome = true := by decide +kernel
theorem pd_vw_names : ∀ r ∈ vwCl, ∀ a ∈ List.range r.2.2, ∀ b ∈ List.range r.2.2, a = b ∨ (r.2.1 a).2.1 ≠ (r.2.1 b).2.1 := by decide +kernel
theorem pd_gd_lay (C : String) (T : u_T) (k : Nat) : pd_gd (u_lay C T k) = true := by
  unfold u_lay
  split <;> rfl
theorem pd_lays {ci : Nat} {C : String} {T : u_T} {N : Nat} (hc : vwCl[ci]? = some (C, T, N)) : ∀ w ∈ u_ws C T N, w ∈ pd_T := by
  intro w hw
  refine List.mem_filter.mpr ⟨pd_vw_lays _ (List.mem_of_getElem? hc) w hw, ?_⟩
  obtain ⟨k, -, rfl⟩ := List.mem_map.mp hw
  exact pd_gd_lay C T k
theorem pd_types {ci : Nat} {C : String} {T : u_T} {N : Nat} (hc : vwCl[ci]? = some (C, T, N)) : ∀ k, k < N → ∃ ty, parseFieldDescriptor (T k).2.2.1 = some ty := fun k hk => Option.isSome_iff_exists.mp (pd_vw_types _ (List.mem_of_getElem? hc) k (List.mem_range.mpr hk))
theorem pd_names {ci : Nat} {C : String} {T : u_T} {N : Nat} (hc : vwCl[ci]? = some (C, T, N)) : ∀ a, a < N → ∀ b, b < N → a ≠ b → (T a).2.1 ≠ (T b).2.1 := fun a ha b hb hne => (pd_vw_names _ (List.mem_of_getElem? hc) a (List.mem_range.mpr ha) b (List.mem_range.mpr hb)).resolve_left hne
