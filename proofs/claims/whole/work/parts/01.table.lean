-- ===== PART A: goes FIRST, ahead of the names: the tables' words, and 'selects' of the private methods out of them =====
/-- a private method of a class that the tables say can be made, by its rows of tables_1 -/
def lw_okq (q : MethodName × Nat) : Prop := (q.1.cls ≠ "java/lang/invoke/MethodHandle" ∧ q.1.cls ≠ "java/lang/invoke/VarHandle") ∧ Cond.instantiable q.1.cls q.2 ∈ tables_1 ∧ Cond.privateMethod q.1 ∈ tables_1 ∧ Cond.instanceMethod q.1 ∈ tables_1
theorem lw_p0 : lw_okq (⟨"RowForge", "dropPlans", "()I"⟩, 11) := ⟨⟨by decide +kernel, by decide +kernel⟩, List.mem_of_getElem? (i := 38) (by decide +kernel), List.mem_of_getElem? (i := 462) (by decide +kernel), List.mem_of_getElem? (i := 463) (by decide +kernel)⟩
theorem lw_p1 : lw_okq (⟨"java/lang/Throwable", "fillInStackTrace", "(I)Ljava/lang/Throwable;"⟩, 6) := ⟨⟨by decide +kernel, by decide +kernel⟩, List.mem_of_getElem? (i := 560) (by decide +kernel), List.mem_of_getElem? (i := 558) (by decide +kernel), List.mem_of_getElem? (i := 559) (by decide +kernel)⟩
theorem lw_p2 : lw_okq (⟨"java/util/ArrayList", "add", "(Ljava/lang/Object;[Ljava/lang/Object;I)V"⟩, 3) := ⟨⟨by decide +kernel, by decide +kernel⟩, List.mem_of_getElem? (i := 114) (by decide +kernel), List.mem_of_getElem? (i := 1103) (by decide +kernel), List.mem_of_getElem? (i := 1104) (by decide +kernel)⟩
theorem lw_p3 : lw_okq (⟨"java/util/ArrayList", "grow", "()[Ljava/lang/Object;"⟩, 3) := ⟨⟨by decide +kernel, by decide +kernel⟩, List.mem_of_getElem? (i := 114) (by decide +kernel), List.mem_of_getElem? (i := 1107) (by decide +kernel), List.mem_of_getElem? (i := 1108) (by decide +kernel)⟩
theorem lw_p4 : lw_okq (⟨"java/util/ArrayList", "grow", "(I)[Ljava/lang/Object;"⟩, 3) := ⟨⟨by decide +kernel, by decide +kernel⟩, List.mem_of_getElem? (i := 114) (by decide +kernel), List.mem_of_getElem? (i := 1111) (by decide +kernel), List.mem_of_getElem? (i := 1112) (by decide +kernel)⟩
theorem lw_p5 : lw_okq (⟨"RowForge", "activeTransaction", "(I)LRowForge$Transaction;"⟩, 11) := ⟨⟨by decide +kernel, by decide +kernel⟩, List.mem_of_getElem? (i := 38) (by decide +kernel), List.mem_of_getElem? (i := 1169) (by decide +kernel), List.mem_of_getElem? (i := 1170) (by decide +kernel)⟩
theorem lw_p6 : lw_okq (⟨"RowForge", "transactionAt", "(I)LRowForge$Transaction;"⟩, 11) := ⟨⟨by decide +kernel, by decide +kernel⟩, List.mem_of_getElem? (i := 38) (by decide +kernel), List.mem_of_getElem? (i := 1173) (by decide +kernel), List.mem_of_getElem? (i := 1174) (by decide +kernel)⟩
theorem lw_p7 : lw_okq (⟨"RowForge$Engine", "lowestFreed", "()LRowForge$Transaction;"⟩, 8) := ⟨⟨by decide +kernel, by decide +kernel⟩, List.mem_of_getElem? (i := 91) (by decide +kernel), List.mem_of_getElem? (i := 1189) (by decide +kernel), List.mem_of_getElem? (i := 1190) (by decide +kernel)⟩
theorem lw_p8 : lw_okq (⟨"RowForge$Engine", "attempt", "(LRowForge$Transaction;)V"⟩, 8) := ⟨⟨by decide +kernel, by decide +kernel⟩, List.mem_of_getElem? (i := 91) (by decide +kernel), List.mem_of_getElem? (i := 1194) (by decide +kernel), List.mem_of_getElem? (i := 1195) (by decide +kernel)⟩
theorem lw_p9 : lw_okq (⟨"RowForge$Trial", "allowsInsert", "(LRowForge$Transaction;)Z"⟩, 8) := ⟨⟨by decide +kernel, by decide +kernel⟩, List.mem_of_getElem? (i := 166) (by decide +kernel), List.mem_of_getElem? (i := 1203) (by decide +kernel), List.mem_of_getElem? (i := 1204) (by decide +kernel)⟩
theorem lw_p10 : lw_okq (⟨"RowForge$Trial", "findsReferred", "(LRowForge$Transaction;II)Z"⟩, 8) := ⟨⟨by decide +kernel, by decide +kernel⟩, List.mem_of_getElem? (i := 166) (by decide +kernel), List.mem_of_getElem? (i := 1217) (by decide +kernel), List.mem_of_getElem? (i := 1218) (by decide +kernel)⟩
theorem lw_p11 : lw_okq (⟨"RowForge$Rows", "firstWith", "(II)I"⟩, 1) := ⟨⟨by decide +kernel, by decide +kernel⟩, List.mem_of_getElem? (i := 97) (by decide +kernel), List.mem_of_getElem? (i := 1226) (by decide +kernel), List.mem_of_getElem? (i := 1227) (by decide +kernel)⟩
theorem lw_p12 : lw_okq (⟨"RowForge$Trial", "touch", "(II)V"⟩, 8) := ⟨⟨by decide +kernel, by decide +kernel⟩, List.mem_of_getElem? (i := 166) (by decide +kernel), List.mem_of_getElem? (i := 1249) (by decide +kernel), List.mem_of_getElem? (i := 1250) (by decide +kernel)⟩
theorem lw_p13 : lw_okq (⟨"RowForge$Trial", "allowsUpdate", "(LRowForge$Transaction;)Z"⟩, 8) := ⟨⟨by decide +kernel, by decide +kernel⟩, List.mem_of_getElem? (i := 166) (by decide +kernel), List.mem_of_getElem? (i := 1253) (by decide +kernel), List.mem_of_getElem? (i := 1254) (by decide +kernel)⟩
theorem lw_p14 : lw_okq (⟨"RowForge$Trial", "seenPlace", "(LRowForge$Transaction;)I"⟩, 8) := ⟨⟨by decide +kernel, by decide +kernel⟩, List.mem_of_getElem? (i := 166) (by decide +kernel), List.mem_of_getElem? (i := 1257) (by decide +kernel), List.mem_of_getElem? (i := 1258) (by decide +kernel)⟩
theorem lw_p15 : lw_okq (⟨"RowForge$Trial", "allowsDelete", "(LRowForge$Transaction;)Z"⟩, 8) := ⟨⟨by decide +kernel, by decide +kernel⟩, List.mem_of_getElem? (i := 166) (by decide +kernel), List.mem_of_getElem? (i := 1266) (by decide +kernel), List.mem_of_getElem? (i := 1267) (by decide +kernel)⟩
def lw_privs_1 : List (MethodName × Nat) := [(⟨"RowForge", "dropPlans", "()I"⟩, 11), (⟨"java/lang/Throwable", "fillInStackTrace", "(I)Ljava/lang/Throwable;"⟩, 6), (⟨"java/util/ArrayList", "add", "(Ljava/lang/Object;[Ljava/lang/Object;I)V"⟩, 3), (⟨"java/util/ArrayList", "grow", "()[Ljava/lang/Object;"⟩, 3), (⟨"java/util/ArrayList", "grow", "(I)[Ljava/lang/Object;"⟩, 3), (⟨"RowForge", "activeTransaction", "(I)LRowForge$Transaction;"⟩, 11), (⟨"RowForge", "transactionAt", "(I)LRowForge$Transaction;"⟩, 11), (⟨"RowForge$Engine", "lowestFreed", "()LRowForge$Transaction;"⟩, 8), (⟨"RowForge$Engine", "attempt", "(LRowForge$Transaction;)V"⟩, 8), (⟨"RowForge$Trial", "allowsInsert", "(LRowForge$Transaction;)Z"⟩, 8), (⟨"RowForge$Trial", "findsReferred", "(LRowForge$Transaction;II)Z"⟩, 8), (⟨"RowForge$Rows", "firstWith", "(II)I"⟩, 1), (⟨"RowForge$Trial", "touch", "(II)V"⟩, 8), (⟨"RowForge$Trial", "allowsUpdate", "(LRowForge$Transaction;)Z"⟩, 8), (⟨"RowForge$Trial", "seenPlace", "(LRowForge$Transaction;)I"⟩, 8), (⟨"RowForge$Trial", "allowsDelete", "(LRowForge$Transaction;)Z"⟩, 8)]
theorem lw_r1 : ∀ q ∈ lw_privs_1, lw_okq q := List.forall_mem_cons.mpr ⟨lw_p0, List.forall_mem_cons.mpr ⟨lw_p1, List.forall_mem_cons.mpr ⟨lw_p2, List.forall_mem_cons.mpr ⟨lw_p3, List.forall_mem_cons.mpr ⟨lw_p4, List.forall_mem_cons.mpr ⟨lw_p5, List.forall_mem_cons.mpr ⟨lw_p6, List.forall_mem_cons.mpr ⟨lw_p7, List.forall_mem_cons.mpr ⟨lw_p8, List.forall_mem_cons.mpr ⟨lw_p9, List.forall_mem_cons.mpr ⟨lw_p10, List.forall_mem_cons.mpr ⟨lw_p11, List.forall_mem_cons.mpr ⟨lw_p12, List.forall_mem_cons.mpr ⟨lw_p13, List.forall_mem_cons.mpr ⟨lw_p14, List.forall_mem_cons.mpr ⟨lw_p15, fun _ h => absurd h List.not_mem_nil⟩⟩⟩⟩⟩⟩⟩⟩⟩⟩⟩⟩⟩⟩⟩⟩
theorem lw_p16 : lw_okq (⟨"RowForge$Trial", "findAllReferred", "(LRowForge$Rows;)V"⟩, 8) := ⟨⟨by decide +kernel, by decide +kernel⟩, List.mem_of_getElem? (i := 166) (by decide +kernel), List.mem_of_getElem? (i := 1270) (by decide +kernel), List.mem_of_getElem? (i := 1271) (by decide +kernel)⟩
theorem lw_p17 : lw_okq (⟨"RowForge$Trial", "spreadCascades", "()V"⟩, 8) := ⟨⟨by decide +kernel, by decide +kernel⟩, List.mem_of_getElem? (i := 166) (by decide +kernel), List.mem_of_getElem? (i := 1277) (by decide +kernel), List.mem_of_getElem? (i := 1278) (by decide +kernel)⟩
theorem lw_p18 : lw_okq (⟨"RowForge$Trial", "refersToGone", "(II)Z"⟩, 8) := ⟨⟨by decide +kernel, by decide +kernel⟩, List.mem_of_getElem? (i := 166) (by decide +kernel), List.mem_of_getElem? (i := 1281) (by decide +kernel), List.mem_of_getElem? (i := 1282) (by decide +kernel)⟩
theorem lw_p19 : lw_okq (⟨"RowForge$Trial", "readReferring", "(LRowForge$Transaction;)V"⟩, 8) := ⟨⟨by decide +kernel, by decide +kernel⟩, List.mem_of_getElem? (i := 166) (by decide +kernel), List.mem_of_getElem? (i := 1285) (by decide +kernel), List.mem_of_getElem? (i := 1286) (by decide +kernel)⟩
theorem lw_p20 : lw_okq (⟨"RowForge$Trial", "isRestricted", "()Z"⟩, 8) := ⟨⟨by decide +kernel, by decide +kernel⟩, List.mem_of_getElem? (i := 166) (by decide +kernel), List.mem_of_getElem? (i := 1298) (by decide +kernel), List.mem_of_getElem? (i := 1299) (by decide +kernel)⟩
theorem lw_p21 : lw_okq (⟨"RowForge$Trial", "changeRows", "()V"⟩, 8) := ⟨⟨by decide +kernel, by decide +kernel⟩, List.mem_of_getElem? (i := 166) (by decide +kernel), List.mem_of_getElem? (i := 1302) (by decide +kernel), List.mem_of_getElem? (i := 1303) (by decide +kernel)⟩
theorem lw_p22 : lw_okq (⟨"RowForge$Trial", "touchChanged", "(LRowForge$Rows;)V"⟩, 8) := ⟨⟨by decide +kernel, by decide +kernel⟩, List.mem_of_getElem? (i := 166) (by decide +kernel), List.mem_of_getElem? (i := 1311) (by decide +kernel), List.mem_of_getElem? (i := 1312) (by decide +kernel)⟩
theorem lw_p23 : lw_okq (⟨"RowForge$Engine", "firstOtherWriter", "(I)I"⟩, 8) := ⟨⟨by decide +kernel, by decide +kernel⟩, List.mem_of_getElem? (i := 91) (by decide +kernel), List.mem_of_getElem? (i := 1316) (by decide +kernel), List.mem_of_getElem? (i := 1317) (by decide +kernel)⟩
theorem lw_p24 : lw_okq (⟨"RowForge$Engine", "endsWaitingFor", "(II)Z"⟩, 8) := ⟨⟨by decide +kernel, by decide +kernel⟩, List.mem_of_getElem? (i := 91) (by decide +kernel), List.mem_of_getElem? (i := 1324) (by decide +kernel), List.mem_of_getElem? (i := 1325) (by decide +kernel)⟩
theorem lw_p25 : lw_okq (⟨"RowForge$Log", "countUndone", "(I)I"⟩, 5) := ⟨⟨by decide +kernel, by decide +kernel⟩, List.mem_of_getElem? (i := 140) (by decide +kernel), List.mem_of_getElem? (i := 1336) (by decide +kernel), List.mem_of_getElem? (i := 1337) (by decide +kernel)⟩
theorem lw_p26 : lw_okq (⟨"RowForge$Engine", "finish", "(LRowForge$Transaction;I)V"⟩, 8) := ⟨⟨by decide +kernel, by decide +kernel⟩, List.mem_of_getElem? (i := 91) (by decide +kernel), List.mem_of_getElem? (i := 1357) (by decide +kernel), List.mem_of_getElem? (i := 1358) (by decide +kernel)⟩
theorem lw_p27 : lw_okq (⟨"RowForge$Engine", "isOvertaken", "(LRowForge$Transaction;)Z"⟩, 8) := ⟨⟨by decide +kernel, by decide +kernel⟩, List.mem_of_getElem? (i := 91) (by decide +kernel), List.mem_of_getElem? (i := 1361) (by decide +kernel), List.mem_of_getElem? (i := 1362) (by decide +kernel)⟩
theorem lw_p28 : lw_okq (⟨"RowForge$Engine", "isCommittedSince", "(LRowForge$Transaction;II)Z"⟩, 8) := ⟨⟨by decide +kernel, by decide +kernel⟩, List.mem_of_getElem? (i := 91) (by decide +kernel), List.mem_of_getElem? (i := 1365) (by decide +kernel), List.mem_of_getElem? (i := 1366) (by decide +kernel)⟩
theorem lw_p29 : lw_okq (⟨"RowForge$Engine", "carryOut", "(LRowForge$Transaction;)V"⟩, 8) := ⟨⟨by decide +kernel, by decide +kernel⟩, List.mem_of_getElem? (i := 91) (by decide +kernel), List.mem_of_getElem? (i := 1369) (by decide +kernel), List.mem_of_getElem? (i := 1370) (by decide +kernel)⟩
theorem lw_p30 : lw_okq (⟨"RowForge$Engine", "hasStaleRead", "(LRowForge$Transaction;)Z"⟩, 8) := ⟨⟨by decide +kernel, by decide +kernel⟩, List.mem_of_getElem? (i := 91) (by decide +kernel), List.mem_of_getElem? (i := 1417) (by decide +kernel), List.mem_of_getElem? (i := 1418) (by decide +kernel)⟩
theorem lw_p31 : lw_okq (⟨"RowForge$Engine", "overfills", "(ILRowForge$Rows;)Z"⟩, 8) := ⟨⟨by decide +kernel, by decide +kernel⟩, List.mem_of_getElem? (i := 91) (by decide +kernel), List.mem_of_getElem? (i := 1425) (by decide +kernel), List.mem_of_getElem? (i := 1426) (by decide +kernel)⟩
def lw_privs_2 : List (MethodName × Nat) := [(⟨"RowForge$Trial", "findAllReferred", "(LRowForge$Rows;)V"⟩, 8), (⟨"RowForge$Trial", "spreadCascades", "()V"⟩, 8), (⟨"RowForge$Trial", "refersToGone", "(II)Z"⟩, 8), (⟨"RowForge$Trial", "readReferring", "(LRowForge$Transaction;)V"⟩, 8), (⟨"RowForge$Trial", "isRestricted", "()Z"⟩, 8), (⟨"RowForge$Trial", "changeRows", "()V"⟩, 8), (⟨"RowForge$Trial", "touchChanged", "(LRowForge$Rows;)V"⟩, 8), (⟨"RowForge$Engine", "firstOtherWriter", "(I)I"⟩, 8), (⟨"RowForge$Engine", "endsWaitingFor", "(II)Z"⟩, 8), (⟨"RowForge$Log", "countUndone", "(I)I"⟩, 5), (⟨"RowForge$Engine", "finish", "(LRowForge$Transaction;I)V"⟩, 8), (⟨"RowForge$Engine", "isOvertaken", "(LRowForge$Transaction;)Z"⟩, 8), (⟨"RowForge$Engine", "isCommittedSince", "(LRowForge$Transaction;II)Z"⟩, 8), (⟨"RowForge$Engine", "carryOut", "(LRowForge$Transaction;)V"⟩, 8), (⟨"RowForge$Engine", "hasStaleRead", "(LRowForge$Transaction;)Z"⟩, 8), (⟨"RowForge$Engine", "overfills", "(ILRowForge$Rows;)Z"⟩, 8)]
theorem lw_r2 : ∀ q ∈ lw_privs_2, lw_okq q := List.forall_mem_cons.mpr ⟨lw_p16, List.forall_mem_cons.mpr ⟨lw_p17, List.forall_mem_cons.mpr ⟨lw_p18, List.forall_mem_cons.mpr ⟨lw_p19, List.forall_mem_cons.mpr ⟨lw_p20, List.forall_mem_cons.mpr ⟨lw_p21, List.forall_mem_cons.mpr ⟨lw_p22, List.forall_mem_cons.mpr ⟨lw_p23, List.forall_mem_cons.mpr ⟨lw_p24, List.forall_mem_cons.mpr ⟨lw_p25, List.forall_mem_cons.mpr ⟨lw_p26, List.forall_mem_cons.mpr ⟨lw_p27, List.forall_mem_cons.mpr ⟨lw_p28, List.forall_mem_cons.mpr ⟨lw_p29, List.forall_mem_cons.mpr ⟨lw_p30, List.forall_mem_cons.mpr ⟨lw_p31, fun _ h => absurd h List.not_mem_nil⟩⟩⟩⟩⟩⟩⟩⟩⟩⟩⟩⟩⟩⟩⟩⟩
theorem lw_p32 : lw_okq (⟨"RowForge$Engine", "isWrittenBy", "(III)Z"⟩, 8) := ⟨⟨by decide +kernel, by decide +kernel⟩, List.mem_of_getElem? (i := 91) (by decide +kernel), List.mem_of_getElem? (i := 1431) (by decide +kernel), List.mem_of_getElem? (i := 1432) (by decide +kernel)⟩
theorem lw_p33 : lw_okq (⟨"RowForge$Engine", "store", "(LRowForge$Transaction;)V"⟩, 8) := ⟨⟨by decide +kernel, by decide +kernel⟩, List.mem_of_getElem? (i := 91) (by decide +kernel), List.mem_of_getElem? (i := 1435) (by decide +kernel), List.mem_of_getElem? (i := 1436) (by decide +kernel)⟩
theorem lw_p34 : lw_okq (⟨"RowForge$Engine", "stampWrites", "(LRowForge$Transaction;)V"⟩, 8) := ⟨⟨by decide +kernel, by decide +kernel⟩, List.mem_of_getElem? (i := 91) (by decide +kernel), List.mem_of_getElem? (i := 1443) (by decide +kernel), List.mem_of_getElem? (i := 1444) (by decide +kernel)⟩
theorem lw_p35 : lw_okq (⟨"RowForge", "refreshViews", "()V"⟩, 11) := ⟨⟨by decide +kernel, by decide +kernel⟩, List.mem_of_getElem? (i := 38) (by decide +kernel), List.mem_of_getElem? (i := 1449) (by decide +kernel), List.mem_of_getElem? (i := 1450) (by decide +kernel)⟩
theorem lw_p36 : lw_okq (⟨"RowForge$Evaluator", "step", "(LRowForge$Query;ILRowForge$Rows;I)V"⟩, 7) := ⟨⟨by decide +kernel, by decide +kernel⟩, List.mem_of_getElem? (i := 232) (by decide +kernel), List.mem_of_getElem? (i := 1457) (by decide +kernel), List.mem_of_getElem? (i := 1458) (by decide +kernel)⟩
theorem lw_p37 : lw_okq (⟨"RowForge$Evaluator", "scanInto", "(LRowForge$Relation;ILRowForge$Rows;I)V"⟩, 7) := ⟨⟨by decide +kernel, by decide +kernel⟩, List.mem_of_getElem? (i := 232) (by decide +kernel), List.mem_of_getElem? (i := 1469) (by decide +kernel), List.mem_of_getElem? (i := 1470) (by decide +kernel)⟩
theorem lw_p38 : lw_okq (⟨"RowForge$Evaluator", "changeInto", "(LRowForge$Relation;LRowForge$Relation;LRowForge$Query;I)V"⟩, 7) := ⟨⟨by decide +kernel, by decide +kernel⟩, List.mem_of_getElem? (i := 232) (by decide +kernel), List.mem_of_getElem? (i := 1482) (by decide +kernel), List.mem_of_getElem? (i := 1483) (by decide +kernel)⟩
theorem lw_p39 : lw_okq (⟨"RowForge$Evaluator", "filterInto", "(LRowForge$Relation;LRowForge$Relation;IIIZ)V"⟩, 7) := ⟨⟨by decide +kernel, by decide +kernel⟩, List.mem_of_getElem? (i := 232) (by decide +kernel), List.mem_of_getElem? (i := 1486) (by decide +kernel), List.mem_of_getElem? (i := 1487) (by decide +kernel)⟩
theorem lw_p40 : lw_okq (⟨"RowForge$Evaluator", "pairInto", "(LRowForge$Relation;LRowForge$Relation;IIIZ)V"⟩, 7) := ⟨⟨by decide +kernel, by decide +kernel⟩, List.mem_of_getElem? (i := 232) (by decide +kernel), List.mem_of_getElem? (i := 1500) (by decide +kernel), List.mem_of_getElem? (i := 1501) (by decide +kernel)⟩
theorem lw_p41 : lw_okq (⟨"RowForge$Evaluator", "ratioInto", "(LRowForge$Relation;LRowForge$Relation;III)V"⟩, 7) := ⟨⟨by decide +kernel, by decide +kernel⟩, List.mem_of_getElem? (i := 232) (by decide +kernel), List.mem_of_getElem? (i := 1504) (by decide +kernel), List.mem_of_getElem? (i := 1505) (by decide +kernel)⟩
theorem lw_p42 : lw_okq (⟨"RowForge$Evaluator", "keepInto", "(LRowForge$Relation;LRowForge$Relation;I)V"⟩, 7) := ⟨⟨by decide +kernel, by decide +kernel⟩, List.mem_of_getElem? (i := 232) (by decide +kernel), List.mem_of_getElem? (i := 1508) (by decide +kernel), List.mem_of_getElem? (i := 1509) (by decide +kernel)⟩
theorem lw_p43 : lw_okq (⟨"RowForge$Evaluator", "groupInto", "(LRowForge$Relation;LRowForge$Relation;III)V"⟩, 7) := ⟨⟨by decide +kernel, by decide +kernel⟩, List.mem_of_getElem? (i := 232) (by decide +kernel), List.mem_of_getElem? (i := 1512) (by decide +kernel), List.mem_of_getElem? (i := 1513) (by decide +kernel)⟩
theorem lw_p44 : lw_okq (⟨"RowForge$Evaluator", "joinInto", "(LRowForge$Relation;LRowForge$Relation;LRowForge$Relation;LRowForge$Query;I)V"⟩, 7) := ⟨⟨by decide +kernel, by decide +kernel⟩, List.mem_of_getElem? (i := 232) (by decide +kernel), List.mem_of_getElem? (i := 1527) (by decide +kernel), List.mem_of_getElem? (i := 1528) (by decide +kernel)⟩
theorem lw_p45 : lw_okq (⟨"RowForge$Relation", "fillPart", "(ILRowForge$Relation;I)V"⟩, 3) := ⟨⟨by decide +kernel, by decide +kernel⟩, List.mem_of_getElem? (i := 239) (by decide +kernel), List.mem_of_getElem? (i := 1535) (by decide +kernel), List.mem_of_getElem? (i := 1536) (by decide +kernel)⟩
theorem lw_p46 : lw_okq (⟨"RowForge$Relation", "merge", "([I[IIII)V"⟩, 3) := ⟨⟨by decide +kernel, by decide +kernel⟩, List.mem_of_getElem? (i := 239) (by decide +kernel), List.mem_of_getElem? (i := 1567) (by decide +kernel), List.mem_of_getElem? (i := 1568) (by decide +kernel)⟩
theorem lw_p47 : lw_okq (⟨"RowForge$Query", "put", "(IIII)V"⟩, 13) := ⟨⟨by decide +kernel, by decide +kernel⟩, List.mem_of_getElem? (i := 335) (by decide +kernel), List.mem_of_getElem? (i := 1665) (by decide +kernel), List.mem_of_getElem? (i := 1666) (by decide +kernel)⟩
def lw_privs_3 : List (MethodName × Nat) := [(⟨"RowForge$Engine", "isWrittenBy", "(III)Z"⟩, 8), (⟨"RowForge$Engine", "store", "(LRowForge$Transaction;)V"⟩, 8), (⟨"RowForge$Engine", "stampWrites", "(LRowForge$Transaction;)V"⟩, 8), (⟨"RowForge", "refreshViews", "()V"⟩, 11), (⟨"RowForge$Evaluator", "step", "(LRowForge$Query;ILRowForge$Rows;I)V"⟩, 7), (⟨"RowForge$Evaluator", "scanInto", "(LRowForge$Relation;ILRowForge$Rows;I)V"⟩, 7), (⟨"RowForge$Evaluator", "changeInto", "(LRowForge$Relation;LRowForge$Relation;LRowForge$Query;I)V"⟩, 7), (⟨"RowForge$Evaluator", "filterInto", "(LRowForge$Relation;LRowForge$Relation;IIIZ)V"⟩, 7), (⟨"RowForge$Evaluator", "pairInto", "(LRowForge$Relation;LRowForge$Relation;IIIZ)V"⟩, 7), (⟨"RowForge$Evaluator", "ratioInto", "(LRowForge$Relation;LRowForge$Relation;III)V"⟩, 7), (⟨"RowForge$Evaluator", "keepInto", "(LRowForge$Relation;LRowForge$Relation;I)V"⟩, 7), (⟨"RowForge$Evaluator", "groupInto", "(LRowForge$Relation;LRowForge$Relation;III)V"⟩, 7), (⟨"RowForge$Evaluator", "joinInto", "(LRowForge$Relation;LRowForge$Relation;LRowForge$Relation;LRowForge$Query;I)V"⟩, 7), (⟨"RowForge$Relation", "fillPart", "(ILRowForge$Relation;I)V"⟩, 3), (⟨"RowForge$Relation", "merge", "([I[IIII)V"⟩, 3), (⟨"RowForge$Query", "put", "(IIII)V"⟩, 13)]
theorem lw_r3 : ∀ q ∈ lw_privs_3, lw_okq q := List.forall_mem_cons.mpr ⟨lw_p32, List.forall_mem_cons.mpr ⟨lw_p33, List.forall_mem_cons.mpr ⟨lw_p34, List.forall_mem_cons.mpr ⟨lw_p35, List.forall_mem_cons.mpr ⟨lw_p36, List.forall_mem_cons.mpr ⟨lw_p37, List.forall_mem_cons.mpr ⟨lw_p38, List.forall_mem_cons.mpr ⟨lw_p39, List.forall_mem_cons.mpr ⟨lw_p40, List.forall_mem_cons.mpr ⟨lw_p41, List.forall_mem_cons.mpr ⟨lw_p42, List.forall_mem_cons.mpr ⟨lw_p43, List.forall_mem_cons.mpr ⟨lw_p44, List.forall_mem_cons.mpr ⟨lw_p45, List.forall_mem_cons.mpr ⟨lw_p46, List.forall_mem_cons.mpr ⟨lw_p47, fun _ h => absurd h List.not_mem_nil⟩⟩⟩⟩⟩⟩⟩⟩⟩⟩⟩⟩⟩⟩⟩⟩
theorem lw_p48 : lw_okq (⟨"RowForge$Query", "setParameters", "(IIII)V"⟩, 13) := ⟨⟨by decide +kernel, by decide +kernel⟩, List.mem_of_getElem? (i := 335) (by decide +kernel), List.mem_of_getElem? (i := 1670) (by decide +kernel), List.mem_of_getElem? (i := 1671) (by decide +kernel)⟩
theorem lw_p49 : lw_okq (⟨"RowForge", "hasQuery", "(I)Z"⟩, 11) := ⟨⟨by decide +kernel, by decide +kernel⟩, List.mem_of_getElem? (i := 38) (by decide +kernel), List.mem_of_getElem? (i := 1778) (by decide +kernel), List.mem_of_getElem? (i := 1779) (by decide +kernel)⟩
theorem lw_p50 : lw_okq (⟨"RowForge", "resultFor", "(LRowForge$Transaction;LRowForge$Query;)LRowForge$Relation;"⟩, 11) := ⟨⟨by decide +kernel, by decide +kernel⟩, List.mem_of_getElem? (i := 38) (by decide +kernel), List.mem_of_getElem? (i := 1782) (by decide +kernel), List.mem_of_getElem? (i := 1783) (by decide +kernel)⟩
theorem lw_p51 : lw_okq (⟨"RowForge$Query", "noteReadsOf", "(ILRowForge$Transaction;)V"⟩, 13) := ⟨⟨by decide +kernel, by decide +kernel⟩, List.mem_of_getElem? (i := 335) (by decide +kernel), List.mem_of_getElem? (i := 1795) (by decide +kernel), List.mem_of_getElem? (i := 1796) (by decide +kernel)⟩
theorem lw_p52 : lw_okq (⟨"RowForge$Query", "asksForKey", "(I)Z"⟩, 13) := ⟨⟨by decide +kernel, by decide +kernel⟩, List.mem_of_getElem? (i := 335) (by decide +kernel), List.mem_of_getElem? (i := 1804) (by decide +kernel), List.mem_of_getElem? (i := 1805) (by decide +kernel)⟩
theorem lw_p53 : lw_okq (⟨"RowForge$Planner", "reach", "(LRowForge$Query;I)V"⟩, 14) := ⟨⟨by decide +kernel, by decide +kernel⟩, List.mem_of_getElem? (i := 281) (by decide +kernel), List.mem_of_getElem? (i := 1854) (by decide +kernel), List.mem_of_getElem? (i := 1855) (by decide +kernel)⟩
theorem lw_p54 : lw_okq (⟨"RowForge$Planner", "reachOperands", "(LRowForge$Query;I)V"⟩, 14) := ⟨⟨by decide +kernel, by decide +kernel⟩, List.mem_of_getElem? (i := 281) (by decide +kernel), List.mem_of_getElem? (i := 1861) (by decide +kernel), List.mem_of_getElem? (i := 1862) (by decide +kernel)⟩
theorem lw_p55 : lw_okq (⟨"RowForge$Planner", "describeLeaves", "(LRowForge$Query;)V"⟩, 14) := ⟨⟨by decide +kernel, by decide +kernel⟩, List.mem_of_getElem? (i := 281) (by decide +kernel), List.mem_of_getElem? (i := 1865) (by decide +kernel), List.mem_of_getElem? (i := 1866) (by decide +kernel)⟩
theorem lw_p56 : lw_okq (⟨"RowForge$Planner", "applyFilters", "(LRowForge$Query;I)V"⟩, 14) := ⟨⟨by decide +kernel, by decide +kernel⟩, List.mem_of_getElem? (i := 281) (by decide +kernel), List.mem_of_getElem? (i := 1870) (by decide +kernel), List.mem_of_getElem? (i := 1871) (by decide +kernel)⟩
theorem lw_p57 : lw_okq (⟨"RowForge$Planner", "gatherJoins", "(LRowForge$Query;I)V"⟩, 14) := ⟨⟨by decide +kernel, by decide +kernel⟩, List.mem_of_getElem? (i := 281) (by decide +kernel), List.mem_of_getElem? (i := 1878) (by decide +kernel), List.mem_of_getElem? (i := 1879) (by decide +kernel)⟩
theorem lw_p58 : lw_okq (⟨"RowForge$Planner", "chooseOrder", "(LRowForge$Query;)V"⟩, 14) := ⟨⟨by decide +kernel, by decide +kernel⟩, List.mem_of_getElem? (i := 281) (by decide +kernel), List.mem_of_getElem? (i := 1882) (by decide +kernel), List.mem_of_getElem? (i := 1883) (by decide +kernel)⟩
theorem lw_p59 : lw_okq (⟨"RowForge$Planner", "spellsOrder", "(I)Z"⟩, 14) := ⟨⟨by decide +kernel, by decide +kernel⟩, List.mem_of_getElem? (i := 281) (by decide +kernel), List.mem_of_getElem? (i := 1886) (by decide +kernel), List.mem_of_getElem? (i := 1887) (by decide +kernel)⟩
theorem lw_p60 : lw_okq (⟨"RowForge$Planner", "costOfTried", "()I"⟩, 14) := ⟨⟨by decide +kernel, by decide +kernel⟩, List.mem_of_getElem? (i := 281) (by decide +kernel), List.mem_of_getElem? (i := 1891) (by decide +kernel), List.mem_of_getElem? (i := 1892) (by decide +kernel)⟩
theorem lw_p61 : lw_okq (⟨"RowForge$Planner", "connects", "(III)Z"⟩, 14) := ⟨⟨by decide +kernel, by decide +kernel⟩, List.mem_of_getElem? (i := 281) (by decide +kernel), List.mem_of_getElem? (i := 1895) (by decide +kernel), List.mem_of_getElem? (i := 1896) (by decide +kernel)⟩
theorem lw_p62 : lw_okq (⟨"RowForge$Query", "isViewableGroup", "(I)Z"⟩, 13) := ⟨⟨by decide +kernel, by decide +kernel⟩, List.mem_of_getElem? (i := 335) (by decide +kernel), List.mem_of_getElem? (i := 1919) (by decide +kernel), List.mem_of_getElem? (i := 1920) (by decide +kernel)⟩
theorem lw_p63 : lw_okq (⟨"RowForge", "hasView", "(I)Z"⟩, 11) := ⟨⟨by decide +kernel, by decide +kernel⟩, List.mem_of_getElem? (i := 38) (by decide +kernel), List.mem_of_getElem? (i := 1930) (by decide +kernel), List.mem_of_getElem? (i := 1931) (by decide +kernel)⟩
def lw_privs_4 : List (MethodName × Nat) := [(⟨"RowForge$Query", "setParameters", "(IIII)V"⟩, 13), (⟨"RowForge", "hasQuery", "(I)Z"⟩, 11), (⟨"RowForge", "resultFor", "(LRowForge$Transaction;LRowForge$Query;)LRowForge$Relation;"⟩, 11), (⟨"RowForge$Query", "noteReadsOf", "(ILRowForge$Transaction;)V"⟩, 13), (⟨"RowForge$Query", "asksForKey", "(I)Z"⟩, 13), (⟨"RowForge$Planner", "reach", "(LRowForge$Query;I)V"⟩, 14), (⟨"RowForge$Planner", "reachOperands", "(LRowForge$Query;I)V"⟩, 14), (⟨"RowForge$Planner", "describeLeaves", "(LRowForge$Query;)V"⟩, 14), (⟨"RowForge$Planner", "applyFilters", "(LRowForge$Query;I)V"⟩, 14), (⟨"RowForge$Planner", "gatherJoins", "(LRowForge$Query;I)V"⟩, 14), (⟨"RowForge$Planner", "chooseOrder", "(LRowForge$Query;)V"⟩, 14), (⟨"RowForge$Planner", "spellsOrder", "(I)Z"⟩, 14), (⟨"RowForge$Planner", "costOfTried", "()I"⟩, 14), (⟨"RowForge$Planner", "connects", "(III)Z"⟩, 14), (⟨"RowForge$Query", "isViewableGroup", "(I)Z"⟩, 13), (⟨"RowForge", "hasView", "(I)Z"⟩, 11)]
theorem lw_r4 : ∀ q ∈ lw_privs_4, lw_okq q := List.forall_mem_cons.mpr ⟨lw_p48, List.forall_mem_cons.mpr ⟨lw_p49, List.forall_mem_cons.mpr ⟨lw_p50, List.forall_mem_cons.mpr ⟨lw_p51, List.forall_mem_cons.mpr ⟨lw_p52, List.forall_mem_cons.mpr ⟨lw_p53, List.forall_mem_cons.mpr ⟨lw_p54, List.forall_mem_cons.mpr ⟨lw_p55, List.forall_mem_cons.mpr ⟨lw_p56, List.forall_mem_cons.mpr ⟨lw_p57, List.forall_mem_cons.mpr ⟨lw_p58, List.forall_mem_cons.mpr ⟨lw_p59, List.forall_mem_cons.mpr ⟨lw_p60, List.forall_mem_cons.mpr ⟨lw_p61, List.forall_mem_cons.mpr ⟨lw_p62, List.forall_mem_cons.mpr ⟨lw_p63, fun _ h => absurd h List.not_mem_nil⟩⟩⟩⟩⟩⟩⟩⟩⟩⟩⟩⟩⟩⟩⟩⟩
theorem lw_p64 : lw_okq (⟨"RowForgeModel", "isUnderWay", "()Z"⟩, 94) := ⟨⟨by decide +kernel, by decide +kernel⟩, List.mem_of_getElem? (i := 1996) (by decide +kernel), List.mem_of_getElem? (i := 2299) (by decide +kernel), List.mem_of_getElem? (i := 2300) (by decide +kernel)⟩
theorem lw_p65 : lw_okq (⟨"RowForgeModel", "fails", "(I)Z"⟩, 94) := ⟨⟨by decide +kernel, by decide +kernel⟩, List.mem_of_getElem? (i := 1996) (by decide +kernel), List.mem_of_getElem? (i := 2303) (by decide +kernel), List.mem_of_getElem? (i := 2304) (by decide +kernel)⟩
theorem lw_p66 : lw_okq (⟨"RowForgeModel", "throwsPlans", "()V"⟩, 94) := ⟨⟨by decide +kernel, by decide +kernel⟩, List.mem_of_getElem? (i := 1996) (by decide +kernel), List.mem_of_getElem? (i := 2307) (by decide +kernel), List.mem_of_getElem? (i := 2308) (by decide +kernel)⟩
theorem lw_p67 : lw_okq (⟨"RowForgeModel", "isColumn", "(II)Z"⟩, 94) := ⟨⟨by decide +kernel, by decide +kernel⟩, List.mem_of_getElem? (i := 1996) (by decide +kernel), List.mem_of_getElem? (i := 2315) (by decide +kernel), List.mem_of_getElem? (i := 2316) (by decide +kernel)⟩
theorem lw_p68 : lw_okq (⟨"RowForgeModel", "isTable", "(I)Z"⟩, 94) := ⟨⟨by decide +kernel, by decide +kernel⟩, List.mem_of_getElem? (i := 1996) (by decide +kernel), List.mem_of_getElem? (i := 2319) (by decide +kernel), List.mem_of_getElem? (i := 2320) (by decide +kernel)⟩
theorem lw_p69 : lw_okq (⟨"RowForgeModel", "copiesRow", "(IIIII)V"⟩, 94) := ⟨⟨by decide +kernel, by decide +kernel⟩, List.mem_of_getElem? (i := 1996) (by decide +kernel), List.mem_of_getElem? (i := 2341) (by decide +kernel), List.mem_of_getElem? (i := 2342) (by decide +kernel)⟩
theorem lw_p70 : lw_okq (⟨"RowForgeModel", "isTransaction", "(I)Z"⟩, 94) := ⟨⟨by decide +kernel, by decide +kernel⟩, List.mem_of_getElem? (i := 1996) (by decide +kernel), List.mem_of_getElem? (i := 2357) (by decide +kernel), List.mem_of_getElem? (i := 2358) (by decide +kernel)⟩
theorem lw_p71 : lw_okq (⟨"RowForgeModel", "acts", "(III)I"⟩, 94) := ⟨⟨by decide +kernel, by decide +kernel⟩, List.mem_of_getElem? (i := 1996) (by decide +kernel), List.mem_of_getElem? (i := 2361) (by decide +kernel), List.mem_of_getElem? (i := 2362) (by decide +kernel)⟩
theorem lw_p72 : lw_okq (⟨"RowForgeModel", "tries", "(I)I"⟩, 94) := ⟨⟨by decide +kernel, by decide +kernel⟩, List.mem_of_getElem? (i := 1996) (by decide +kernel), List.mem_of_getElem? (i := 2365) (by decide +kernel), List.mem_of_getElem? (i := 2366) (by decide +kernel)⟩
theorem lw_p73 : lw_okq (⟨"RowForgeModel", "wantsInsert", "(I)Z"⟩, 94) := ⟨⟨by decide +kernel, by decide +kernel⟩, List.mem_of_getElem? (i := 1996) (by decide +kernel), List.mem_of_getElem? (i := 2369) (by decide +kernel), List.mem_of_getElem? (i := 2370) (by decide +kernel)⟩
theorem lw_p74 : lw_okq (⟨"RowForgeModel", "readsKey", "(III)V"⟩, 94) := ⟨⟨by decide +kernel, by decide +kernel⟩, List.mem_of_getElem? (i := 1996) (by decide +kernel), List.mem_of_getElem? (i := 2373) (by decide +kernel), List.mem_of_getElem? (i := 2374) (by decide +kernel)⟩
theorem lw_p75 : lw_okq (⟨"RowForgeModel", "hasReadKey", "(III)Z"⟩, 94) := ⟨⟨by decide +kernel, by decide +kernel⟩, List.mem_of_getElem? (i := 1996) (by decide +kernel), List.mem_of_getElem? (i := 2377) (by decide +kernel), List.mem_of_getElem? (i := 2378) (by decide +kernel)⟩
theorem lw_p76 : lw_okq (⟨"RowForgeModel", "readsReference", "(IIII)V"⟩, 94) := ⟨⟨by decide +kernel, by decide +kernel⟩, List.mem_of_getElem? (i := 1996) (by decide +kernel), List.mem_of_getElem? (i := 2381) (by decide +kernel), List.mem_of_getElem? (i := 2382) (by decide +kernel)⟩
theorem lw_p77 : lw_okq (⟨"RowForgeModel", "find", "(III)I"⟩, 94) := ⟨⟨by decide +kernel, by decide +kernel⟩, List.mem_of_getElem? (i := 1996) (by decide +kernel), List.mem_of_getElem? (i := 2385) (by decide +kernel), List.mem_of_getElem? (i := 2386) (by decide +kernel)⟩
theorem lw_p78 : lw_okq (⟨"RowForgeModel", "isAllowed", "(IIII)Z"⟩, 94) := ⟨⟨by decide +kernel, by decide +kernel⟩, List.mem_of_getElem? (i := 1996) (by decide +kernel), List.mem_of_getElem? (i := 2389) (by decide +kernel), List.mem_of_getElem? (i := 2390) (by decide +kernel)⟩
theorem lw_p79 : lw_okq (⟨"RowForgeModel", "wants", "(II)V"⟩, 94) := ⟨⟨by decide +kernel, by decide +kernel⟩, List.mem_of_getElem? (i := 1996) (by decide +kernel), List.mem_of_getElem? (i := 2396) (by decide +kernel), List.mem_of_getElem? (i := 2397) (by decide +kernel)⟩
def lw_privs_5 : List (MethodName × Nat) := [(⟨"RowForgeModel", "isUnderWay", "()Z"⟩, 94), (⟨"RowForgeModel", "fails", "(I)Z"⟩, 94), (⟨"RowForgeModel", "throwsPlans", "()V"⟩, 94), (⟨"RowForgeModel", "isColumn", "(II)Z"⟩, 94), (⟨"RowForgeModel", "isTable", "(I)Z"⟩, 94), (⟨"RowForgeModel", "copiesRow", "(IIIII)V"⟩, 94), (⟨"RowForgeModel", "isTransaction", "(I)Z"⟩, 94), (⟨"RowForgeModel", "acts", "(III)I"⟩, 94), (⟨"RowForgeModel", "tries", "(I)I"⟩, 94), (⟨"RowForgeModel", "wantsInsert", "(I)Z"⟩, 94), (⟨"RowForgeModel", "readsKey", "(III)V"⟩, 94), (⟨"RowForgeModel", "hasReadKey", "(III)Z"⟩, 94), (⟨"RowForgeModel", "readsReference", "(IIII)V"⟩, 94), (⟨"RowForgeModel", "find", "(III)I"⟩, 94), (⟨"RowForgeModel", "isAllowed", "(IIII)Z"⟩, 94), (⟨"RowForgeModel", "wants", "(II)V"⟩, 94)]
theorem lw_r5 : ∀ q ∈ lw_privs_5, lw_okq q := List.forall_mem_cons.mpr ⟨lw_p64, List.forall_mem_cons.mpr ⟨lw_p65, List.forall_mem_cons.mpr ⟨lw_p66, List.forall_mem_cons.mpr ⟨lw_p67, List.forall_mem_cons.mpr ⟨lw_p68, List.forall_mem_cons.mpr ⟨lw_p69, List.forall_mem_cons.mpr ⟨lw_p70, List.forall_mem_cons.mpr ⟨lw_p71, List.forall_mem_cons.mpr ⟨lw_p72, List.forall_mem_cons.mpr ⟨lw_p73, List.forall_mem_cons.mpr ⟨lw_p74, List.forall_mem_cons.mpr ⟨lw_p75, List.forall_mem_cons.mpr ⟨lw_p76, List.forall_mem_cons.mpr ⟨lw_p77, List.forall_mem_cons.mpr ⟨lw_p78, List.forall_mem_cons.mpr ⟨lw_p79, fun _ h => absurd h List.not_mem_nil⟩⟩⟩⟩⟩⟩⟩⟩⟩⟩⟩⟩⟩⟩⟩⟩
theorem lw_p80 : lw_okq (⟨"RowForgeModel", "wantsUpdate", "(I)Z"⟩, 94) := ⟨⟨by decide +kernel, by decide +kernel⟩, List.mem_of_getElem? (i := 1996) (by decide +kernel), List.mem_of_getElem? (i := 2400) (by decide +kernel), List.mem_of_getElem? (i := 2401) (by decide +kernel)⟩
theorem lw_p81 : lw_okq (⟨"RowForgeModel", "isSeen", "(IIII)Z"⟩, 94) := ⟨⟨by decide +kernel, by decide +kernel⟩, List.mem_of_getElem? (i := 1996) (by decide +kernel), List.mem_of_getElem? (i := 2404) (by decide +kernel), List.mem_of_getElem? (i := 2405) (by decide +kernel)⟩
theorem lw_p82 : lw_okq (⟨"RowForgeModel", "wantsDelete", "(I)Z"⟩, 94) := ⟨⟨by decide +kernel, by decide +kernel⟩, List.mem_of_getElem? (i := 1996) (by decide +kernel), List.mem_of_getElem? (i := 2408) (by decide +kernel), List.mem_of_getElem? (i := 2409) (by decide +kernel)⟩
theorem lw_p83 : lw_okq (⟨"RowForgeModel", "refers", "(IIII)Z"⟩, 94) := ⟨⟨by decide +kernel, by decide +kernel⟩, List.mem_of_getElem? (i := 1996) (by decide +kernel), List.mem_of_getElem? (i := 2412) (by decide +kernel), List.mem_of_getElem? (i := 2413) (by decide +kernel)⟩
theorem lw_p84 : lw_okq (⟨"RowForgeModel", "isBroken", "(IIII)Z"⟩, 94) := ⟨⟨by decide +kernel, by decide +kernel⟩, List.mem_of_getElem? (i := 1996) (by decide +kernel), List.mem_of_getElem? (i := 2416) (by decide +kernel), List.mem_of_getElem? (i := 2417) (by decide +kernel)⟩
theorem lw_p85 : lw_okq (⟨"RowForgeModel", "readsReferrers", "(II)V"⟩, 94) := ⟨⟨by decide +kernel, by decide +kernel⟩, List.mem_of_getElem? (i := 1996) (by decide +kernel), List.mem_of_getElem? (i := 2420) (by decide +kernel), List.mem_of_getElem? (i := 2421) (by decide +kernel)⟩
theorem lw_p86 : lw_okq (⟨"RowForgeModel", "sortsWrites", "()V"⟩, 94) := ⟨⟨by decide +kernel, by decide +kernel⟩, List.mem_of_getElem? (i := 1996) (by decide +kernel), List.mem_of_getElem? (i := 2424) (by decide +kernel), List.mem_of_getElem? (i := 2425) (by decide +kernel)⟩
theorem lw_p87 : lw_okq (⟨"RowForgeModel", "writer", "(III)I"⟩, 94) := ⟨⟨by decide +kernel, by decide +kernel⟩, List.mem_of_getElem? (i := 1996) (by decide +kernel), List.mem_of_getElem? (i := 2428) (by decide +kernel), List.mem_of_getElem? (i := 2429) (by decide +kernel)⟩
theorem lw_p88 : lw_okq (⟨"RowForgeModel", "aborts", "(I)I"⟩, 94) := ⟨⟨by decide +kernel, by decide +kernel⟩, List.mem_of_getElem? (i := 1996) (by decide +kernel), List.mem_of_getElem? (i := 2432) (by decide +kernel), List.mem_of_getElem? (i := 2433) (by decide +kernel)⟩
theorem lw_p89 : lw_okq (⟨"RowForgeModel", "notes", "(IIII)V"⟩, 94) := ⟨⟨by decide +kernel, by decide +kernel⟩, List.mem_of_getElem? (i := 1996) (by decide +kernel), List.mem_of_getElem? (i := 2436) (by decide +kernel), List.mem_of_getElem? (i := 2437) (by decide +kernel)⟩
theorem lw_p90 : lw_okq (⟨"RowForgeModel", "ends", "(II)V"⟩, 94) := ⟨⟨by decide +kernel, by decide +kernel⟩, List.mem_of_getElem? (i := 1996) (by decide +kernel), List.mem_of_getElem? (i := 2440) (by decide +kernel), List.mem_of_getElem? (i := 2441) (by decide +kernel)⟩
theorem lw_p91 : lw_okq (⟨"RowForgeModel", "does", "(I)V"⟩, 94) := ⟨⟨by decide +kernel, by decide +kernel⟩, List.mem_of_getElem? (i := 1996) (by decide +kernel), List.mem_of_getElem? (i := 2444) (by decide +kernel), List.mem_of_getElem? (i := 2445) (by decide +kernel)⟩
theorem lw_p92 : lw_okq (⟨"RowForgeModel", "deletes", "(I)V"⟩, 94) := ⟨⟨by decide +kernel, by decide +kernel⟩, List.mem_of_getElem? (i := 1996) (by decide +kernel), List.mem_of_getElem? (i := 2448) (by decide +kernel), List.mem_of_getElem? (i := 2449) (by decide +kernel)⟩
theorem lw_p93 : lw_okq (⟨"RowForgeModel", "takesOut", "(III)V"⟩, 94) := ⟨⟨by decide +kernel, by decide +kernel⟩, List.mem_of_getElem? (i := 1996) (by decide +kernel), List.mem_of_getElem? (i := 2452) (by decide +kernel), List.mem_of_getElem? (i := 2453) (by decide +kernel)⟩
theorem lw_p94 : lw_okq (⟨"RowForgeModel", "settles", "()V"⟩, 94) := ⟨⟨by decide +kernel, by decide +kernel⟩, List.mem_of_getElem? (i := 1996) (by decide +kernel), List.mem_of_getElem? (i := 2456) (by decide +kernel), List.mem_of_getElem? (i := 2457) (by decide +kernel)⟩
theorem lw_p95 : lw_okq (⟨"RowForgeModel", "nextOf", "()I"⟩, 94) := ⟨⟨by decide +kernel, by decide +kernel⟩, List.mem_of_getElem? (i := 1996) (by decide +kernel), List.mem_of_getElem? (i := 2460) (by decide +kernel), List.mem_of_getElem? (i := 2461) (by decide +kernel)⟩
def lw_privs_6 : List (MethodName × Nat) := [(⟨"RowForgeModel", "wantsUpdate", "(I)Z"⟩, 94), (⟨"RowForgeModel", "isSeen", "(IIII)Z"⟩, 94), (⟨"RowForgeModel", "wantsDelete", "(I)Z"⟩, 94), (⟨"RowForgeModel", "refers", "(IIII)Z"⟩, 94), (⟨"RowForgeModel", "isBroken", "(IIII)Z"⟩, 94), (⟨"RowForgeModel", "readsReferrers", "(II)V"⟩, 94), (⟨"RowForgeModel", "sortsWrites", "()V"⟩, 94), (⟨"RowForgeModel", "writer", "(III)I"⟩, 94), (⟨"RowForgeModel", "aborts", "(I)I"⟩, 94), (⟨"RowForgeModel", "notes", "(IIII)V"⟩, 94), (⟨"RowForgeModel", "ends", "(II)V"⟩, 94), (⟨"RowForgeModel", "does", "(I)V"⟩, 94), (⟨"RowForgeModel", "deletes", "(I)V"⟩, 94), (⟨"RowForgeModel", "takesOut", "(III)V"⟩, 94), (⟨"RowForgeModel", "settles", "()V"⟩, 94), (⟨"RowForgeModel", "nextOf", "()I"⟩, 94)]
theorem lw_r6 : ∀ q ∈ lw_privs_6, lw_okq q := List.forall_mem_cons.mpr ⟨lw_p80, List.forall_mem_cons.mpr ⟨lw_p81, List.forall_mem_cons.mpr ⟨lw_p82, List.forall_mem_cons.mpr ⟨lw_p83, List.forall_mem_cons.mpr ⟨lw_p84, List.forall_mem_cons.mpr ⟨lw_p85, List.forall_mem_cons.mpr ⟨lw_p86, List.forall_mem_cons.mpr ⟨lw_p87, List.forall_mem_cons.mpr ⟨lw_p88, List.forall_mem_cons.mpr ⟨lw_p89, List.forall_mem_cons.mpr ⟨lw_p90, List.forall_mem_cons.mpr ⟨lw_p91, List.forall_mem_cons.mpr ⟨lw_p92, List.forall_mem_cons.mpr ⟨lw_p93, List.forall_mem_cons.mpr ⟨lw_p94, List.forall_mem_cons.mpr ⟨lw_p95, fun _ h => absurd h List.not_mem_nil⟩⟩⟩⟩⟩⟩⟩⟩⟩⟩⟩⟩⟩⟩⟩⟩
theorem lw_p96 : lw_okq (⟨"RowForgeModel", "isOld", "(I)Z"⟩, 94) := ⟨⟨by decide +kernel, by decide +kernel⟩, List.mem_of_getElem? (i := 1996) (by decide +kernel), List.mem_of_getElem? (i := 2476) (by decide +kernel), List.mem_of_getElem? (i := 2477) (by decide +kernel)⟩
theorem lw_p97 : lw_okq (⟨"RowForgeModel", "isTooMuch", "(I)Z"⟩, 94) := ⟨⟨by decide +kernel, by decide +kernel⟩, List.mem_of_getElem? (i := 1996) (by decide +kernel), List.mem_of_getElem? (i := 2480) (by decide +kernel), List.mem_of_getElem? (i := 2481) (by decide +kernel)⟩
theorem lw_p98 : lw_okq (⟨"RowForgeModel", "isFirstWrite", "(I)Z"⟩, 94) := ⟨⟨by decide +kernel, by decide +kernel⟩, List.mem_of_getElem? (i := 1996) (by decide +kernel), List.mem_of_getElem? (i := 2484) (by decide +kernel), List.mem_of_getElem? (i := 2485) (by decide +kernel)⟩
theorem lw_p99 : lw_okq (⟨"RowForgeModel", "commits", "(III)V"⟩, 94) := ⟨⟨by decide +kernel, by decide +kernel⟩, List.mem_of_getElem? (i := 1996) (by decide +kernel), List.mem_of_getElem? (i := 2488) (by decide +kernel), List.mem_of_getElem? (i := 2489) (by decide +kernel)⟩
theorem lw_p100 : lw_okq (⟨"RowForgeModel", "valueAt", "(IIII)I"⟩, 94) := ⟨⟨by decide +kernel, by decide +kernel⟩, List.mem_of_getElem? (i := 1996) (by decide +kernel), List.mem_of_getElem? (i := 2516) (by decide +kernel), List.mem_of_getElem? (i := 2517) (by decide +kernel)⟩
theorem lw_p101 : lw_okq (⟨"RowForgeModel", "settled", "(III)I"⟩, 94) := ⟨⟨by decide +kernel, by decide +kernel⟩, List.mem_of_getElem? (i := 1996) (by decide +kernel), List.mem_of_getElem? (i := 2524) (by decide +kernel), List.mem_of_getElem? (i := 2525) (by decide +kernel)⟩
theorem lw_p102 : lw_okq (⟨"RowForgeModel", "isFull", "()Z"⟩, 94) := ⟨⟨by decide +kernel, by decide +kernel⟩, List.mem_of_getElem? (i := 1996) (by decide +kernel), List.mem_of_getElem? (i := 2540) (by decide +kernel), List.mem_of_getElem? (i := 2541) (by decide +kernel)⟩
theorem lw_p103 : lw_okq (⟨"RowForgeModel", "adds", "(IIIIZ)V"⟩, 94) := ⟨⟨by decide +kernel, by decide +kernel⟩, List.mem_of_getElem? (i := 1996) (by decide +kernel), List.mem_of_getElem? (i := 2544) (by decide +kernel), List.mem_of_getElem? (i := 2545) (by decide +kernel)⟩
theorem lw_p104 : lw_okq (⟨"RowForgeModel", "isOfLast", "(I)Z"⟩, 94) := ⟨⟨by decide +kernel, by decide +kernel⟩, List.mem_of_getElem? (i := 1996) (by decide +kernel), List.mem_of_getElem? (i := 2552) (by decide +kernel), List.mem_of_getElem? (i := 2553) (by decide +kernel)⟩
theorem lw_p105 : lw_okq (⟨"RowForgeModel", "clears", "()V"⟩, 94) := ⟨⟨by decide +kernel, by decide +kernel⟩, List.mem_of_getElem? (i := 1996) (by decide +kernel), List.mem_of_getElem? (i := 2587) (by decide +kernel), List.mem_of_getElem? (i := 2588) (by decide +kernel)⟩
theorem lw_p106 : lw_okq (⟨"RowForgeModel", "isQuery", "(I)Z"⟩, 94) := ⟨⟨by decide +kernel, by decide +kernel⟩, List.mem_of_getElem? (i := 1996) (by decide +kernel), List.mem_of_getElem? (i := 2602) (by decide +kernel), List.mem_of_getElem? (i := 2603) (by decide +kernel)⟩
theorem lw_p107 : lw_okq (⟨"RowForgeModel", "finds", "(III)V"⟩, 94) := ⟨⟨by decide +kernel, by decide +kernel⟩, List.mem_of_getElem? (i := 1996) (by decide +kernel), List.mem_of_getElem? (i := 2606) (by decide +kernel), List.mem_of_getElem? (i := 2607) (by decide +kernel)⟩
theorem lw_p108 : lw_okq (⟨"RowForgeModel", "scans", "(III)V"⟩, 94) := ⟨⟨by decide +kernel, by decide +kernel⟩, List.mem_of_getElem? (i := 1996) (by decide +kernel), List.mem_of_getElem? (i := 2610) (by decide +kernel), List.mem_of_getElem? (i := 2611) (by decide +kernel)⟩
theorem lw_p109 : lw_okq (⟨"RowForgeModel", "top", "()I"⟩, 94) := ⟨⟨by decide +kernel, by decide +kernel⟩, List.mem_of_getElem? (i := 1996) (by decide +kernel), List.mem_of_getElem? (i := 2614) (by decide +kernel), List.mem_of_getElem? (i := 2615) (by decide +kernel)⟩
theorem lw_p110 : lw_okq (⟨"RowForgeModel", "filters", "(I)V"⟩, 94) := ⟨⟨by decide +kernel, by decide +kernel⟩, List.mem_of_getElem? (i := 1996) (by decide +kernel), List.mem_of_getElem? (i := 2618) (by decide +kernel), List.mem_of_getElem? (i := 2619) (by decide +kernel)⟩
theorem lw_p111 : lw_okq (⟨"RowForgeModel", "stays", "(II)Z"⟩, 94) := ⟨⟨by decide +kernel, by decide +kernel⟩, List.mem_of_getElem? (i := 1996) (by decide +kernel), List.mem_of_getElem? (i := 2622) (by decide +kernel), List.mem_of_getElem? (i := 2623) (by decide +kernel)⟩
def lw_privs_7 : List (MethodName × Nat) := [(⟨"RowForgeModel", "isOld", "(I)Z"⟩, 94), (⟨"RowForgeModel", "isTooMuch", "(I)Z"⟩, 94), (⟨"RowForgeModel", "isFirstWrite", "(I)Z"⟩, 94), (⟨"RowForgeModel", "commits", "(III)V"⟩, 94), (⟨"RowForgeModel", "valueAt", "(IIII)I"⟩, 94), (⟨"RowForgeModel", "settled", "(III)I"⟩, 94), (⟨"RowForgeModel", "isFull", "()Z"⟩, 94), (⟨"RowForgeModel", "adds", "(IIIIZ)V"⟩, 94), (⟨"RowForgeModel", "isOfLast", "(I)Z"⟩, 94), (⟨"RowForgeModel", "clears", "()V"⟩, 94), (⟨"RowForgeModel", "isQuery", "(I)Z"⟩, 94), (⟨"RowForgeModel", "finds", "(III)V"⟩, 94), (⟨"RowForgeModel", "scans", "(III)V"⟩, 94), (⟨"RowForgeModel", "top", "()I"⟩, 94), (⟨"RowForgeModel", "filters", "(I)V"⟩, 94), (⟨"RowForgeModel", "stays", "(II)Z"⟩, 94)]
theorem lw_r7 : ∀ q ∈ lw_privs_7, lw_okq q := List.forall_mem_cons.mpr ⟨lw_p96, List.forall_mem_cons.mpr ⟨lw_p97, List.forall_mem_cons.mpr ⟨lw_p98, List.forall_mem_cons.mpr ⟨lw_p99, List.forall_mem_cons.mpr ⟨lw_p100, List.forall_mem_cons.mpr ⟨lw_p101, List.forall_mem_cons.mpr ⟨lw_p102, List.forall_mem_cons.mpr ⟨lw_p103, List.forall_mem_cons.mpr ⟨lw_p104, List.forall_mem_cons.mpr ⟨lw_p105, List.forall_mem_cons.mpr ⟨lw_p106, List.forall_mem_cons.mpr ⟨lw_p107, List.forall_mem_cons.mpr ⟨lw_p108, List.forall_mem_cons.mpr ⟨lw_p109, List.forall_mem_cons.mpr ⟨lw_p110, List.forall_mem_cons.mpr ⟨lw_p111, fun _ h => absurd h List.not_mem_nil⟩⟩⟩⟩⟩⟩⟩⟩⟩⟩⟩⟩⟩⟩⟩⟩
theorem lw_p112 : lw_okq (⟨"RowForgeModel", "joins", "(I)V"⟩, 94) := ⟨⟨by decide +kernel, by decide +kernel⟩, List.mem_of_getElem? (i := 1996) (by decide +kernel), List.mem_of_getElem? (i := 2626) (by decide +kernel), List.mem_of_getElem? (i := 2627) (by decide +kernel)⟩
theorem lw_p113 : lw_okq (⟨"RowForgeModel", "lays", "(IIIII)V"⟩, 94) := ⟨⟨by decide +kernel, by decide +kernel⟩, List.mem_of_getElem? (i := 1996) (by decide +kernel), List.mem_of_getElem? (i := 2630) (by decide +kernel), List.mem_of_getElem? (i := 2631) (by decide +kernel)⟩
theorem lw_p114 : lw_okq (⟨"RowForgeModel", "takes", "(IIII)V"⟩, 94) := ⟨⟨by decide +kernel, by decide +kernel⟩, List.mem_of_getElem? (i := 1996) (by decide +kernel), List.mem_of_getElem? (i := 2634) (by decide +kernel), List.mem_of_getElem? (i := 2635) (by decide +kernel)⟩
theorem lw_p115 : lw_okq (⟨"RowForgeModel", "keeps", "(I)V"⟩, 94) := ⟨⟨by decide +kernel, by decide +kernel⟩, List.mem_of_getElem? (i := 1996) (by decide +kernel), List.mem_of_getElem? (i := 2638) (by decide +kernel), List.mem_of_getElem? (i := 2639) (by decide +kernel)⟩
theorem lw_p116 : lw_okq (⟨"RowForgeModel", "groups", "(I)V"⟩, 94) := ⟨⟨by decide +kernel, by decide +kernel⟩, List.mem_of_getElem? (i := 1996) (by decide +kernel), List.mem_of_getElem? (i := 2642) (by decide +kernel), List.mem_of_getElem? (i := 2643) (by decide +kernel)⟩
theorem lw_p117 : lw_okq (⟨"RowForgeModel", "combines", "(I)V"⟩, 94) := ⟨⟨by decide +kernel, by decide +kernel⟩, List.mem_of_getElem? (i := 1996) (by decide +kernel), List.mem_of_getElem? (i := 2652) (by decide +kernel), List.mem_of_getElem? (i := 2653) (by decide +kernel)⟩
theorem lw_p118 : lw_okq (⟨"RowForgeModel", "hasRow", "(IIII)Z"⟩, 94) := ⟨⟨by decide +kernel, by decide +kernel⟩, List.mem_of_getElem? (i := 1996) (by decide +kernel), List.mem_of_getElem? (i := 2656) (by decide +kernel), List.mem_of_getElem? (i := 2657) (by decide +kernel)⟩
theorem lw_p119 : lw_okq (⟨"RowForgeModel", "sorts", "()V"⟩, 94) := ⟨⟨by decide +kernel, by decide +kernel⟩, List.mem_of_getElem? (i := 1996) (by decide +kernel), List.mem_of_getElem? (i := 2660) (by decide +kernel), List.mem_of_getElem? (i := 2661) (by decide +kernel)⟩
theorem lw_p120 : lw_okq (⟨"RowForgeModel", "isAhead", "(III)Z"⟩, 94) := ⟨⟨by decide +kernel, by decide +kernel⟩, List.mem_of_getElem? (i := 1996) (by decide +kernel), List.mem_of_getElem? (i := 2664) (by decide +kernel), List.mem_of_getElem? (i := 2665) (by decide +kernel)⟩
theorem lw_p121 : lw_okq (⟨"RowForgeModel", "readsAll", "(II)V"⟩, 94) := ⟨⟨by decide +kernel, by decide +kernel⟩, List.mem_of_getElem? (i := 1996) (by decide +kernel), List.mem_of_getElem? (i := 2668) (by decide +kernel), List.mem_of_getElem? (i := 2669) (by decide +kernel)⟩
theorem lw_p122 : lw_okq (⟨"RowForgeModel", "differing", "(II)I"⟩, 94) := ⟨⟨by decide +kernel, by decide +kernel⟩, List.mem_of_getElem? (i := 1996) (by decide +kernel), List.mem_of_getElem? (i := 2684) (by decide +kernel), List.mem_of_getElem? (i := 2685) (by decide +kernel)⟩
theorem lw_p123 : lw_okq (⟨"RowForgeModel", "findsNodes", "(I)V"⟩, 94) := ⟨⟨by decide +kernel, by decide +kernel⟩, List.mem_of_getElem? (i := 1996) (by decide +kernel), List.mem_of_getElem? (i := 2692) (by decide +kernel), List.mem_of_getElem? (i := 2693) (by decide +kernel)⟩
theorem lw_p124 : lw_okq (⟨"RowForgeModel", "firstJoin", "(I)I"⟩, 94) := ⟨⟨by decide +kernel, by decide +kernel⟩, List.mem_of_getElem? (i := 1996) (by decide +kernel), List.mem_of_getElem? (i := 2696) (by decide +kernel), List.mem_of_getElem? (i := 2697) (by decide +kernel)⟩
theorem lw_p125 : lw_okq (⟨"RowForgeModel", "isInner", "(II)Z"⟩, 94) := ⟨⟨by decide +kernel, by decide +kernel⟩, List.mem_of_getElem? (i := 1996) (by decide +kernel), List.mem_of_getElem? (i := 2703) (by decide +kernel), List.mem_of_getElem? (i := 2704) (by decide +kernel)⟩
theorem lw_p126 : lw_okq (⟨"RowForgeModel", "findsBlock", "(II)V"⟩, 94) := ⟨⟨by decide +kernel, by decide +kernel⟩, List.mem_of_getElem? (i := 1996) (by decide +kernel), List.mem_of_getElem? (i := 2707) (by decide +kernel), List.mem_of_getElem? (i := 2708) (by decide +kernel)⟩
theorem lw_p127 : lw_okq (⟨"RowForgeModel", "passes", "(II)V"⟩, 94) := ⟨⟨by decide +kernel, by decide +kernel⟩, List.mem_of_getElem? (i := 1996) (by decide +kernel), List.mem_of_getElem? (i := 2712) (by decide +kernel), List.mem_of_getElem? (i := 2713) (by decide +kernel)⟩
def lw_privs_8 : List (MethodName × Nat) := [(⟨"RowForgeModel", "joins", "(I)V"⟩, 94), (⟨"RowForgeModel", "lays", "(IIIII)V"⟩, 94), (⟨"RowForgeModel", "takes", "(IIII)V"⟩, 94), (⟨"RowForgeModel", "keeps", "(I)V"⟩, 94), (⟨"RowForgeModel", "groups", "(I)V"⟩, 94), (⟨"RowForgeModel", "combines", "(I)V"⟩, 94), (⟨"RowForgeModel", "hasRow", "(IIII)Z"⟩, 94), (⟨"RowForgeModel", "sorts", "()V"⟩, 94), (⟨"RowForgeModel", "isAhead", "(III)Z"⟩, 94), (⟨"RowForgeModel", "readsAll", "(II)V"⟩, 94), (⟨"RowForgeModel", "differing", "(II)I"⟩, 94), (⟨"RowForgeModel", "findsNodes", "(I)V"⟩, 94), (⟨"RowForgeModel", "firstJoin", "(I)I"⟩, 94), (⟨"RowForgeModel", "isInner", "(II)Z"⟩, 94), (⟨"RowForgeModel", "findsBlock", "(II)V"⟩, 94), (⟨"RowForgeModel", "passes", "(II)V"⟩, 94)]
theorem lw_r8 : ∀ q ∈ lw_privs_8, lw_okq q := List.forall_mem_cons.mpr ⟨lw_p112, List.forall_mem_cons.mpr ⟨lw_p113, List.forall_mem_cons.mpr ⟨lw_p114, List.forall_mem_cons.mpr ⟨lw_p115, List.forall_mem_cons.mpr ⟨lw_p116, List.forall_mem_cons.mpr ⟨lw_p117, List.forall_mem_cons.mpr ⟨lw_p118, List.forall_mem_cons.mpr ⟨lw_p119, List.forall_mem_cons.mpr ⟨lw_p120, List.forall_mem_cons.mpr ⟨lw_p121, List.forall_mem_cons.mpr ⟨lw_p122, List.forall_mem_cons.mpr ⟨lw_p123, List.forall_mem_cons.mpr ⟨lw_p124, List.forall_mem_cons.mpr ⟨lw_p125, List.forall_mem_cons.mpr ⟨lw_p126, List.forall_mem_cons.mpr ⟨lw_p127, fun _ h => absurd h List.not_mem_nil⟩⟩⟩⟩⟩⟩⟩⟩⟩⟩⟩⟩⟩⟩⟩⟩
theorem lw_p128 : lw_okq (⟨"RowForgeModel", "leafOf", "(I)I"⟩, 94) := ⟨⟨by decide +kernel, by decide +kernel⟩, List.mem_of_getElem? (i := 1996) (by decide +kernel), List.mem_of_getElem? (i := 2716) (by decide +kernel), List.mem_of_getElem? (i := 2717) (by decide +kernel)⟩
theorem lw_p129 : lw_okq (⟨"RowForgeModel", "valuesOf", "(II)I"⟩, 94) := ⟨⟨by decide +kernel, by decide +kernel⟩, List.mem_of_getElem? (i := 1996) (by decide +kernel), List.mem_of_getElem? (i := 2720) (by decide +kernel), List.mem_of_getElem? (i := 2721) (by decide +kernel)⟩
theorem lw_p130 : lw_okq (⟨"RowForgeModel", "orderAt", "(I)I"⟩, 94) := ⟨⟨by decide +kernel, by decide +kernel⟩, List.mem_of_getElem? (i := 1996) (by decide +kernel), List.mem_of_getElem? (i := 2728) (by decide +kernel), List.mem_of_getElem? (i := 2729) (by decide +kernel)⟩
theorem lw_p131 : lw_okq (⟨"RowForgeModel", "isOrder", "(I)Z"⟩, 94) := ⟨⟨by decide +kernel, by decide +kernel⟩, List.mem_of_getElem? (i := 1996) (by decide +kernel), List.mem_of_getElem? (i := 2732) (by decide +kernel), List.mem_of_getElem? (i := 2733) (by decide +kernel)⟩
theorem lw_p132 : lw_okq (⟨"RowForgeModel", "costOf", "(II)J"⟩, 94) := ⟨⟨by decide +kernel, by decide +kernel⟩, List.mem_of_getElem? (i := 1996) (by decide +kernel), List.mem_of_getElem? (i := 2736) (by decide +kernel), List.mem_of_getElem? (i := 2737) (by decide +kernel)⟩
theorem lw_p133 : lw_okq (⟨"RowForgeModel", "tells", "(I)I"⟩, 94) := ⟨⟨by decide +kernel, by decide +kernel⟩, List.mem_of_getElem? (i := 1996) (by decide +kernel), List.mem_of_getElem? (i := 2748) (by decide +kernel), List.mem_of_getElem? (i := 2749) (by decide +kernel)⟩
theorem lw_p134 : lw_okq (⟨"RowForgeModel", "canBeView", "(I)Z"⟩, 94) := ⟨⟨by decide +kernel, by decide +kernel⟩, List.mem_of_getElem? (i := 1996) (by decide +kernel), List.mem_of_getElem? (i := 2756) (by decide +kernel), List.mem_of_getElem? (i := 2757) (by decide +kernel)⟩
theorem lw_p135 : lw_okq (⟨"RowForgeModel", "isView", "(I)Z"⟩, 94) := ⟨⟨by decide +kernel, by decide +kernel⟩, List.mem_of_getElem? (i := 1996) (by decide +kernel), List.mem_of_getElem? (i := 2764) (by decide +kernel), List.mem_of_getElem? (i := 2765) (by decide +kernel)⟩
theorem lw_p136 : lw_okq (⟨"RowForgeModel", "viewed", "(III)I"⟩, 94) := ⟨⟨by decide +kernel, by decide +kernel⟩, List.mem_of_getElem? (i := 1996) (by decide +kernel), List.mem_of_getElem? (i := 2772) (by decide +kernel), List.mem_of_getElem? (i := 2773) (by decide +kernel)⟩
theorem lw_p137 : lw_okq (⟨"RowForgeModel", "hasRecord", "(II)Z"⟩, 94) := ⟨⟨by decide +kernel, by decide +kernel⟩, List.mem_of_getElem? (i := 1996) (by decide +kernel), List.mem_of_getElem? (i := 2788) (by decide +kernel), List.mem_of_getElem? (i := 2789) (by decide +kernel)⟩
theorem lw_p138 : lw_okq (⟨"RowForgeModel", "undoes", "(I)I"⟩, 94) := ⟨⟨by decide +kernel, by decide +kernel⟩, List.mem_of_getElem? (i := 1996) (by decide +kernel), List.mem_of_getElem? (i := 2792) (by decide +kernel), List.mem_of_getElem? (i := 2793) (by decide +kernel)⟩
theorem lw_p139 : lw_okq (⟨"RowForgeModel", "isRecord", "(I)Z"⟩, 94) := ⟨⟨by decide +kernel, by decide +kernel⟩, List.mem_of_getElem? (i := 1996) (by decide +kernel), List.mem_of_getElem? (i := 2808) (by decide +kernel), List.mem_of_getElem? (i := 2809) (by decide +kernel)⟩
def lw_privs_9 : List (MethodName × Nat) := [(⟨"RowForgeModel", "leafOf", "(I)I"⟩, 94), (⟨"RowForgeModel", "valuesOf", "(II)I"⟩, 94), (⟨"RowForgeModel", "orderAt", "(I)I"⟩, 94), (⟨"RowForgeModel", "isOrder", "(I)Z"⟩, 94), (⟨"RowForgeModel", "costOf", "(II)J"⟩, 94), (⟨"RowForgeModel", "tells", "(I)I"⟩, 94), (⟨"RowForgeModel", "canBeView", "(I)Z"⟩, 94), (⟨"RowForgeModel", "isView", "(I)Z"⟩, 94), (⟨"RowForgeModel", "viewed", "(III)I"⟩, 94), (⟨"RowForgeModel", "hasRecord", "(II)Z"⟩, 94), (⟨"RowForgeModel", "undoes", "(I)I"⟩, 94), (⟨"RowForgeModel", "isRecord", "(I)Z"⟩, 94)]
theorem lw_r9 : ∀ q ∈ lw_privs_9, lw_okq q := List.forall_mem_cons.mpr ⟨lw_p128, List.forall_mem_cons.mpr ⟨lw_p129, List.forall_mem_cons.mpr ⟨lw_p130, List.forall_mem_cons.mpr ⟨lw_p131, List.forall_mem_cons.mpr ⟨lw_p132, List.forall_mem_cons.mpr ⟨lw_p133, List.forall_mem_cons.mpr ⟨lw_p134, List.forall_mem_cons.mpr ⟨lw_p135, List.forall_mem_cons.mpr ⟨lw_p136, List.forall_mem_cons.mpr ⟨lw_p137, List.forall_mem_cons.mpr ⟨lw_p138, List.forall_mem_cons.mpr ⟨lw_p139, fun _ h => absurd h List.not_mem_nil⟩⟩⟩⟩⟩⟩⟩⟩⟩⟩⟩⟩
def lw_privs : List (MethodName × Nat) := lw_privs_1 ++ (lw_privs_2 ++ (lw_privs_3 ++ (lw_privs_4 ++ (lw_privs_5 ++ (lw_privs_6 ++ (lw_privs_7 ++ (lw_privs_8 ++ (lw_privs_9))))))))
def lw_tbl : List Cond := k2_sels lw_privs ++ tables_1
theorem lw_privs_ok : ∀ q ∈ lw_privs, lw_okq q := by
  show ∀ q ∈ lw_privs_1 ++ (lw_privs_2 ++ (lw_privs_3 ++ (lw_privs_4 ++ (lw_privs_5 ++ (lw_privs_6 ++ (lw_privs_7 ++ (lw_privs_8 ++ (lw_privs_9)))))))), lw_okq q
  exact List.forall_mem_append.mpr ⟨lw_r1, List.forall_mem_append.mpr ⟨lw_r2, List.forall_mem_append.mpr ⟨lw_r3, List.forall_mem_append.mpr ⟨lw_r4, List.forall_mem_append.mpr ⟨lw_r5, List.forall_mem_append.mpr ⟨lw_r6, List.forall_mem_append.mpr ⟨lw_r7, List.forall_mem_append.mpr ⟨lw_r8, lw_r9⟩⟩⟩⟩⟩⟩⟩⟩
-- ===== end of PART A; then your names; then what follows =====
/-- the good words of the tables: every method's contract stands on all of them -/
def TB : List Cond := lw_tbl.filter goodWord
theorem tb {w : Cond} (i : Nat) (h : lw_tbl[i]? = some w) (hg : goodWord w = true) : w ∈ TB := List.mem_filter.mpr ⟨List.mem_of_getElem? h, hg⟩
theorem tbs (ws : List Cond) (ps : List Nat) (hp : ws = ps.filterMap (fun i => lw_tbl[i]?)) (h : ws.all goodWord = true) : ∀ w ∈ ws, w ∈ TB := by
  intro w hw
  have h1 := List.all_eq_true.mp h w hw
  rw [hp] at hw
  obtain ⟨i, -, hi⟩ := List.mem_filterMap.mp hw
  exact tb i hi h1
theorem tb_good : ∀ w ∈ TB, ((w.onTables && w.keeps) = true ∨ ∃ ty, w = .arrayClass ty) := fun w h => good_of_word (List.mem_filter.mp h).2
def R0 : String := "RowForge$Engine"
def T0 : u_T := fun k => match k with
  | 0 => ("RowForge$Engine", "trial", "LRowForge$Trial;", true)
  | 1 => ("RowForge$Engine", "stored", "LRowForge$Rows;", true)
  | 2 => ("RowForge$Engine", "transactions", "Ljava/util/ArrayList;", true)
  | 3 => ("RowForge$Engine", "log", "LRowForge$Log;", true)
  | 4 => ("RowForge$Engine", "writers", "[I", true)
  | 5 => ("RowForge$Engine", "stamps", "[I", true)
  | 6 => ("RowForge$Engine", "tableStamps", "[I", true)
  | _ => ("RowForge$Engine", "commits", "I", false)
def ty0 : Nat → FieldType := fun k => match k with
  | 0 => .object "RowForge$Trial"
  | 1 => .object "RowForge$Rows"
  | 2 => .object "java/util/ArrayList"
  | 3 => .object "RowForge$Log"
  | 4 => .array .int
  | 5 => .array .int
  | 6 => .array .int
  | _ => .int
theorem nm0 : ∀ a, a < 8 → ∀ b, b < 8 → a ≠ b → (T0 a).2.1 ≠ (T0 b).2.1 := by decide +kernel
theorem tk0 : ∀ k, k < 8 → parseFieldDescriptor (T0 k).2.2.1 = some (ty0 k) := by decide +kernel
set_option maxRecDepth 100000 in
theorem in0 : ∀ w ∈ u_ws R0 T0 8, w ∈ TB := tbs _ [354, 356, 358, 360, 362, 364, 366, 368] (by decide +kernel) (by decide +kernel)
def R1 : String := "RowForge$Evaluator"
def T1 : u_T := fun k => match k with
  | 0 => ("RowForge$Evaluator", "schema", "LRowForge$Schema;", true)
  | 1 => ("RowForge$Evaluator", "stack", "[LRowForge$Relation;", true)
  | 2 => ("RowForge$Evaluator", "order", "[I", true)
  | 3 => ("RowForge$Evaluator", "spare", "[I", true)
  | 4 => ("RowForge$Evaluator", "isMatched", "[Z", true)
  | 5 => ("RowForge$Evaluator", "depth", "I", false)
  | _ => ("RowForge$Evaluator", "hasFailed", "Z", false)
def ty1 : Nat → FieldType := fun k => match k with
  | 0 => .object "RowForge$Schema"
  | 1 => .array (.object "RowForge$Relation")
  | 2 => .array .int
  | 3 => .array .int
  | 4 => .array .boolean
  | 5 => .int
  | _ => .boolean
theorem nm1 : ∀ a, a < 7 → ∀ b, b < 7 → a ≠ b → (T1 a).2.1 ≠ (T1 b).2.1 := by decide +kernel
theorem tk1 : ∀ k, k < 7 → parseFieldDescriptor (T1 k).2.2.1 = some (ty1 k) := by decide +kernel
set_option maxRecDepth 100000 in
theorem in1 : ∀ w ∈ u_ws R1 T1 7, w ∈ TB := tbs _ [405, 407, 409, 411, 413, 415, 417] (by decide +kernel) (by decide +kernel)
def R2 : String := "RowForge$Log"
def T2 : u_T := fun k => match k with
  | 0 => ("RowForge$Log", "length", "I", false)
  | 1 => ("RowForge$Log", "safe", "I", false)
  | 2 => ("RowForge$Log", "data", "[I", false)
  | 3 => ("RowForge$Log", "isCommitted", "[Z", true)
  | _ => ("RowForge$Log", "isLeftOpen", "[Z", true)
def ty2 : Nat → FieldType := fun k => match k with
  | 0 => .int
  | 1 => .int
  | 2 => .array .int
  | 3 => .array .boolean
  | _ => .array .boolean
theorem nm2 : ∀ a, a < 5 → ∀ b, b < 5 → a ≠ b → (T2 a).2.1 ≠ (T2 b).2.1 := by decide +kernel
theorem tk2 : ∀ k, k < 5 → parseFieldDescriptor (T2 k).2.2.1 = some (ty2 k) := by decide +kernel
set_option maxRecDepth 100000 in
theorem in2 : ∀ w ∈ u_ws R2 T2 5, w ∈ TB := tbs _ [293, 295, 297, 299, 301] (by decide +kernel) (by decide +kernel)
def R3 : String := "RowForge$Planner"
def T3 : u_T := fun k => match k with
  | 0 => ("RowForge$Planner", "tableRows", "[I", true)
  | 1 => ("RowForge$Planner", "distinct", "[I", true)
  | 2 => ("RowForge$Planner", "isReached", "[Z", true)
  | 3 => ("RowForge$Planner", "offsets", "[I", true)
  | 4 => ("RowForge$Planner", "leaves", "I", false)
  | 5 => ("RowForge$Planner", "leafRows", "[I", true)
  | 6 => ("RowForge$Planner", "isScanLeaf", "[Z", true)
  | 7 => ("RowForge$Planner", "leafOfColumn", "[I", true)
  | 8 => ("RowForge$Planner", "valuesOfColumn", "[I", true)
  | 9 => ("RowForge$Planner", "joins", "I", false)
  | 10 => ("RowForge$Planner", "joinLefts", "[I", true)
  | 11 => ("RowForge$Planner", "joinRights", "[I", true)
  | 12 => ("RowForge$Planner", "tried", "[I", true)
  | _ => ("RowForge$Planner", "found", "I", false)
def ty3 : Nat → FieldType := fun k => match k with
  | 0 => .array .int
  | 1 => .array .int
  | 2 => .array .boolean
  | 3 => .array .int
  | 4 => .int
  | 5 => .array .int
  | 6 => .array .boolean
  | 7 => .array .int
  | 8 => .array .int
  | 9 => .int
  | 10 => .array .int
  | 11 => .array .int
  | 12 => .array .int
  | _ => .int
theorem nm3 : ∀ a, a < 14 → ∀ b, b < 14 → a ≠ b → (T3 a).2.1 ≠ (T3 b).2.1 := by decide +kernel
theorem tk3 : ∀ k, k < 14 → parseFieldDescriptor (T3 k).2.2.1 = some (ty3 k) := by decide +kernel
set_option maxRecDepth 100000 in
theorem in3 : ∀ w ∈ u_ws R3 T3 14, w ∈ TB := tbs _ [441, 443, 445, 447, 449, 451, 453, 455, 457, 459, 461, 463, 465, 467] (by decide +kernel) (by decide +kernel)
def R4 : String := "RowForge$Query"
def T4 : u_T := fun k => match k with
  | 0 => ("RowForge$Query", "count", "I", false)
  | 1 => ("RowForge$Query", "scans", "I", false)
  | 2 => ("RowForge$Query", "kinds", "[I", true)
  | 3 => ("RowForge$Query", "parameters", "[I", true)
  | 4 => ("RowForge$Query", "widths", "[I", true)
  | 5 => ("RowForge$Query", "firsts", "[I", true)
  | 6 => ("RowForge$Query", "seconds", "[I", true)
  | 7 => ("RowForge$Query", "trees", "I", false)
  | 8 => ("RowForge$Query", "roots", "[I", true)
  | 9 => ("RowForge$Query", "isPlanned", "Z", false)
  | 10 => ("RowForge$Query", "cost", "I", false)
  | 11 => ("RowForge$Query", "leaves", "I", false)
  | _ => ("RowForge$Query", "order", "[I", true)
def ty4 : Nat → FieldType := fun k => match k with
  | 0 => .int
  | 1 => .int
  | 2 => .array .int
  | 3 => .array .int
  | 4 => .array .int
  | 5 => .array .int
  | 6 => .array .int
  | 7 => .int
  | 8 => .array .int
  | 9 => .boolean
  | 10 => .int
  | 11 => .int
  | _ => .array .int
theorem nm4 : ∀ a, a < 13 → ∀ b, b < 13 → a ≠ b → (T4 a).2.1 ≠ (T4 b).2.1 := by decide +kernel
theorem tk4 : ∀ k, k < 13 → parseFieldDescriptor (T4 k).2.2.1 = some (ty4 k) := by decide +kernel
set_option maxRecDepth 100000 in
theorem in4 : ∀ w ∈ u_ws R4 T4 13, w ∈ TB := tbs _ [509, 511, 513, 515, 517, 519, 521, 523, 525, 527, 529, 531, 533] (by decide +kernel) (by decide +kernel)
def R5 : String := "RowForge$Relation"
def T5 : u_T := fun k => match k with
  | 0 => ("RowForge$Relation", "cells", "[I", true)
  | 1 => ("RowForge$Relation", "rows", "I", false)
  | _ => ("RowForge$Relation", "width", "I", false)
def ty5 : Nat → FieldType := fun k => match k with
  | 0 => .array .int
  | 1 => .int
  | _ => .int
theorem nm5 : ∀ a, a < 3 → ∀ b, b < 3 → a ≠ b → (T5 a).2.1 ≠ (T5 b).2.1 := by decide +kernel
theorem tk5 : ∀ k, k < 3 → parseFieldDescriptor (T5 k).2.2.1 = some (ty5 k) := by decide +kernel
set_option maxRecDepth 100000 in
theorem in5 : ∀ w ∈ u_ws R5 T5 3, w ∈ TB := tbs _ [391, 393, 395] (by decide +kernel) (by decide +kernel)
def R6 : String := "RowForge$Rows"
def T6 : u_T := fun k => match k with
  | _ => ("RowForge$Rows", "cells", "[I", true)
def ty6 : Nat → FieldType := fun k => match k with
  | _ => .array .int
theorem nm6 : ∀ a, a < 1 → ∀ b, b < 1 → a ≠ b → (T6 a).2.1 ≠ (T6 b).2.1 := by decide +kernel
theorem tk6 : ∀ k, k < 1 → parseFieldDescriptor (T6 k).2.2.1 = some (ty6 k) := by decide +kernel
set_option maxRecDepth 100000 in
theorem in6 : ∀ w ∈ u_ws R6 T6 1, w ∈ TB := tbs _ [250] (by decide +kernel) (by decide +kernel)
def R7 : String := "RowForge$Schema"
def T7 : u_T := fun k => match k with
  | 0 => ("RowForge$Schema", "tables", "I", false)
  | 1 => ("RowForge$Schema", "widths", "[I", true)
  | 2 => ("RowForge$Schema", "checkCounts", "[I", true)
  | 3 => ("RowForge$Schema", "checkData", "[I", true)
  | 4 => ("RowForge$Schema", "targets", "[I", true)
  | 5 => ("RowForge$Schema", "rules", "[I", true)
  | 6 => ("RowForge$Schema", "veils", "I", false)
  | _ => ("RowForge$Schema", "veilData", "[I", true)
def ty7 : Nat → FieldType := fun k => match k with
  | 0 => .int
  | 1 => .array .int
  | 2 => .array .int
  | 3 => .array .int
  | 4 => .array .int
  | 5 => .array .int
  | 6 => .int
  | _ => .array .int
theorem nm7 : ∀ a, a < 8 → ∀ b, b < 8 → a ≠ b → (T7 a).2.1 ≠ (T7 b).2.1 := by decide +kernel
theorem tk7 : ∀ k, k < 8 → parseFieldDescriptor (T7 k).2.2.1 = some (ty7 k) := by decide +kernel
set_option maxRecDepth 100000 in
theorem in7 : ∀ w ∈ u_ws R7 T7 8, w ∈ TB := tbs _ [212, 214, 216, 218, 220, 222, 224, 226] (by decide +kernel) (by decide +kernel)
def R8 : String := "RowForge$Transaction"
def T8 : u_T := fun k => match k with
  | 0 => ("RowForge$Transaction", "number", "I", true)
  | 1 => ("RowForge$Transaction", "role", "I", true)
  | 2 => ("RowForge$Transaction", "began", "I", true)
  | 3 => ("RowForge$Transaction", "rows", "LRowForge$Rows;", true)
  | 4 => ("RowForge$Transaction", "phase", "I", false)
  | 5 => ("RowForge$Transaction", "lastOutcome", "I", false)
  | 6 => ("RowForge$Transaction", "blocker", "I", false)
  | 7 => ("RowForge$Transaction", "writeKind", "I", false)
  | 8 => ("RowForge$Transaction", "writeTable", "I", false)
  | 9 => ("RowForge$Transaction", "writeKey", "I", false)
  | 10 => ("RowForge$Transaction", "writeColumn", "I", false)
  | 11 => ("RowForge$Transaction", "writeValue", "I", false)
  | 12 => ("RowForge$Transaction", "writeRow", "[I", true)
  | 13 => ("RowForge$Transaction", "wholeTables", "I", false)
  | 14 => ("RowForge$Transaction", "readCount", "I", false)
  | 15 => ("RowForge$Transaction", "readTables", "[I", false)
  | 16 => ("RowForge$Transaction", "readKeys", "[I", false)
  | 17 => ("RowForge$Transaction", "written", "I", false)
  | _ => ("RowForge$Transaction", "footprints", "[I", false)
def ty8 : Nat → FieldType := fun k => match k with
  | 0 => .int
  | 1 => .int
  | 2 => .int
  | 3 => .object "RowForge$Rows"
  | 4 => .int
  | 5 => .int
  | 6 => .int
  | 7 => .int
  | 8 => .int
  | 9 => .int
  | 10 => .int
  | 11 => .int
  | 12 => .array .int
  | 13 => .int
  | 14 => .int
  | 15 => .array .int
  | 16 => .array .int
  | 17 => .int
  | _ => .array .int
theorem nm8 : ∀ a, a < 19 → ∀ b, b < 19 → a ≠ b → (T8 a).2.1 ≠ (T8 b).2.1 := by decide +kernel
theorem tk8 : ∀ k, k < 19 → parseFieldDescriptor (T8 k).2.2.1 = some (ty8 k) := by decide +kernel
set_option maxRecDepth 100000 in
theorem in8 : ∀ w ∈ u_ws R8 T8 19, w ∈ TB := tbs _ [1194, 1196, 1198, 1200, 1202, 1204, 1206, 1208, 1210, 1212, 1214, 1216, 1218, 1220, 1222, 1224, 1226, 1228, 1230] (by decide +kernel) (by decide +kernel)
def R9 : String := "RowForge$Trial"
def T9 : u_T := fun k => match k with
  | 0 => ("RowForge$Trial", "schema", "LRowForge$Schema;", true)
  | 1 => ("RowForge$Trial", "after", "LRowForge$Rows;", true)
  | 2 => ("RowForge$Trial", "isGone", "[Z", true)
  | 3 => ("RowForge$Trial", "isChanged", "[Z", true)
  | 4 => ("RowForge$Trial", "referred", "[I", true)
  | 5 => ("RowForge$Trial", "tables", "[I", true)
  | 6 => ("RowForge$Trial", "keys", "[I", true)
  | _ => ("RowForge$Trial", "count", "I", false)
def ty9 : Nat → FieldType := fun k => match k with
  | 0 => .object "RowForge$Schema"
  | 1 => .object "RowForge$Rows"
  | 2 => .array .boolean
  | 3 => .array .boolean
  | 4 => .array .int
  | 5 => .array .int
  | 6 => .array .int
  | _ => .int
theorem nm9 : ∀ a, a < 8 → ∀ b, b < 8 → a ≠ b → (T9 a).2.1 ≠ (T9 b).2.1 := by decide +kernel
theorem tk9 : ∀ k, k < 8 → parseFieldDescriptor (T9 k).2.2.1 = some (ty9 k) := by decide +kernel
set_option maxRecDepth 100000 in
theorem in9 : ∀ w ∈ u_ws R9 T9 8, w ∈ TB := tbs _ [325, 327, 329, 331, 333, 335, 337, 339] (by decide +kernel) (by decide +kernel)
def R10 : String := "RowForge"
def T10 : u_T := fun k => match k with
  | 0 => ("RowForge", "schema", "LRowForge$Schema;", true)
  | 1 => ("RowForge", "engine", "LRowForge$Engine;", true)
  | 2 => ("RowForge", "evaluator", "LRowForge$Evaluator;", true)
  | 3 => ("RowForge", "planner", "LRowForge$Planner;", true)
  | 4 => ("RowForge", "queries", "Ljava/util/ArrayList;", true)
  | 5 => ("RowForge", "viewQueries", "Ljava/util/ArrayList;", true)
  | 6 => ("RowForge", "viewResults", "Ljava/util/ArrayList;", true)
  | 7 => ("RowForge", "lastResult", "LRowForge$Relation;", true)
  | 8 => ("RowForge", "draft", "[I", true)
  | 9 => ("RowForge", "drafted", "I", false)
  | _ => ("RowForge", "trees", "LRowForge$Query;", false)
def ty10 : Nat → FieldType := fun k => match k with
  | 0 => .object "RowForge$Schema"
  | 1 => .object "RowForge$Engine"
  | 2 => .object "RowForge$Evaluator"
  | 3 => .object "RowForge$Planner"
  | 4 => .object "java/util/ArrayList"
  | 5 => .object "java/util/ArrayList"
  | 6 => .object "java/util/ArrayList"
  | 7 => .object "RowForge$Relation"
  | 8 => .array .int
  | 9 => .int
  | _ => .object "RowForge$Query"
theorem nm10 : ∀ a, a < 11 → ∀ b, b < 11 → a ≠ b → (T10 a).2.1 ≠ (T10 b).2.1 := by decide +kernel
theorem tk10 : ∀ k, k < 11 → parseFieldDescriptor (T10 k).2.2.1 = some (ty10 k) := by decide +kernel
set_option maxRecDepth 100000 in
theorem in10 : ∀ w ∈ u_ws R10 T10 11, w ∈ TB := tbs _ [547, 549, 551, 553, 555, 557, 559, 561, 563, 565, 567] (by decide +kernel) (by decide +kernel)
def R11 : String := "RowForgeModel"
def T11 : u_T := fun k => match k with
  | 0 => ("RowForgeModel", "tables", "I", false)
  | 1 => ("RowForgeModel", "columns", "[I", true)
  | 2 => ("RowForgeModel", "checks", "[I", true)
  | 3 => ("RowForgeModel", "checkColumn", "[I", true)
  | 4 => ("RowForgeModel", "checkHow", "[I", true)
  | 5 => ("RowForgeModel", "checkValue", "[I", true)
  | 6 => ("RowForgeModel", "target", "[I", true)
  | 7 => ("RowForgeModel", "rule", "[I", true)
  | 8 => ("RowForgeModel", "veils", "I", false)
  | 9 => ("RowForgeModel", "veilRole", "[I", true)
  | 10 => ("RowForgeModel", "veilTable", "[I", true)
  | 11 => ("RowForgeModel", "veilColumn", "[I", true)
  | 12 => ("RowForgeModel", "veilHow", "[I", true)
  | 13 => ("RowForgeModel", "veilValue", "[I", true)
  | 14 => ("RowForgeModel", "rows", "[I", true)
  | 15 => ("RowForgeModel", "value", "[I", true)
  | 16 => ("RowForgeModel", "clock", "I", false)
  | 17 => ("RowForgeModel", "wrote", "[I", true)
  | 18 => ("RowForgeModel", "wroteTable", "[I", true)
  | 19 => ("RowForgeModel", "transactions", "I", false)
  | 20 => ("RowForgeModel", "role", "[I", true)
  | 21 => ("RowForgeModel", "state", "[I", true)
  | 22 => ("RowForgeModel", "outcome", "[I", true)
  | 23 => ("RowForgeModel", "place", "[I", true)
  | 24 => ("RowForgeModel", "began", "[I", true)
  | 25 => ("RowForgeModel", "waitsFor", "[I", true)
  | 26 => ("RowForgeModel", "isTaken", "[Z", true)
  | 27 => ("RowForgeModel", "what", "[I", true)
  | 28 => ("RowForgeModel", "which", "[I", true)
  | 29 => ("RowForgeModel", "whose", "[I", true)
  | 30 => ("RowForgeModel", "where", "[I", true)
  | 31 => ("RowForgeModel", "to", "[I", true)
  | 32 => ("RowForgeModel", "draftOf", "[I", true)
  | 33 => ("RowForgeModel", "reads", "[I", true)
  | 34 => ("RowForgeModel", "readTable", "[I", true)
  | 35 => ("RowForgeModel", "readKey", "[I", true)
  | 36 => ("RowForgeModel", "hasWhole", "[Z", true)
  | 37 => ("RowForgeModel", "drafted", "I", false)
  | 38 => ("RowForgeModel", "draft", "[I", true)
  | 39 => ("RowForgeModel", "isGone", "[Z", true)
  | 40 => ("RowForgeModel", "isBlank", "[Z", true)
  | 41 => ("RowForgeModel", "writes", "I", false)
  | 42 => ("RowForgeModel", "writeTable", "[I", true)
  | 43 => ("RowForgeModel", "writeKey", "[I", true)
  | 44 => ("RowForgeModel", "records", "I", false)
  | 45 => ("RowForgeModel", "flushed", "I", false)
  | 46 => ("RowForgeModel", "kind", "[I", true)
  | 47 => ("RowForgeModel", "recordOf", "[I", true)
  | 48 => ("RowForgeModel", "recordTable", "[I", true)
  | 49 => ("RowForgeModel", "recordKey", "[I", true)
  | 50 => ("RowForgeModel", "undone", "I", false)
  | 51 => ("RowForgeModel", "trees", "I", false)
  | 52 => ("RowForgeModel", "operators", "I", false)
  | 53 => ("RowForgeModel", "treeFrom", "[I", true)
  | 54 => ("RowForgeModel", "treeWidth", "[I", true)
  | 55 => ("RowForgeModel", "scans", "I", false)
  | 56 => ("RowForgeModel", "operator", "[I", true)
  | 57 => ("RowForgeModel", "numberA", "[I", true)
  | 58 => ("RowForgeModel", "numberB", "[I", true)
  | 59 => ("RowForgeModel", "numberC", "[I", true)
  | 60 => ("RowForgeModel", "isNot", "[Z", true)
  | 61 => ("RowForgeModel", "queries", "I", false)
  | 62 => ("RowForgeModel", "size", "[I", true)
  | 63 => ("RowForgeModel", "hasPlan", "[Z", true)
  | 64 => ("RowForgeModel", "planCost", "[I", true)
  | 65 => ("RowForgeModel", "planLeaves", "[I", true)
  | 66 => ("RowForgeModel", "plan", "[I", true)
  | 67 => ("RowForgeModel", "planned", "I", false)
  | 68 => ("RowForgeModel", "views", "I", false)
  | 69 => ("RowForgeModel", "viewOf", "[I", true)
  | 70 => ("RowForgeModel", "pool", "[I", true)
  | 71 => ("RowForgeModel", "results", "I", false)
  | 72 => ("RowForgeModel", "from", "[I", true)
  | 73 => ("RowForgeModel", "many", "[I", true)
  | 74 => ("RowForgeModel", "wide", "[I", true)
  | 75 => ("RowForgeModel", "isFailed", "Z", false)
  | 76 => ("RowForgeModel", "kept", "[I", true)
  | 77 => ("RowForgeModel", "keptRows", "I", false)
  | 78 => ("RowForgeModel", "keptWidth", "I", false)
  | 79 => ("RowForgeModel", "left", "[I", true)
  | 80 => ("RowForgeModel", "right", "[I", true)
  | 81 => ("RowForgeModel", "widthOf", "[I", true)
  | 82 => ("RowForgeModel", "offset", "[I", true)
  | 83 => ("RowForgeModel", "stack", "[I", true)
  | 84 => ("RowForgeModel", "leaves", "I", false)
  | 85 => ("RowForgeModel", "leafNode", "[I", true)
  | 86 => ("RowForgeModel", "leafFrom", "[I", true)
  | 87 => ("RowForgeModel", "leafRows", "[J", true)
  | 88 => ("RowForgeModel", "joins", "I", false)
  | 89 => ("RowForgeModel", "joinOne", "[I", true)
  | 90 => ("RowForgeModel", "joinTwo", "[I", true)
  | 91 => ("RowForgeModel", "statRows", "[I", true)
  | 92 => ("RowForgeModel", "statValues", "[I", true)
  | _ => ("RowForgeModel", "thrown", "I", false)
def ty11 : Nat → FieldType := fun k => match k with
  | 0 => .int
  | 1 => .array .int
  | 2 => .array .int
  | 3 => .array .int
  | 4 => .array .int
  | 5 => .array .int
  | 6 => .array .int
  | 7 => .array .int
  | 8 => .int
  | 9 => .array .int
  | 10 => .array .int
  | 11 => .array .int
  | 12 => .array .int
  | 13 => .array .int
  | 14 => .array .int
  | 15 => .array .int
  | 16 => .int
  | 17 => .array .int
  | 18 => .array .int
  | 19 => .int
  | 20 => .array .int
  | 21 => .array .int
  | 22 => .array .int
  | 23 => .array .int
  | 24 => .array .int
  | 25 => .array .int
  | 26 => .array .boolean
  | 27 => .array .int
  | 28 => .array .int
  | 29 => .array .int
  | 30 => .array .int
  | 31 => .array .int
  | 32 => .array .int
  | 33 => .array .int
  | 34 => .array .int
  | 35 => .array .int
  | 36 => .array .boolean
  | 37 => .int
  | 38 => .array .int
  | 39 => .array .boolean
  | 40 => .array .boolean
  | 41 => .int
  | 42 => .array .int
  | 43 => .array .int
  | 44 => .int
  | 45 => .int
  | 46 => .array .int
  | 47 => .array .int
  | 48 => .array .int
  | 49 => .array .int
  | 50 => .int
  | 51 => .int
  | 52 => .int
  | 53 => .array .int
  | 54 => .array .int
  | 55 => .int
  | 56 => .array .int
  | 57 => .array .int
  | 58 => .array .int
  | 59 => .array .int
  | 60 => .array .boolean
  | 61 => .int
  | 62 => .array .int
  | 63 => .array .boolean
  | 64 => .array .int
  | 65 => .array .int
  | 66 => .array .int
  | 67 => .int
  | 68 => .int
  | 69 => .array .int
  | 70 => .array .int
  | 71 => .int
  | 72 => .array .int
  | 73 => .array .int
  | 74 => .array .int
  | 75 => .boolean
  | 76 => .array .int
  | 77 => .int
  | 78 => .int
  | 79 => .array .int
  | 80 => .array .int
  | 81 => .array .int
  | 82 => .array .int
  | 83 => .array .int
  | 84 => .int
  | 85 => .array .int
  | 86 => .array .int
  | 87 => .array .long
  | 88 => .int
  | 89 => .array .int
  | 90 => .array .int
  | 91 => .array .int
  | 92 => .array .int
  | _ => .int
theorem nm11 : ∀ a, a < 94 → ∀ b, b < 94 → a ≠ b → (T11 a).2.1 ≠ (T11 b).2.1 := by decide +kernel
theorem tk11 : ∀ k, k < 94 → parseFieldDescriptor (T11 k).2.2.1 = some (ty11 k) := by decide +kernel
set_option maxRecDepth 100000 in
theorem in11 : ∀ w ∈ u_ws R11 T11 94, w ∈ TB := tbs _ [2237, 2239, 2241, 2243, 2245, 2247, 2249, 2251, 2253, 2255, 2257, 2259, 2261, 2263, 2265, 2267, 2269, 2271, 2273, 2275, 2277, 2279, 2281, 2283, 2285, 2287, 2289, 2291, 2293, 2295, 2297, 2299, 2301, 2303, 2305, 2307, 2309, 2311, 2313, 2315, 2317, 2319, 2321, 2323, 2325, 2327, 2329, 2331, 2333, 2335, 2337, 2339, 2341, 2343, 2345, 2347, 2349, 2351, 2353, 2355, 2357, 2359, 2361, 2363, 2365, 2367, 2369, 2371, 2373, 2375, 2377, 2379, 2381, 2383, 2385, 2387, 2389, 2391, 2393, 2395, 2397, 2399, 2401, 2403, 2405, 2407, 2409, 2411, 2413, 2415, 2417, 2419, 2421, 2423] (by decide +kernel) (by decide +kernel)
def R12 : String := "java/util/ArrayList"
def T12 : u_T := fun k => match k with
  | 0 => ("java/util/AbstractList", "modCount", "I", false)
  | 1 => ("java/util/ArrayList", "elementData", "[Ljava/lang/Object;", false)
  | _ => ("java/util/ArrayList", "size", "I", false)
def ty12 : Nat → FieldType := fun k => match k with
  | 0 => .int
  | 1 => .array (.object "java/lang/Object")
  | _ => .int
theorem nm12 : ∀ a, a < 3 → ∀ b, b < 3 → a ≠ b → (T12 a).2.1 ≠ (T12 b).2.1 := by decide +kernel
theorem tk12 : ∀ k, k < 3 → parseFieldDescriptor (T12 k).2.2.1 = some (ty12 k) := by decide +kernel
set_option maxRecDepth 100000 in
theorem in12 : ∀ w ∈ u_ws R12 T12 3, w ∈ TB := tbs _ [276, 272, 274] (by decide +kernel) (by decide +kernel)
/-- the classes whose objects the worlds hold -/
abbrev classes : List vw_C := [(R0, T0, 8), (R1, T1, 7), (R2, T2, 5), (R3, T3, 14), (R4, T4, 13), (R5, T5, 3), (R6, T6, 1), (R7, T7, 8), (R8, T8, 19), (R9, T9, 8), (R10, T10, 11), (R11, T11, 94), (R12, T12, 3)]
/-- which fields hold references -/
def isP : Nat → Nat → Bool := fun c k => (match c with
  | 0 => ([0, 1, 2, 3, 4, 5, 6] : List Nat)
  | 1 => ([0, 1, 2, 3, 4] : List Nat)
  | 2 => ([2, 3, 4] : List Nat)
  | 3 => ([0, 1, 2, 3, 5, 6, 7, 8, 10, 11, 12] : List Nat)
  | 4 => ([2, 3, 4, 5, 6, 8, 12] : List Nat)
  | 5 => ([0] : List Nat)
  | 6 => ([0] : List Nat)
  | 7 => ([1, 2, 3, 4, 5, 7] : List Nat)
  | 8 => ([3, 12, 15, 16, 18] : List Nat)
  | 9 => ([0, 1, 2, 3, 4, 5, 6] : List Nat)
  | 10 => ([0, 1, 2, 3, 4, 5, 6, 7, 8, 10] : List Nat)
  | 11 => ([1, 2, 3, 4, 5, 6, 7, 9, 10, 11, 12, 13, 14, 15, 17, 18, 20, 21, 22, 23, 24, 25, 26, 27, 28, 29, 30, 31, 32, 33, 34, 35, 36, 38, 39, 40, 42, 43, 46, 47, 48, 49, 53, 54, 56, 57, 58, 59, 60, 62, 63, 64, 65, 66, 69, 70, 72, 73, 74, 76, 79, 80, 81, 82, 83, 85, 86, 87, 89, 90, 91, 92] : List Nat)
  | 12 => ([1] : List Nat)
  | _ => []).contains k
/-- how many fields -/
def nF : Nat → Nat := fun c => match c with
  | 0 => 8
  | 1 => 7
  | 2 => 5
  | 3 => 14
  | 4 => 13
  | 5 => 3
  | 6 => 1
  | 7 => 8
  | 8 => 19
  | 9 => 8
  | 10 => 11
  | 11 => 94
  | 12 => 3
  | _ => 0
