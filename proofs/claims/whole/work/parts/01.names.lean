-- ===== PART A: goes FIRST, ahead of the names: the tables' words, and 'selects' of the private methods out of them =====
/-- a private method of a class that the tables say can be made, by its rows of tables_1 -/
def lw_okq (q : MethodName × Nat) : Prop := (q.1.cls ≠ "java/lang/invoke/MethodHandle" ∧ q.1.cls ≠ "java/lang/invoke/VarHandle") ∧ Cond.instantiable q.1.cls q.2 ∈ tables_1 ∧ Cond.privateMethod q.1 ∈ tables_1 ∧ Cond.instanceMethod q.1 ∈ tables_1
theorem lw_p0 : lw_okq (⟨"RunLedger", "takeBytes", "(I)V"⟩, 13) := ⟨⟨by decide +kernel, by decide +kernel⟩, List.mem_of_getElem? (i := 30) (by decide +kernel), List.mem_of_getElem? (i := 424) (by decide +kernel), List.mem_of_getElem? (i := 425) (by decide +kernel)⟩
theorem lw_p1 : lw_okq (⟨"RunLedger$Store", "lawSum", "(II)I"⟩, 17) := ⟨⟨by decide +kernel, by decide +kernel⟩, List.mem_of_getElem? (i := 38) (by decide +kernel), List.mem_of_getElem? (i := 453) (by decide +kernel), List.mem_of_getElem? (i := 454) (by decide +kernel)⟩
theorem lw_p2 : lw_okq (⟨"RunLedger", "remember", "()V"⟩, 13) := ⟨⟨by decide +kernel, by decide +kernel⟩, List.mem_of_getElem? (i := 30) (by decide +kernel), List.mem_of_getElem? (i := 465) (by decide +kernel), List.mem_of_getElem? (i := 466) (by decide +kernel)⟩
theorem lw_p3 : lw_okq (⟨"RunLedger$Store", "clearJob", "()V"⟩, 17) := ⟨⟨by decide +kernel, by decide +kernel⟩, List.mem_of_getElem? (i := 38) (by decide +kernel), List.mem_of_getElem? (i := 514) (by decide +kernel), List.mem_of_getElem? (i := 515) (by decide +kernel)⟩
theorem lw_p4 : lw_okq (⟨"RunLedger$Choices", "mergeNeighbours", "(II)V"⟩, 6) := ⟨⟨by decide +kernel, by decide +kernel⟩, List.mem_of_getElem? (i := 353) (by decide +kernel), List.mem_of_getElem? (i := 565) (by decide +kernel), List.mem_of_getElem? (i := 566) (by decide +kernel)⟩
theorem lw_p5 : lw_okq (⟨"RunLedger", "forgetActs", "()V"⟩, 13) := ⟨⟨by decide +kernel, by decide +kernel⟩, List.mem_of_getElem? (i := 30) (by decide +kernel), List.mem_of_getElem? (i := 631) (by decide +kernel), List.mem_of_getElem? (i := 632) (by decide +kernel)⟩
theorem lw_p6 : lw_okq (⟨"RunLedger", "counted", "(I)I"⟩, 13) := ⟨⟨by decide +kernel, by decide +kernel⟩, List.mem_of_getElem? (i := 30) (by decide +kernel), List.mem_of_getElem? (i := 639) (by decide +kernel), List.mem_of_getElem? (i := 640) (by decide +kernel)⟩
theorem lw_p7 : lw_okq (⟨"RunLedger$Scan", "keep", "(III)V"⟩, 6) := ⟨⟨by decide +kernel, by decide +kernel⟩, List.mem_of_getElem? (i := 277) (by decide +kernel), List.mem_of_getElem? (i := 720) (by decide +kernel), List.mem_of_getElem? (i := 721) (by decide +kernel)⟩
theorem lw_p8 : lw_okq (⟨"RunLedger$StoreReader", "readLine", "(LRunLedger$Store;)Z"⟩, 5) := ⟨⟨by decide +kernel, by decide +kernel⟩, List.mem_of_getElem? (i := 303) (by decide +kernel), List.mem_of_getElem? (i := 732) (by decide +kernel), List.mem_of_getElem? (i := 733) (by decide +kernel)⟩
theorem lw_p9 : lw_okq (⟨"RunLedger$StoreReader", "readRun", "(LRunLedger$Store;)Z"⟩, 5) := ⟨⟨by decide +kernel, by decide +kernel⟩, List.mem_of_getElem? (i := 303) (by decide +kernel), List.mem_of_getElem? (i := 736) (by decide +kernel), List.mem_of_getElem? (i := 737) (by decide +kernel)⟩
theorem lw_p10 : lw_okq (⟨"RunLedger$StoreReader", "readPairs", "(IZ)Z"⟩, 5) := ⟨⟨by decide +kernel, by decide +kernel⟩, List.mem_of_getElem? (i := 303) (by decide +kernel), List.mem_of_getElem? (i := 766) (by decide +kernel), List.mem_of_getElem? (i := 767) (by decide +kernel)⟩
theorem lw_p11 : lw_okq (⟨"RunLedger$StoreReader", "readSetting", "(LRunLedger$Store;)Z"⟩, 5) := ⟨⟨by decide +kernel, by decide +kernel⟩, List.mem_of_getElem? (i := 303) (by decide +kernel), List.mem_of_getElem? (i := 779) (by decide +kernel), List.mem_of_getElem? (i := 780) (by decide +kernel)⟩
theorem lw_p12 : lw_okq (⟨"RunLedger$Store", "makeRoom", "()I"⟩, 17) := ⟨⟨by decide +kernel, by decide +kernel⟩, List.mem_of_getElem? (i := 38) (by decide +kernel), List.mem_of_getElem? (i := 801) (by decide +kernel), List.mem_of_getElem? (i := 802) (by decide +kernel)⟩
theorem lw_p13 : lw_okq (⟨"RunLedger$Store", "dearestLevel", "()I"⟩, 17) := ⟨⟨by decide +kernel, by decide +kernel⟩, List.mem_of_getElem? (i := 38) (by decide +kernel), List.mem_of_getElem? (i := 814) (by decide +kernel), List.mem_of_getElem? (i := 815) (by decide +kernel)⟩
theorem lw_p14 : lw_okq (⟨"RunLedger$Store", "mergeKey", "()V"⟩, 17) := ⟨⟨by decide +kernel, by decide +kernel⟩, List.mem_of_getElem? (i := 38) (by decide +kernel), List.mem_of_getElem? (i := 829) (by decide +kernel), List.mem_of_getElem? (i := 830) (by decide +kernel)⟩
theorem lw_p15 : lw_okq (⟨"RunLedger$Store", "nextKey", "()I"⟩, 17) := ⟨⟨by decide +kernel, by decide +kernel⟩, List.mem_of_getElem? (i := 38) (by decide +kernel), List.mem_of_getElem? (i := 833) (by decide +kernel), List.mem_of_getElem? (i := 834) (by decide +kernel)⟩
def lw_privs_1 : List (MethodName × Nat) := [(⟨"RunLedger", "takeBytes", "(I)V"⟩, 13), (⟨"RunLedger$Store", "lawSum", "(II)I"⟩, 17), (⟨"RunLedger", "remember", "()V"⟩, 13), (⟨"RunLedger$Store", "clearJob", "()V"⟩, 17), (⟨"RunLedger$Choices", "mergeNeighbours", "(II)V"⟩, 6), (⟨"RunLedger", "forgetActs", "()V"⟩, 13), (⟨"RunLedger", "counted", "(I)I"⟩, 13), (⟨"RunLedger$Scan", "keep", "(III)V"⟩, 6), (⟨"RunLedger$StoreReader", "readLine", "(LRunLedger$Store;)Z"⟩, 5), (⟨"RunLedger$StoreReader", "readRun", "(LRunLedger$Store;)Z"⟩, 5), (⟨"RunLedger$StoreReader", "readPairs", "(IZ)Z"⟩, 5), (⟨"RunLedger$StoreReader", "readSetting", "(LRunLedger$Store;)Z"⟩, 5), (⟨"RunLedger$Store", "makeRoom", "()I"⟩, 17), (⟨"RunLedger$Store", "dearestLevel", "()I"⟩, 17), (⟨"RunLedger$Store", "mergeKey", "()V"⟩, 17), (⟨"RunLedger$Store", "nextKey", "()I"⟩, 17)]
theorem lw_r1 : ∀ q ∈ lw_privs_1, lw_okq q := List.forall_mem_cons.mpr ⟨lw_p0, List.forall_mem_cons.mpr ⟨lw_p1, List.forall_mem_cons.mpr ⟨lw_p2, List.forall_mem_cons.mpr ⟨lw_p3, List.forall_mem_cons.mpr ⟨lw_p4, List.forall_mem_cons.mpr ⟨lw_p5, List.forall_mem_cons.mpr ⟨lw_p6, List.forall_mem_cons.mpr ⟨lw_p7, List.forall_mem_cons.mpr ⟨lw_p8, List.forall_mem_cons.mpr ⟨lw_p9, List.forall_mem_cons.mpr ⟨lw_p10, List.forall_mem_cons.mpr ⟨lw_p11, List.forall_mem_cons.mpr ⟨lw_p12, List.forall_mem_cons.mpr ⟨lw_p13, List.forall_mem_cons.mpr ⟨lw_p14, List.forall_mem_cons.mpr ⟨lw_p15, fun _ h => absurd h List.not_mem_nil⟩⟩⟩⟩⟩⟩⟩⟩⟩⟩⟩⟩⟩⟩⟩⟩
theorem lw_p16 : lw_okq (⟨"RunLedger$Store", "isBehind", "(II)Z"⟩, 17) := ⟨⟨by decide +kernel, by decide +kernel⟩, List.mem_of_getElem? (i := 38) (by decide +kernel), List.mem_of_getElem? (i := 841) (by decide +kernel), List.mem_of_getElem? (i := 842) (by decide +kernel)⟩
theorem lw_p17 : lw_okq (⟨"RunLedger$Store", "endJob", "(I)V"⟩, 17) := ⟨⟨by decide +kernel, by decide +kernel⟩, List.mem_of_getElem? (i := 38) (by decide +kernel), List.mem_of_getElem? (i := 853) (by decide +kernel), List.mem_of_getElem? (i := 854) (by decide +kernel)⟩
theorem lw_p18 : lw_okq (⟨"java/lang/Throwable", "fillInStackTrace", "(I)Ljava/lang/Throwable;"⟩, 6) := ⟨⟨by decide +kernel, by decide +kernel⟩, List.mem_of_getElem? (i := 910) (by decide +kernel), List.mem_of_getElem? (i := 908) (by decide +kernel), List.mem_of_getElem? (i := 909) (by decide +kernel)⟩
theorem lw_p19 : lw_okq (⟨"RunLedger$LawReader", "anyOf", "(I)Z"⟩, 7) := ⟨⟨by decide +kernel, by decide +kernel⟩, List.mem_of_getElem? (i := 325) (by decide +kernel), List.mem_of_getElem? (i := 970) (by decide +kernel), List.mem_of_getElem? (i := 971) (by decide +kernel)⟩
theorem lw_p20 : lw_okq (⟨"RunLedger$LawReader", "allOf", "(I)Z"⟩, 7) := ⟨⟨by decide +kernel, by decide +kernel⟩, List.mem_of_getElem? (i := 325) (by decide +kernel), List.mem_of_getElem? (i := 974) (by decide +kernel), List.mem_of_getElem? (i := 975) (by decide +kernel)⟩
theorem lw_p21 : lw_okq (⟨"RunLedger$LawReader", "atom", "(I)Z"⟩, 7) := ⟨⟨by decide +kernel, by decide +kernel⟩, List.mem_of_getElem? (i := 325) (by decide +kernel), List.mem_of_getElem? (i := 978) (by decide +kernel), List.mem_of_getElem? (i := 979) (by decide +kernel)⟩
theorem lw_p22 : lw_okq (⟨"RunLedger$LawReader", "emit", "(I)V"⟩, 7) := ⟨⟨by decide +kernel, by decide +kernel⟩, List.mem_of_getElem? (i := 325) (by decide +kernel), List.mem_of_getElem? (i := 982) (by decide +kernel), List.mem_of_getElem? (i := 983) (by decide +kernel)⟩
theorem lw_p23 : lw_okq (⟨"RunLedger$LawReader", "comparison", "()Z"⟩, 7) := ⟨⟨by decide +kernel, by decide +kernel⟩, List.mem_of_getElem? (i := 325) (by decide +kernel), List.mem_of_getElem? (i := 987) (by decide +kernel), List.mem_of_getElem? (i := 988) (by decide +kernel)⟩
theorem lw_p24 : lw_okq (⟨"RunLedger$LawReader", "sum", "()Z"⟩, 7) := ⟨⟨by decide +kernel, by decide +kernel⟩, List.mem_of_getElem? (i := 325) (by decide +kernel), List.mem_of_getElem? (i := 991) (by decide +kernel), List.mem_of_getElem? (i := 992) (by decide +kernel)⟩
theorem lw_p25 : lw_okq (⟨"RunLedger$Store", "draw", "()I"⟩, 17) := ⟨⟨by decide +kernel, by decide +kernel⟩, List.mem_of_getElem? (i := 38) (by decide +kernel), List.mem_of_getElem? (i := 1125) (by decide +kernel), List.mem_of_getElem? (i := 1126) (by decide +kernel)⟩
theorem lw_p26 : lw_okq (⟨"RunLedger", "takeRows", "()I"⟩, 13) := ⟨⟨by decide +kernel, by decide +kernel⟩, List.mem_of_getElem? (i := 30) (by decide +kernel), List.mem_of_getElem? (i := 1231) (by decide +kernel), List.mem_of_getElem? (i := 1232) (by decide +kernel)⟩
theorem lw_p27 : lw_okq (⟨"RunLedger", "fitting", "(I)I"⟩, 13) := ⟨⟨by decide +kernel, by decide +kernel⟩, List.mem_of_getElem? (i := 30) (by decide +kernel), List.mem_of_getElem? (i := 1235) (by decide +kernel), List.mem_of_getElem? (i := 1236) (by decide +kernel)⟩
theorem lw_p28 : lw_okq (⟨"RunLedger", "wrongRows", "(LRunLedger$Row;I)I"⟩, 13) := ⟨⟨by decide +kernel, by decide +kernel⟩, List.mem_of_getElem? (i := 30) (by decide +kernel), List.mem_of_getElem? (i := 1239) (by decide +kernel), List.mem_of_getElem? (i := 1240) (by decide +kernel)⟩
theorem lw_p29 : lw_okq (⟨"RunLedger", "greatestPart", "(II)I"⟩, 13) := ⟨⟨by decide +kernel, by decide +kernel⟩, List.mem_of_getElem? (i := 30) (by decide +kernel), List.mem_of_getElem? (i := 1263) (by decide +kernel), List.mem_of_getElem? (i := 1264) (by decide +kernel)⟩
theorem lw_p30 : lw_okq (⟨"RunLedger$Choices", "mostOf", "(II)I"⟩, 6) := ⟨⟨by decide +kernel, by decide +kernel⟩, List.mem_of_getElem? (i := 353) (by decide +kernel), List.mem_of_getElem? (i := 1282) (by decide +kernel), List.mem_of_getElem? (i := 1283) (by decide +kernel)⟩
theorem lw_p31 : lw_okq (⟨"RunLedger$Choices", "partnerIn", "(III)I"⟩, 6) := ⟨⟨by decide +kernel, by decide +kernel⟩, List.mem_of_getElem? (i := 353) (by decide +kernel), List.mem_of_getElem? (i := 1286) (by decide +kernel), List.mem_of_getElem? (i := 1287) (by decide +kernel)⟩
def lw_privs_2 : List (MethodName × Nat) := [(⟨"RunLedger$Store", "isBehind", "(II)Z"⟩, 17), (⟨"RunLedger$Store", "endJob", "(I)V"⟩, 17), (⟨"java/lang/Throwable", "fillInStackTrace", "(I)Ljava/lang/Throwable;"⟩, 6), (⟨"RunLedger$LawReader", "anyOf", "(I)Z"⟩, 7), (⟨"RunLedger$LawReader", "allOf", "(I)Z"⟩, 7), (⟨"RunLedger$LawReader", "atom", "(I)Z"⟩, 7), (⟨"RunLedger$LawReader", "emit", "(I)V"⟩, 7), (⟨"RunLedger$LawReader", "comparison", "()Z"⟩, 7), (⟨"RunLedger$LawReader", "sum", "()Z"⟩, 7), (⟨"RunLedger$Store", "draw", "()I"⟩, 17), (⟨"RunLedger", "takeRows", "()I"⟩, 13), (⟨"RunLedger", "fitting", "(I)I"⟩, 13), (⟨"RunLedger", "wrongRows", "(LRunLedger$Row;I)I"⟩, 13), (⟨"RunLedger", "greatestPart", "(II)I"⟩, 13), (⟨"RunLedger$Choices", "mostOf", "(II)I"⟩, 6), (⟨"RunLedger$Choices", "partnerIn", "(III)I"⟩, 6)]
theorem lw_r2 : ∀ q ∈ lw_privs_2, lw_okq q := List.forall_mem_cons.mpr ⟨lw_p16, List.forall_mem_cons.mpr ⟨lw_p17, List.forall_mem_cons.mpr ⟨lw_p18, List.forall_mem_cons.mpr ⟨lw_p19, List.forall_mem_cons.mpr ⟨lw_p20, List.forall_mem_cons.mpr ⟨lw_p21, List.forall_mem_cons.mpr ⟨lw_p22, List.forall_mem_cons.mpr ⟨lw_p23, List.forall_mem_cons.mpr ⟨lw_p24, List.forall_mem_cons.mpr ⟨lw_p25, List.forall_mem_cons.mpr ⟨lw_p26, List.forall_mem_cons.mpr ⟨lw_p27, List.forall_mem_cons.mpr ⟨lw_p28, List.forall_mem_cons.mpr ⟨lw_p29, List.forall_mem_cons.mpr ⟨lw_p30, List.forall_mem_cons.mpr ⟨lw_p31, fun _ h => absurd h List.not_mem_nil⟩⟩⟩⟩⟩⟩⟩⟩⟩⟩⟩⟩⟩⟩⟩⟩
theorem lw_p32 : lw_okq (⟨"RunLedger$Choices", "firstPartner", "(III)I"⟩, 6) := ⟨⟨by decide +kernel, by decide +kernel⟩, List.mem_of_getElem? (i := 353) (by decide +kernel), List.mem_of_getElem? (i := 1290) (by decide +kernel), List.mem_of_getElem? (i := 1291) (by decide +kernel)⟩
theorem lw_p33 : lw_okq (⟨"RunLedgerModel", "empties", "(I)V"⟩, 21) := ⟨⟨by decide +kernel, by decide +kernel⟩, List.mem_of_getElem? (i := 1366) (by decide +kernel), List.mem_of_getElem? (i := 1372) (by decide +kernel), List.mem_of_getElem? (i := 1373) (by decide +kernel)⟩
theorem lw_p34 : lw_okq (⟨"RunLedgerModel", "readAll", "(Z)I"⟩, 21) := ⟨⟨by decide +kernel, by decide +kernel⟩, List.mem_of_getElem? (i := 1366) (by decide +kernel), List.mem_of_getElem? (i := 1468) (by decide +kernel), List.mem_of_getElem? (i := 1469) (by decide +kernel)⟩
theorem lw_p35 : lw_okq (⟨"RunLedgerModel", "uses", "()V"⟩, 21) := ⟨⟨by decide +kernel, by decide +kernel⟩, List.mem_of_getElem? (i := 1366) (by decide +kernel), List.mem_of_getElem? (i := 1472) (by decide +kernel), List.mem_of_getElem? (i := 1473) (by decide +kernel)⟩
theorem lw_p36 : lw_okq (⟨"RunLedgerModel", "blanks", "()V"⟩, 21) := ⟨⟨by decide +kernel, by decide +kernel⟩, List.mem_of_getElem? (i := 1366) (by decide +kernel), List.mem_of_getElem? (i := 1476) (by decide +kernel), List.mem_of_getElem? (i := 1477) (by decide +kernel)⟩
theorem lw_p37 : lw_okq (⟨"RunLedgerModel", "isAt", "(II)Z"⟩, 21) := ⟨⟨by decide +kernel, by decide +kernel⟩, List.mem_of_getElem? (i := 1366) (by decide +kernel), List.mem_of_getElem? (i := 1480) (by decide +kernel), List.mem_of_getElem? (i := 1481) (by decide +kernel)⟩
theorem lw_p38 : lw_okq (⟨"RunLedgerModel", "readLine", "(ZI)Z"⟩, 21) := ⟨⟨by decide +kernel, by decide +kernel⟩, List.mem_of_getElem? (i := 1366) (by decide +kernel), List.mem_of_getElem? (i := 1484) (by decide +kernel), List.mem_of_getElem? (i := 1485) (by decide +kernel)⟩
theorem lw_p39 : lw_okq (⟨"RunLedgerModel", "letters", "()V"⟩, 21) := ⟨⟨by decide +kernel, by decide +kernel⟩, List.mem_of_getElem? (i := 1366) (by decide +kernel), List.mem_of_getElem? (i := 1488) (by decide +kernel), List.mem_of_getElem? (i := 1489) (by decide +kernel)⟩
theorem lw_p40 : lw_okq (⟨"RunLedgerModel", "readStoreLine", "()Z"⟩, 21) := ⟨⟨by decide +kernel, by decide +kernel⟩, List.mem_of_getElem? (i := 1366) (by decide +kernel), List.mem_of_getElem? (i := 1492) (by decide +kernel), List.mem_of_getElem? (i := 1493) (by decide +kernel)⟩
theorem lw_p41 : lw_okq (⟨"RunLedgerModel", "isWord", "(Ljava/lang/String;)Z"⟩, 21) := ⟨⟨by decide +kernel, by decide +kernel⟩, List.mem_of_getElem? (i := 1366) (by decide +kernel), List.mem_of_getElem? (i := 1497) (by decide +kernel), List.mem_of_getElem? (i := 1498) (by decide +kernel)⟩
theorem lw_p42 : lw_okq (⟨"RunLedgerModel", "readRun", "()Z"⟩, 21) := ⟨⟨by decide +kernel, by decide +kernel⟩, List.mem_of_getElem? (i := 1366) (by decide +kernel), List.mem_of_getElem? (i := 1503) (by decide +kernel), List.mem_of_getElem? (i := 1504) (by decide +kernel)⟩
theorem lw_p43 : lw_okq (⟨"RunLedgerModel", "runs", "()I"⟩, 21) := ⟨⟨by decide +kernel, by decide +kernel⟩, List.mem_of_getElem? (i := 1366) (by decide +kernel), List.mem_of_getElem? (i := 1507) (by decide +kernel), List.mem_of_getElem? (i := 1508) (by decide +kernel)⟩
theorem lw_p44 : lw_okq (⟨"RunLedgerModel", "levelOf", "(I)I"⟩, 21) := ⟨⟨by decide +kernel, by decide +kernel⟩, List.mem_of_getElem? (i := 1366) (by decide +kernel), List.mem_of_getElem? (i := 1512) (by decide +kernel), List.mem_of_getElem? (i := 1513) (by decide +kernel)⟩
theorem lw_p45 : lw_okq (⟨"RunLedgerModel", "behind", "(Ljava/lang/String;II)I"⟩, 21) := ⟨⟨by decide +kernel, by decide +kernel⟩, List.mem_of_getElem? (i := 1366) (by decide +kernel), List.mem_of_getElem? (i := 1519) (by decide +kernel), List.mem_of_getElem? (i := 1520) (by decide +kernel)⟩
theorem lw_p46 : lw_okq (⟨"RunLedgerModel", "number", "(II)I"⟩, 21) := ⟨⟨by decide +kernel, by decide +kernel⟩, List.mem_of_getElem? (i := 1366) (by decide +kernel), List.mem_of_getElem? (i := 1523) (by decide +kernel), List.mem_of_getElem? (i := 1524) (by decide +kernel)⟩
theorem lw_p47 : lw_okq (⟨"RunLedgerModel", "isHalted", "()I"⟩, 21) := ⟨⟨by decide +kernel, by decide +kernel⟩, List.mem_of_getElem? (i := 1366) (by decide +kernel), List.mem_of_getElem? (i := 1528) (by decide +kernel), List.mem_of_getElem? (i := 1529) (by decide +kernel)⟩
def lw_privs_3 : List (MethodName × Nat) := [(⟨"RunLedger$Choices", "firstPartner", "(III)I"⟩, 6), (⟨"RunLedgerModel", "empties", "(I)V"⟩, 21), (⟨"RunLedgerModel", "readAll", "(Z)I"⟩, 21), (⟨"RunLedgerModel", "uses", "()V"⟩, 21), (⟨"RunLedgerModel", "blanks", "()V"⟩, 21), (⟨"RunLedgerModel", "isAt", "(II)Z"⟩, 21), (⟨"RunLedgerModel", "readLine", "(ZI)Z"⟩, 21), (⟨"RunLedgerModel", "letters", "()V"⟩, 21), (⟨"RunLedgerModel", "readStoreLine", "()Z"⟩, 21), (⟨"RunLedgerModel", "isWord", "(Ljava/lang/String;)Z"⟩, 21), (⟨"RunLedgerModel", "readRun", "()Z"⟩, 21), (⟨"RunLedgerModel", "runs", "()I"⟩, 21), (⟨"RunLedgerModel", "levelOf", "(I)I"⟩, 21), (⟨"RunLedgerModel", "behind", "(Ljava/lang/String;II)I"⟩, 21), (⟨"RunLedgerModel", "number", "(II)I"⟩, 21), (⟨"RunLedgerModel", "isHalted", "()I"⟩, 21)]
theorem lw_r3 : ∀ q ∈ lw_privs_3, lw_okq q := List.forall_mem_cons.mpr ⟨lw_p32, List.forall_mem_cons.mpr ⟨lw_p33, List.forall_mem_cons.mpr ⟨lw_p34, List.forall_mem_cons.mpr ⟨lw_p35, List.forall_mem_cons.mpr ⟨lw_p36, List.forall_mem_cons.mpr ⟨lw_p37, List.forall_mem_cons.mpr ⟨lw_p38, List.forall_mem_cons.mpr ⟨lw_p39, List.forall_mem_cons.mpr ⟨lw_p40, List.forall_mem_cons.mpr ⟨lw_p41, List.forall_mem_cons.mpr ⟨lw_p42, List.forall_mem_cons.mpr ⟨lw_p43, List.forall_mem_cons.mpr ⟨lw_p44, List.forall_mem_cons.mpr ⟨lw_p45, List.forall_mem_cons.mpr ⟨lw_p46, List.forall_mem_cons.mpr ⟨lw_p47, fun _ h => absurd h List.not_mem_nil⟩⟩⟩⟩⟩⟩⟩⟩⟩⟩⟩⟩⟩⟩⟩⟩
theorem lw_p48 : lw_okq (⟨"RunLedgerModel", "isBusy", "()Z"⟩, 21) := ⟨⟨by decide +kernel, by decide +kernel⟩, List.mem_of_getElem? (i := 1366) (by decide +kernel), List.mem_of_getElem? (i := 1532) (by decide +kernel), List.mem_of_getElem? (i := 1533) (by decide +kernel)⟩
theorem lw_p49 : lw_okq (⟨"RunLedgerModel", "entriesOf", "(I)I"⟩, 21) := ⟨⟨by decide +kernel, by decide +kernel⟩, List.mem_of_getElem? (i := 1366) (by decide +kernel), List.mem_of_getElem? (i := 1536) (by decide +kernel), List.mem_of_getElem? (i := 1537) (by decide +kernel)⟩
theorem lw_p50 : lw_okq (⟨"RunLedgerModel", "isTold", "(III)V"⟩, 21) := ⟨⟨by decide +kernel, by decide +kernel⟩, List.mem_of_getElem? (i := 1366) (by decide +kernel), List.mem_of_getElem? (i := 1540) (by decide +kernel), List.mem_of_getElem? (i := 1541) (by decide +kernel)⟩
theorem lw_p51 : lw_okq (⟨"RunLedgerModel", "more", "(III)V"⟩, 21) := ⟨⟨by decide +kernel, by decide +kernel⟩, List.mem_of_getElem? (i := 1366) (by decide +kernel), List.mem_of_getElem? (i := 1544) (by decide +kernel), List.mem_of_getElem? (i := 1545) (by decide +kernel)⟩
theorem lw_p52 : lw_okq (⟨"RunLedgerModel", "isNoMore", "()V"⟩, 21) := ⟨⟨by decide +kernel, by decide +kernel⟩, List.mem_of_getElem? (i := 1366) (by decide +kernel), List.mem_of_getElem? (i := 1549) (by decide +kernel), List.mem_of_getElem? (i := 1550) (by decide +kernel)⟩
theorem lw_p53 : lw_okq (⟨"RunLedgerModel", "isFigure", "()Z"⟩, 21) := ⟨⟨by decide +kernel, by decide +kernel⟩, List.mem_of_getElem? (i := 1366) (by decide +kernel), List.mem_of_getElem? (i := 1556) (by decide +kernel), List.mem_of_getElem? (i := 1557) (by decide +kernel)⟩
theorem lw_p54 : lw_okq (⟨"RunLedgerModel", "readTable", "()Z"⟩, 21) := ⟨⟨by decide +kernel, by decide +kernel⟩, List.mem_of_getElem? (i := 1366) (by decide +kernel), List.mem_of_getElem? (i := 1561) (by decide +kernel), List.mem_of_getElem? (i := 1562) (by decide +kernel)⟩
theorem lw_p55 : lw_okq (⟨"RunLedgerModel", "isWritten", "(II)I"⟩, 21) := ⟨⟨by decide +kernel, by decide +kernel⟩, List.mem_of_getElem? (i := 1366) (by decide +kernel), List.mem_of_getElem? (i := 1565) (by decide +kernel), List.mem_of_getElem? (i := 1566) (by decide +kernel)⟩
theorem lw_p56 : lw_okq (⟨"RunLedgerModel", "canGoOn", "()Z"⟩, 21) := ⟨⟨by decide +kernel, by decide +kernel⟩, List.mem_of_getElem? (i := 1366) (by decide +kernel), List.mem_of_getElem? (i := 1570) (by decide +kernel), List.mem_of_getElem? (i := 1571) (by decide +kernel)⟩
theorem lw_p57 : lw_okq (⟨"RunLedgerModel", "isCrowded", "()Z"⟩, 21) := ⟨⟨by decide +kernel, by decide +kernel⟩, List.mem_of_getElem? (i := 1366) (by decide +kernel), List.mem_of_getElem? (i := 1574) (by decide +kernel), List.mem_of_getElem? (i := 1575) (by decide +kernel)⟩
theorem lw_p58 : lw_okq (⟨"RunLedgerModel", "runsOf", "(I)I"⟩, 21) := ⟨⟨by decide +kernel, by decide +kernel⟩, List.mem_of_getElem? (i := 1366) (by decide +kernel), List.mem_of_getElem? (i := 1578) (by decide +kernel), List.mem_of_getElem? (i := 1579) (by decide +kernel)⟩
theorem lw_p59 : lw_okq (⟨"RunLedgerModel", "mayBegin", "()V"⟩, 21) := ⟨⟨by decide +kernel, by decide +kernel⟩, List.mem_of_getElem? (i := 1366) (by decide +kernel), List.mem_of_getElem? (i := 1583) (by decide +kernel), List.mem_of_getElem? (i := 1584) (by decide +kernel)⟩
theorem lw_p60 : lw_okq (⟨"RunLedgerModel", "dueMost", "()I"⟩, 21) := ⟨⟨by decide +kernel, by decide +kernel⟩, List.mem_of_getElem? (i := 1366) (by decide +kernel), List.mem_of_getElem? (i := 1587) (by decide +kernel), List.mem_of_getElem? (i := 1588) (by decide +kernel)⟩
theorem lw_p61 : lw_okq (⟨"RunLedgerModel", "isDue", "(I)Z"⟩, 21) := ⟨⟨by decide +kernel, by decide +kernel⟩, List.mem_of_getElem? (i := 1366) (by decide +kernel), List.mem_of_getElem? (i := 1591) (by decide +kernel), List.mem_of_getElem? (i := 1592) (by decide +kernel)⟩
theorem lw_p62 : lw_okq (⟨"RunLedgerModel", "entriesIn", "(I)I"⟩, 21) := ⟨⟨by decide +kernel, by decide +kernel⟩, List.mem_of_getElem? (i := 1366) (by decide +kernel), List.mem_of_getElem? (i := 1595) (by decide +kernel), List.mem_of_getElem? (i := 1596) (by decide +kernel)⟩
theorem lw_p63 : lw_okq (⟨"RunLedgerModel", "worthOf", "(I)I"⟩, 21) := ⟨⟨by decide +kernel, by decide +kernel⟩, List.mem_of_getElem? (i := 1366) (by decide +kernel), List.mem_of_getElem? (i := 1602) (by decide +kernel), List.mem_of_getElem? (i := 1603) (by decide +kernel)⟩
def lw_privs_4 : List (MethodName × Nat) := [(⟨"RunLedgerModel", "isBusy", "()Z"⟩, 21), (⟨"RunLedgerModel", "entriesOf", "(I)I"⟩, 21), (⟨"RunLedgerModel", "isTold", "(III)V"⟩, 21), (⟨"RunLedgerModel", "more", "(III)V"⟩, 21), (⟨"RunLedgerModel", "isNoMore", "()V"⟩, 21), (⟨"RunLedgerModel", "isFigure", "()Z"⟩, 21), (⟨"RunLedgerModel", "readTable", "()Z"⟩, 21), (⟨"RunLedgerModel", "isWritten", "(II)I"⟩, 21), (⟨"RunLedgerModel", "canGoOn", "()Z"⟩, 21), (⟨"RunLedgerModel", "isCrowded", "()Z"⟩, 21), (⟨"RunLedgerModel", "runsOf", "(I)I"⟩, 21), (⟨"RunLedgerModel", "mayBegin", "()V"⟩, 21), (⟨"RunLedgerModel", "dueMost", "()I"⟩, 21), (⟨"RunLedgerModel", "isDue", "(I)Z"⟩, 21), (⟨"RunLedgerModel", "entriesIn", "(I)I"⟩, 21), (⟨"RunLedgerModel", "worthOf", "(I)I"⟩, 21)]
theorem lw_r4 : ∀ q ∈ lw_privs_4, lw_okq q := List.forall_mem_cons.mpr ⟨lw_p48, List.forall_mem_cons.mpr ⟨lw_p49, List.forall_mem_cons.mpr ⟨lw_p50, List.forall_mem_cons.mpr ⟨lw_p51, List.forall_mem_cons.mpr ⟨lw_p52, List.forall_mem_cons.mpr ⟨lw_p53, List.forall_mem_cons.mpr ⟨lw_p54, List.forall_mem_cons.mpr ⟨lw_p55, List.forall_mem_cons.mpr ⟨lw_p56, List.forall_mem_cons.mpr ⟨lw_p57, List.forall_mem_cons.mpr ⟨lw_p58, List.forall_mem_cons.mpr ⟨lw_p59, List.forall_mem_cons.mpr ⟨lw_p60, List.forall_mem_cons.mpr ⟨lw_p61, List.forall_mem_cons.mpr ⟨lw_p62, List.forall_mem_cons.mpr ⟨lw_p63, fun _ h => absurd h List.not_mem_nil⟩⟩⟩⟩⟩⟩⟩⟩⟩⟩⟩⟩⟩⟩⟩⟩
theorem lw_p64 : lw_okq (⟨"RunLedgerModel", "sumOf", "(II)I"⟩, 21) := ⟨⟨by decide +kernel, by decide +kernel⟩, List.mem_of_getElem? (i := 1366) (by decide +kernel), List.mem_of_getElem? (i := 1606) (by decide +kernel), List.mem_of_getElem? (i := 1607) (by decide +kernel)⟩
theorem lw_p65 : lw_okq (⟨"RunLedgerModel", "holdsLine", "(II)Z"⟩, 21) := ⟨⟨by decide +kernel, by decide +kernel⟩, List.mem_of_getElem? (i := 1366) (by decide +kernel), List.mem_of_getElem? (i := 1610) (by decide +kernel), List.mem_of_getElem? (i := 1611) (by decide +kernel)⟩
theorem lw_p66 : lw_okq (⟨"RunLedgerModel", "factOf", "(III)I"⟩, 21) := ⟨⟨by decide +kernel, by decide +kernel⟩, List.mem_of_getElem? (i := 1366) (by decide +kernel), List.mem_of_getElem? (i := 1614) (by decide +kernel), List.mem_of_getElem? (i := 1615) (by decide +kernel)⟩
theorem lw_p67 : lw_okq (⟨"RunLedgerModel", "debtNow", "()I"⟩, 21) := ⟨⟨by decide +kernel, by decide +kernel⟩, List.mem_of_getElem? (i := 1366) (by decide +kernel), List.mem_of_getElem? (i := 1618) (by decide +kernel), List.mem_of_getElem? (i := 1619) (by decide +kernel)⟩
theorem lw_p68 : lw_okq (⟨"RunLedgerModel", "leftNow", "()I"⟩, 21) := ⟨⟨by decide +kernel, by decide +kernel⟩, List.mem_of_getElem? (i := 1366) (by decide +kernel), List.mem_of_getElem? (i := 1622) (by decide +kernel), List.mem_of_getElem? (i := 1623) (by decide +kernel)⟩
theorem lw_p69 : lw_okq (⟨"RunLedgerModel", "isInput", "(I)Z"⟩, 21) := ⟨⟨by decide +kernel, by decide +kernel⟩, List.mem_of_getElem? (i := 1366) (by decide +kernel), List.mem_of_getElem? (i := 1626) (by decide +kernel), List.mem_of_getElem? (i := 1627) (by decide +kernel)⟩
theorem lw_p70 : lw_okq (⟨"RunLedgerModel", "inputs", "()I"⟩, 21) := ⟨⟨by decide +kernel, by decide +kernel⟩, List.mem_of_getElem? (i := 1366) (by decide +kernel), List.mem_of_getElem? (i := 1630) (by decide +kernel), List.mem_of_getElem? (i := 1631) (by decide +kernel)⟩
theorem lw_p71 : lw_okq (⟨"RunLedgerModel", "paidSlice", "(I)I"⟩, 21) := ⟨⟨by decide +kernel, by decide +kernel⟩, List.mem_of_getElem? (i := 1366) (by decide +kernel), List.mem_of_getElem? (i := 1634) (by decide +kernel), List.mem_of_getElem? (i := 1635) (by decide +kernel)⟩
theorem lw_p72 : lw_okq (⟨"RunLedgerModel", "sliceNow", "()I"⟩, 21) := ⟨⟨by decide +kernel, by decide +kernel⟩, List.mem_of_getElem? (i := 1366) (by decide +kernel), List.mem_of_getElem? (i := 1638) (by decide +kernel), List.mem_of_getElem? (i := 1639) (by decide +kernel)⟩
theorem lw_p73 : lw_okq (⟨"RunLedgerModel", "goalOrNothing", "()I"⟩, 21) := ⟨⟨by decide +kernel, by decide +kernel⟩, List.mem_of_getElem? (i := 1366) (by decide +kernel), List.mem_of_getElem? (i := 1642) (by decide +kernel), List.mem_of_getElem? (i := 1643) (by decide +kernel)⟩
theorem lw_p74 : lw_okq (⟨"RunLedgerModel", "costNow", "()I"⟩, 21) := ⟨⟨by decide +kernel, by decide +kernel⟩, List.mem_of_getElem? (i := 1366) (by decide +kernel), List.mem_of_getElem? (i := 1647) (by decide +kernel), List.mem_of_getElem? (i := 1648) (by decide +kernel)⟩
theorem lw_p75 : lw_okq (⟨"RunLedgerModel", "works", "(I)I"⟩, 21) := ⟨⟨by decide +kernel, by decide +kernel⟩, List.mem_of_getElem? (i := 1366) (by decide +kernel), List.mem_of_getElem? (i := 1651) (by decide +kernel), List.mem_of_getElem? (i := 1652) (by decide +kernel)⟩
theorem lw_p76 : lw_okq (⟨"RunLedgerModel", "nextKey", "()I"⟩, 21) := ⟨⟨by decide +kernel, by decide +kernel⟩, List.mem_of_getElem? (i := 1366) (by decide +kernel), List.mem_of_getElem? (i := 1655) (by decide +kernel), List.mem_of_getElem? (i := 1656) (by decide +kernel)⟩
theorem lw_p77 : lw_okq (⟨"RunLedgerModel", "newestWith", "(I)I"⟩, 21) := ⟨⟨by decide +kernel, by decide +kernel⟩, List.mem_of_getElem? (i := 1366) (by decide +kernel), List.mem_of_getElem? (i := 1659) (by decide +kernel), List.mem_of_getElem? (i := 1660) (by decide +kernel)⟩
theorem lw_p78 : lw_okq (⟨"RunLedgerModel", "takes", "(I)V"⟩, 21) := ⟨⟨by decide +kernel, by decide +kernel⟩, List.mem_of_getElem? (i := 1366) (by decide +kernel), List.mem_of_getElem? (i := 1663) (by decide +kernel), List.mem_of_getElem? (i := 1664) (by decide +kernel)⟩
theorem lw_p79 : lw_okq (⟨"RunLedgerModel", "lowerHas", "(I)Z"⟩, 21) := ⟨⟨by decide +kernel, by decide +kernel⟩, List.mem_of_getElem? (i := 1366) (by decide +kernel), List.mem_of_getElem? (i := 1667) (by decide +kernel), List.mem_of_getElem? (i := 1668) (by decide +kernel)⟩
def lw_privs_5 : List (MethodName × Nat) := [(⟨"RunLedgerModel", "sumOf", "(II)I"⟩, 21), (⟨"RunLedgerModel", "holdsLine", "(II)Z"⟩, 21), (⟨"RunLedgerModel", "factOf", "(III)I"⟩, 21), (⟨"RunLedgerModel", "debtNow", "()I"⟩, 21), (⟨"RunLedgerModel", "leftNow", "()I"⟩, 21), (⟨"RunLedgerModel", "isInput", "(I)Z"⟩, 21), (⟨"RunLedgerModel", "inputs", "()I"⟩, 21), (⟨"RunLedgerModel", "paidSlice", "(I)I"⟩, 21), (⟨"RunLedgerModel", "sliceNow", "()I"⟩, 21), (⟨"RunLedgerModel", "goalOrNothing", "()I"⟩, 21), (⟨"RunLedgerModel", "costNow", "()I"⟩, 21), (⟨"RunLedgerModel", "works", "(I)I"⟩, 21), (⟨"RunLedgerModel", "nextKey", "()I"⟩, 21), (⟨"RunLedgerModel", "newestWith", "(I)I"⟩, 21), (⟨"RunLedgerModel", "takes", "(I)V"⟩, 21), (⟨"RunLedgerModel", "lowerHas", "(I)Z"⟩, 21)]
theorem lw_r5 : ∀ q ∈ lw_privs_5, lw_okq q := List.forall_mem_cons.mpr ⟨lw_p64, List.forall_mem_cons.mpr ⟨lw_p65, List.forall_mem_cons.mpr ⟨lw_p66, List.forall_mem_cons.mpr ⟨lw_p67, List.forall_mem_cons.mpr ⟨lw_p68, List.forall_mem_cons.mpr ⟨lw_p69, List.forall_mem_cons.mpr ⟨lw_p70, List.forall_mem_cons.mpr ⟨lw_p71, List.forall_mem_cons.mpr ⟨lw_p72, List.forall_mem_cons.mpr ⟨lw_p73, List.forall_mem_cons.mpr ⟨lw_p74, List.forall_mem_cons.mpr ⟨lw_p75, List.forall_mem_cons.mpr ⟨lw_p76, List.forall_mem_cons.mpr ⟨lw_p77, List.forall_mem_cons.mpr ⟨lw_p78, List.forall_mem_cons.mpr ⟨lw_p79, fun _ h => absurd h List.not_mem_nil⟩⟩⟩⟩⟩⟩⟩⟩⟩⟩⟩⟩⟩⟩⟩⟩
theorem lw_p80 : lw_okq (⟨"RunLedgerModel", "isBehindInputs", "(I)Z"⟩, 21) := ⟨⟨by decide +kernel, by decide +kernel⟩, List.mem_of_getElem? (i := 1366) (by decide +kernel), List.mem_of_getElem? (i := 1671) (by decide +kernel), List.mem_of_getElem? (i := 1672) (by decide +kernel)⟩
theorem lw_p81 : lw_okq (⟨"RunLedgerModel", "ends", "()V"⟩, 21) := ⟨⟨by decide +kernel, by decide +kernel⟩, List.mem_of_getElem? (i := 1366) (by decide +kernel), List.mem_of_getElem? (i := 1675) (by decide +kernel), List.mem_of_getElem? (i := 1676) (by decide +kernel)⟩
theorem lw_p82 : lw_okq (⟨"RunLedgerModel", "copies", "(III)V"⟩, 21) := ⟨⟨by decide +kernel, by decide +kernel⟩, List.mem_of_getElem? (i := 1366) (by decide +kernel), List.mem_of_getElem? (i := 1679) (by decide +kernel), List.mem_of_getElem? (i := 1680) (by decide +kernel)⟩
theorem lw_p83 : lw_okq (⟨"RunLedgerModel", "isFlushed", "()V"⟩, 21) := ⟨⟨by decide +kernel, by decide +kernel⟩, List.mem_of_getElem? (i := 1366) (by decide +kernel), List.mem_of_getElem? (i := 1683) (by decide +kernel), List.mem_of_getElem? (i := 1684) (by decide +kernel)⟩
theorem lw_p84 : lw_okq (⟨"RunLedgerModel", "readBound", "(II)Z"⟩, 21) := ⟨⟨by decide +kernel, by decide +kernel⟩, List.mem_of_getElem? (i := 1366) (by decide +kernel), List.mem_of_getElem? (i := 1688) (by decide +kernel), List.mem_of_getElem? (i := 1689) (by decide +kernel)⟩
theorem lw_p85 : lw_okq (⟨"RunLedgerModel", "readNumber", "(III)Z"⟩, 21) := ⟨⟨by decide +kernel, by decide +kernel⟩, List.mem_of_getElem? (i := 1366) (by decide +kernel), List.mem_of_getElem? (i := 1692) (by decide +kernel), List.mem_of_getElem? (i := 1693) (by decide +kernel)⟩
theorem lw_p86 : lw_okq (⟨"RunLedgerModel", "readPlan", "(Z)Z"⟩, 21) := ⟨⟨by decide +kernel, by decide +kernel⟩, List.mem_of_getElem? (i := 1366) (by decide +kernel), List.mem_of_getElem? (i := 1699) (by decide +kernel), List.mem_of_getElem? (i := 1700) (by decide +kernel)⟩
theorem lw_p87 : lw_okq (⟨"RunLedgerModel", "readLawLine", "(I)Z"⟩, 21) := ⟨⟨by decide +kernel, by decide +kernel⟩, List.mem_of_getElem? (i := 1366) (by decide +kernel), List.mem_of_getElem? (i := 1705) (by decide +kernel), List.mem_of_getElem? (i := 1706) (by decide +kernel)⟩
theorem lw_p88 : lw_okq (⟨"RunLedgerModel", "passes", "(Ljava/lang/String;)Z"⟩, 21) := ⟨⟨by decide +kernel, by decide +kernel⟩, List.mem_of_getElem? (i := 1366) (by decide +kernel), List.mem_of_getElem? (i := 1712) (by decide +kernel), List.mem_of_getElem? (i := 1713) (by decide +kernel)⟩
theorem lw_p89 : lw_okq (⟨"RunLedgerModel", "readCond", "()Z"⟩, 21) := ⟨⟨by decide +kernel, by decide +kernel⟩, List.mem_of_getElem? (i := 1366) (by decide +kernel), List.mem_of_getElem? (i := 1716) (by decide +kernel), List.mem_of_getElem? (i := 1717) (by decide +kernel)⟩
theorem lw_p90 : lw_okq (⟨"RunLedgerModel", "readAllOf", "()Z"⟩, 21) := ⟨⟨by decide +kernel, by decide +kernel⟩, List.mem_of_getElem? (i := 1366) (by decide +kernel), List.mem_of_getElem? (i := 1720) (by decide +kernel), List.mem_of_getElem? (i := 1721) (by decide +kernel)⟩
theorem lw_p91 : lw_okq (⟨"RunLedgerModel", "readAtom", "()Z"⟩, 21) := ⟨⟨by decide +kernel, by decide +kernel⟩, List.mem_of_getElem? (i := 1366) (by decide +kernel), List.mem_of_getElem? (i := 1724) (by decide +kernel), List.mem_of_getElem? (i := 1725) (by decide +kernel)⟩
theorem lw_p92 : lw_okq (⟨"RunLedgerModel", "sign", "(I)Z"⟩, 21) := ⟨⟨by decide +kernel, by decide +kernel⟩, List.mem_of_getElem? (i := 1366) (by decide +kernel), List.mem_of_getElem? (i := 1728) (by decide +kernel), List.mem_of_getElem? (i := 1729) (by decide +kernel)⟩
theorem lw_p93 : lw_okq (⟨"RunLedgerModel", "emits", "(II)V"⟩, 21) := ⟨⟨by decide +kernel, by decide +kernel⟩, List.mem_of_getElem? (i := 1366) (by decide +kernel), List.mem_of_getElem? (i := 1733) (by decide +kernel), List.mem_of_getElem? (i := 1734) (by decide +kernel)⟩
theorem lw_p94 : lw_okq (⟨"RunLedgerModel", "readTag", "()Z"⟩, 21) := ⟨⟨by decide +kernel, by decide +kernel⟩, List.mem_of_getElem? (i := 1366) (by decide +kernel), List.mem_of_getElem? (i := 1737) (by decide +kernel), List.mem_of_getElem? (i := 1738) (by decide +kernel)⟩
theorem lw_p95 : lw_okq (⟨"RunLedgerModel", "readSum", "()Z"⟩, 21) := ⟨⟨by decide +kernel, by decide +kernel⟩, List.mem_of_getElem? (i := 1366) (by decide +kernel), List.mem_of_getElem? (i := 1743) (by decide +kernel), List.mem_of_getElem? (i := 1744) (by decide +kernel)⟩
def lw_privs_6 : List (MethodName × Nat) := [(⟨"RunLedgerModel", "isBehindInputs", "(I)Z"⟩, 21), (⟨"RunLedgerModel", "ends", "()V"⟩, 21), (⟨"RunLedgerModel", "copies", "(III)V"⟩, 21), (⟨"RunLedgerModel", "isFlushed", "()V"⟩, 21), (⟨"RunLedgerModel", "readBound", "(II)Z"⟩, 21), (⟨"RunLedgerModel", "readNumber", "(III)Z"⟩, 21), (⟨"RunLedgerModel", "readPlan", "(Z)Z"⟩, 21), (⟨"RunLedgerModel", "readLawLine", "(I)Z"⟩, 21), (⟨"RunLedgerModel", "passes", "(Ljava/lang/String;)Z"⟩, 21), (⟨"RunLedgerModel", "readCond", "()Z"⟩, 21), (⟨"RunLedgerModel", "readAllOf", "()Z"⟩, 21), (⟨"RunLedgerModel", "readAtom", "()Z"⟩, 21), (⟨"RunLedgerModel", "sign", "(I)Z"⟩, 21), (⟨"RunLedgerModel", "emits", "(II)V"⟩, 21), (⟨"RunLedgerModel", "readTag", "()Z"⟩, 21), (⟨"RunLedgerModel", "readSum", "()Z"⟩, 21)]
theorem lw_r6 : ∀ q ∈ lw_privs_6, lw_okq q := List.forall_mem_cons.mpr ⟨lw_p80, List.forall_mem_cons.mpr ⟨lw_p81, List.forall_mem_cons.mpr ⟨lw_p82, List.forall_mem_cons.mpr ⟨lw_p83, List.forall_mem_cons.mpr ⟨lw_p84, List.forall_mem_cons.mpr ⟨lw_p85, List.forall_mem_cons.mpr ⟨lw_p86, List.forall_mem_cons.mpr ⟨lw_p87, List.forall_mem_cons.mpr ⟨lw_p88, List.forall_mem_cons.mpr ⟨lw_p89, List.forall_mem_cons.mpr ⟨lw_p90, List.forall_mem_cons.mpr ⟨lw_p91, List.forall_mem_cons.mpr ⟨lw_p92, List.forall_mem_cons.mpr ⟨lw_p93, List.forall_mem_cons.mpr ⟨lw_p94, List.forall_mem_cons.mpr ⟨lw_p95, fun _ h => absurd h List.not_mem_nil⟩⟩⟩⟩⟩⟩⟩⟩⟩⟩⟩⟩⟩⟩⟩⟩
theorem lw_p96 : lw_okq (⟨"RunLedgerModel", "readPart", "()Z"⟩, 21) := ⟨⟨by decide +kernel, by decide +kernel⟩, List.mem_of_getElem? (i := 1366) (by decide +kernel), List.mem_of_getElem? (i := 1747) (by decide +kernel), List.mem_of_getElem? (i := 1748) (by decide +kernel)⟩
theorem lw_p97 : lw_okq (⟨"RunLedgerModel", "wordOfPart", "()I"⟩, 21) := ⟨⟨by decide +kernel, by decide +kernel⟩, List.mem_of_getElem? (i := 1366) (by decide +kernel), List.mem_of_getElem? (i := 1751) (by decide +kernel), List.mem_of_getElem? (i := 1752) (by decide +kernel)⟩
theorem lw_p98 : lw_okq (⟨"RunLedgerModel", "throwsIf", "(ZI)Z"⟩, 21) := ⟨⟨by decide +kernel, by decide +kernel⟩, List.mem_of_getElem? (i := 1366) (by decide +kernel), List.mem_of_getElem? (i := 1760) (by decide +kernel), List.mem_of_getElem? (i := 1761) (by decide +kernel)⟩
theorem lw_p99 : lw_okq (⟨"RunLedgerModel", "noRun", "(I)Z"⟩, 21) := ⟨⟨by decide +kernel, by decide +kernel⟩, List.mem_of_getElem? (i := 1366) (by decide +kernel), List.mem_of_getElem? (i := 1772) (by decide +kernel), List.mem_of_getElem? (i := 1773) (by decide +kernel)⟩
theorem lw_p100 : lw_okq (⟨"RunLedgerModel", "mostRewritten", "(I)I"⟩, 21) := ⟨⟨by decide +kernel, by decide +kernel⟩, List.mem_of_getElem? (i := 1366) (by decide +kernel), List.mem_of_getElem? (i := 1779) (by decide +kernel), List.mem_of_getElem? (i := 1780) (by decide +kernel)⟩
theorem lw_p101 : lw_okq (⟨"RunLedgerModel", "allEntries", "()I"⟩, 21) := ⟨⟨by decide +kernel, by decide +kernel⟩, List.mem_of_getElem? (i := 1366) (by decide +kernel), List.mem_of_getElem? (i := 1783) (by decide +kernel), List.mem_of_getElem? (i := 1784) (by decide +kernel)⟩
theorem lw_p102 : lw_okq (⟨"RunLedgerModel", "remembers", "()V"⟩, 21) := ⟨⟨by decide +kernel, by decide +kernel⟩, List.mem_of_getElem? (i := 1366) (by decide +kernel), List.mem_of_getElem? (i := 1811) (by decide +kernel), List.mem_of_getElem? (i := 1812) (by decide +kernel)⟩
theorem lw_p103 : lw_okq (⟨"RunLedgerModel", "goesOn", "(I)I"⟩, 21) := ⟨⟨by decide +kernel, by decide +kernel⟩, List.mem_of_getElem? (i := 1366) (by decide +kernel), List.mem_of_getElem? (i := 1815) (by decide +kernel), List.mem_of_getElem? (i := 1816) (by decide +kernel)⟩
theorem lw_p104 : lw_okq (⟨"RunLedgerModel", "oneTick", "()I"⟩, 21) := ⟨⟨by decide +kernel, by decide +kernel⟩, List.mem_of_getElem? (i := 1366) (by decide +kernel), List.mem_of_getElem? (i := 1819) (by decide +kernel), List.mem_of_getElem? (i := 1820) (by decide +kernel)⟩
theorem lw_p105 : lw_okq (⟨"RunLedgerModel", "drawn", "(I)I"⟩, 21) := ⟨⟨by decide +kernel, by decide +kernel⟩, List.mem_of_getElem? (i := 1366) (by decide +kernel), List.mem_of_getElem? (i := 1823) (by decide +kernel), List.mem_of_getElem? (i := 1824) (by decide +kernel)⟩
theorem lw_p106 : lw_okq (⟨"RunLedgerModel", "found", "(I)I"⟩, 21) := ⟨⟨by decide +kernel, by decide +kernel⟩, List.mem_of_getElem? (i := 1366) (by decide +kernel), List.mem_of_getElem? (i := 1863) (by decide +kernel), List.mem_of_getElem? (i := 1864) (by decide +kernel)⟩
theorem lw_p107 : lw_okq (⟨"RunLedgerModel", "newestOf", "(I)I"⟩, 21) := ⟨⟨by decide +kernel, by decide +kernel⟩, List.mem_of_getElem? (i := 1366) (by decide +kernel), List.mem_of_getElem? (i := 1867) (by decide +kernel), List.mem_of_getElem? (i := 1868) (by decide +kernel)⟩
theorem lw_p108 : lw_okq (⟨"RunLedgerModel", "took", "(I)I"⟩, 21) := ⟨⟨by decide +kernel, by decide +kernel⟩, List.mem_of_getElem? (i := 1366) (by decide +kernel), List.mem_of_getElem? (i := 1875) (by decide +kernel), List.mem_of_getElem? (i := 1876) (by decide +kernel)⟩
theorem lw_p109 : lw_okq (⟨"RunLedgerModel", "foundMany", "()I"⟩, 21) := ⟨⟨by decide +kernel, by decide +kernel⟩, List.mem_of_getElem? (i := 1366) (by decide +kernel), List.mem_of_getElem? (i := 1883) (by decide +kernel), List.mem_of_getElem? (i := 1884) (by decide +kernel)⟩
theorem lw_p110 : lw_okq (⟨"RunLedgerModel", "laysMerges", "()V"⟩, 21) := ⟨⟨by decide +kernel, by decide +kernel⟩, List.mem_of_getElem? (i := 1366) (by decide +kernel), List.mem_of_getElem? (i := 1907) (by decide +kernel), List.mem_of_getElem? (i := 1908) (by decide +kernel)⟩
theorem lw_p111 : lw_okq (⟨"RunLedgerModel", "mergedAt", "(III)I"⟩, 21) := ⟨⟨by decide +kernel, by decide +kernel⟩, List.mem_of_getElem? (i := 1366) (by decide +kernel), List.mem_of_getElem? (i := 1912) (by decide +kernel), List.mem_of_getElem? (i := 1913) (by decide +kernel)⟩
def lw_privs_7 : List (MethodName × Nat) := [(⟨"RunLedgerModel", "readPart", "()Z"⟩, 21), (⟨"RunLedgerModel", "wordOfPart", "()I"⟩, 21), (⟨"RunLedgerModel", "throwsIf", "(ZI)Z"⟩, 21), (⟨"RunLedgerModel", "noRun", "(I)Z"⟩, 21), (⟨"RunLedgerModel", "mostRewritten", "(I)I"⟩, 21), (⟨"RunLedgerModel", "allEntries", "()I"⟩, 21), (⟨"RunLedgerModel", "remembers", "()V"⟩, 21), (⟨"RunLedgerModel", "goesOn", "(I)I"⟩, 21), (⟨"RunLedgerModel", "oneTick", "()I"⟩, 21), (⟨"RunLedgerModel", "drawn", "(I)I"⟩, 21), (⟨"RunLedgerModel", "found", "(I)I"⟩, 21), (⟨"RunLedgerModel", "newestOf", "(I)I"⟩, 21), (⟨"RunLedgerModel", "took", "(I)I"⟩, 21), (⟨"RunLedgerModel", "foundMany", "()I"⟩, 21), (⟨"RunLedgerModel", "laysMerges", "()V"⟩, 21), (⟨"RunLedgerModel", "mergedAt", "(III)I"⟩, 21)]
theorem lw_r7 : ∀ q ∈ lw_privs_7, lw_okq q := List.forall_mem_cons.mpr ⟨lw_p96, List.forall_mem_cons.mpr ⟨lw_p97, List.forall_mem_cons.mpr ⟨lw_p98, List.forall_mem_cons.mpr ⟨lw_p99, List.forall_mem_cons.mpr ⟨lw_p100, List.forall_mem_cons.mpr ⟨lw_p101, List.forall_mem_cons.mpr ⟨lw_p102, List.forall_mem_cons.mpr ⟨lw_p103, List.forall_mem_cons.mpr ⟨lw_p104, List.forall_mem_cons.mpr ⟨lw_p105, List.forall_mem_cons.mpr ⟨lw_p106, List.forall_mem_cons.mpr ⟨lw_p107, List.forall_mem_cons.mpr ⟨lw_p108, List.forall_mem_cons.mpr ⟨lw_p109, List.forall_mem_cons.mpr ⟨lw_p110, List.forall_mem_cons.mpr ⟨lw_p111, fun _ h => absurd h List.not_mem_nil⟩⟩⟩⟩⟩⟩⟩⟩⟩⟩⟩⟩⟩⟩⟩⟩
theorem lw_p112 : lw_okq (⟨"RunLedgerModel", "stretchOf", "(II)I"⟩, 21) := ⟨⟨by decide +kernel, by decide +kernel⟩, List.mem_of_getElem? (i := 1366) (by decide +kernel), List.mem_of_getElem? (i := 1916) (by decide +kernel), List.mem_of_getElem? (i := 1917) (by decide +kernel)⟩
theorem lw_p113 : lw_okq (⟨"RunLedgerModel", "areTold", "()Z"⟩, 21) := ⟨⟨by decide +kernel, by decide +kernel⟩, List.mem_of_getElem? (i := 1366) (by decide +kernel), List.mem_of_getElem? (i := 1924) (by decide +kernel), List.mem_of_getElem? (i := 1925) (by decide +kernel)⟩
theorem lw_p114 : lw_okq (⟨"RunLedgerModel", "thatFit", "(I)I"⟩, 21) := ⟨⟨by decide +kernel, by decide +kernel⟩, List.mem_of_getElem? (i := 1366) (by decide +kernel), List.mem_of_getElem? (i := 1928) (by decide +kernel), List.mem_of_getElem? (i := 1929) (by decide +kernel)⟩
theorem lw_p115 : lw_okq (⟨"RunLedgerModel", "wrongRows", "(I)I"⟩, 21) := ⟨⟨by decide +kernel, by decide +kernel⟩, List.mem_of_getElem? (i := 1366) (by decide +kernel), List.mem_of_getElem? (i := 1932) (by decide +kernel), List.mem_of_getElem? (i := 1933) (by decide +kernel)⟩
theorem lw_p116 : lw_okq (⟨"RunLedgerModel", "toldBy", "(II)I"⟩, 21) := ⟨⟨by decide +kernel, by decide +kernel⟩, List.mem_of_getElem? (i := 1366) (by decide +kernel), List.mem_of_getElem? (i := 1936) (by decide +kernel), List.mem_of_getElem? (i := 1937) (by decide +kernel)⟩
theorem lw_p117 : lw_okq (⟨"RunLedgerModel", "partBy", "(II)I"⟩, 21) := ⟨⟨by decide +kernel, by decide +kernel⟩, List.mem_of_getElem? (i := 1366) (by decide +kernel), List.mem_of_getElem? (i := 1955) (by decide +kernel), List.mem_of_getElem? (i := 1956) (by decide +kernel)⟩
theorem lw_p118 : lw_okq (⟨"RunLedgerModel", "laysAhead", "()V"⟩, 21) := ⟨⟨by decide +kernel, by decide +kernel⟩, List.mem_of_getElem? (i := 1366) (by decide +kernel), List.mem_of_getElem? (i := 1963) (by decide +kernel), List.mem_of_getElem? (i := 1964) (by decide +kernel)⟩
theorem lw_p119 : lw_okq (⟨"RunLedgerModel", "byNewest", "(II)I"⟩, 21) := ⟨⟨by decide +kernel, by decide +kernel⟩, List.mem_of_getElem? (i := 1366) (by decide +kernel), List.mem_of_getElem? (i := 1970) (by decide +kernel), List.mem_of_getElem? (i := 1971) (by decide +kernel)⟩
theorem lw_p120 : lw_okq (⟨"RunLedgerModel", "byOldest", "(II)I"⟩, 21) := ⟨⟨by decide +kernel, by decide +kernel⟩, List.mem_of_getElem? (i := 1366) (by decide +kernel), List.mem_of_getElem? (i := 1974) (by decide +kernel), List.mem_of_getElem? (i := 1975) (by decide +kernel)⟩
theorem lw_p121 : lw_okq (⟨"RunLedgerModel", "laysPairs", "(I)V"⟩, 21) := ⟨⟨by decide +kernel, by decide +kernel⟩, List.mem_of_getElem? (i := 1366) (by decide +kernel), List.mem_of_getElem? (i := 1986) (by decide +kernel), List.mem_of_getElem? (i := 1987) (by decide +kernel)⟩
theorem lw_p122 : lw_okq (⟨"RunLedgerModel", "pairedBy", "(II)I"⟩, 21) := ⟨⟨by decide +kernel, by decide +kernel⟩, List.mem_of_getElem? (i := 1366) (by decide +kernel), List.mem_of_getElem? (i := 1990) (by decide +kernel), List.mem_of_getElem? (i := 1991) (by decide +kernel)⟩
theorem lw_p123 : lw_okq (⟨"RunLedgerModel", "alikeOf", "(II)I"⟩, 21) := ⟨⟨by decide +kernel, by decide +kernel⟩, List.mem_of_getElem? (i := 1366) (by decide +kernel), List.mem_of_getElem? (i := 1994) (by decide +kernel), List.mem_of_getElem? (i := 1995) (by decide +kernel)⟩
theorem lw_p124 : lw_okq (⟨"RunLedgerModel", "writerHas", "(II)I"⟩, 21) := ⟨⟨by decide +kernel, by decide +kernel⟩, List.mem_of_getElem? (i := 1366) (by decide +kernel), List.mem_of_getElem? (i := 2002) (by decide +kernel), List.mem_of_getElem? (i := 2003) (by decide +kernel)⟩
theorem lw_p125 : lw_okq (⟨"RunLedgerModel", "mergerHas", "(II)I"⟩, 21) := ⟨⟨by decide +kernel, by decide +kernel⟩, List.mem_of_getElem? (i := 1366) (by decide +kernel), List.mem_of_getElem? (i := 2006) (by decide +kernel), List.mem_of_getElem? (i := 2007) (by decide +kernel)⟩
theorem lw_p126 : lw_okq (⟨"RunLedgerModel", "amountOf", "(II)I"⟩, 21) := ⟨⟨by decide +kernel, by decide +kernel⟩, List.mem_of_getElem? (i := 1366) (by decide +kernel), List.mem_of_getElem? (i := 2020) (by decide +kernel), List.mem_of_getElem? (i := 2021) (by decide +kernel)⟩
theorem lw_p127 : lw_okq (⟨"RunLedgerModel", "keepsAll", "()V"⟩, 21) := ⟨⟨by decide +kernel, by decide +kernel⟩, List.mem_of_getElem? (i := 1366) (by decide +kernel), List.mem_of_getElem? (i := 2035) (by decide +kernel), List.mem_of_getElem? (i := 2036) (by decide +kernel)⟩
def lw_privs_8 : List (MethodName × Nat) := [(⟨"RunLedgerModel", "stretchOf", "(II)I"⟩, 21), (⟨"RunLedgerModel", "areTold", "()Z"⟩, 21), (⟨"RunLedgerModel", "thatFit", "(I)I"⟩, 21), (⟨"RunLedgerModel", "wrongRows", "(I)I"⟩, 21), (⟨"RunLedgerModel", "toldBy", "(II)I"⟩, 21), (⟨"RunLedgerModel", "partBy", "(II)I"⟩, 21), (⟨"RunLedgerModel", "laysAhead", "()V"⟩, 21), (⟨"RunLedgerModel", "byNewest", "(II)I"⟩, 21), (⟨"RunLedgerModel", "byOldest", "(II)I"⟩, 21), (⟨"RunLedgerModel", "laysPairs", "(I)V"⟩, 21), (⟨"RunLedgerModel", "pairedBy", "(II)I"⟩, 21), (⟨"RunLedgerModel", "alikeOf", "(II)I"⟩, 21), (⟨"RunLedgerModel", "writerHas", "(II)I"⟩, 21), (⟨"RunLedgerModel", "mergerHas", "(II)I"⟩, 21), (⟨"RunLedgerModel", "amountOf", "(II)I"⟩, 21), (⟨"RunLedgerModel", "keepsAll", "()V"⟩, 21)]
theorem lw_r8 : ∀ q ∈ lw_privs_8, lw_okq q := List.forall_mem_cons.mpr ⟨lw_p112, List.forall_mem_cons.mpr ⟨lw_p113, List.forall_mem_cons.mpr ⟨lw_p114, List.forall_mem_cons.mpr ⟨lw_p115, List.forall_mem_cons.mpr ⟨lw_p116, List.forall_mem_cons.mpr ⟨lw_p117, List.forall_mem_cons.mpr ⟨lw_p118, List.forall_mem_cons.mpr ⟨lw_p119, List.forall_mem_cons.mpr ⟨lw_p120, List.forall_mem_cons.mpr ⟨lw_p121, List.forall_mem_cons.mpr ⟨lw_p122, List.forall_mem_cons.mpr ⟨lw_p123, List.forall_mem_cons.mpr ⟨lw_p124, List.forall_mem_cons.mpr ⟨lw_p125, List.forall_mem_cons.mpr ⟨lw_p126, List.forall_mem_cons.mpr ⟨lw_p127, fun _ h => absurd h List.not_mem_nil⟩⟩⟩⟩⟩⟩⟩⟩⟩⟩⟩⟩⟩⟩⟩⟩
theorem lw_p128 : lw_okq (⟨"RunLedgerModel", "bringsBack", "()V"⟩, 21) := ⟨⟨by decide +kernel, by decide +kernel⟩, List.mem_of_getElem? (i := 1366) (by decide +kernel), List.mem_of_getElem? (i := 2039) (by decide +kernel), List.mem_of_getElem? (i := 2040) (by decide +kernel)⟩
theorem lw_p129 : lw_okq (⟨"RunLedgerModel", "ofLog", "(II)I"⟩, 21) := ⟨⟨by decide +kernel, by decide +kernel⟩, List.mem_of_getElem? (i := 1366) (by decide +kernel), List.mem_of_getElem? (i := 2055) (by decide +kernel), List.mem_of_getElem? (i := 2056) (by decide +kernel)⟩
def lw_privs_9 : List (MethodName × Nat) := [(⟨"RunLedgerModel", "bringsBack", "()V"⟩, 21), (⟨"RunLedgerModel", "ofLog", "(II)I"⟩, 21)]
theorem lw_r9 : ∀ q ∈ lw_privs_9, lw_okq q := List.forall_mem_cons.mpr ⟨lw_p128, List.forall_mem_cons.mpr ⟨lw_p129, fun _ h => absurd h List.not_mem_nil⟩⟩
def lw_privs : List (MethodName × Nat) := lw_privs_1 ++ (lw_privs_2 ++ (lw_privs_3 ++ (lw_privs_4 ++ (lw_privs_5 ++ (lw_privs_6 ++ (lw_privs_7 ++ (lw_privs_8 ++ (lw_privs_9))))))))
def lw_tbl : List Cond := k2_sels lw_privs ++ tables_1
theorem lw_privs_ok : ∀ q ∈ lw_privs, lw_okq q := by
  show ∀ q ∈ lw_privs_1 ++ (lw_privs_2 ++ (lw_privs_3 ++ (lw_privs_4 ++ (lw_privs_5 ++ (lw_privs_6 ++ (lw_privs_7 ++ (lw_privs_8 ++ (lw_privs_9)))))))), lw_okq q
  exact List.forall_mem_append.mpr ⟨lw_r1, List.forall_mem_append.mpr ⟨lw_r2, List.forall_mem_append.mpr ⟨lw_r3, List.forall_mem_append.mpr ⟨lw_r4, List.forall_mem_append.mpr ⟨lw_r5, List.forall_mem_append.mpr ⟨lw_r6, List.forall_mem_append.mpr ⟨lw_r7, List.forall_mem_append.mpr ⟨lw_r8, lw_r9⟩⟩⟩⟩⟩⟩⟩⟩
def RX0 : String := "RunLedger$Choices"
def TX0 : u_T := fun k => match k with
  | 0 => ("RunLedger$Choices", "best", "[[I", true)
  | 1 => ("RunLedger$Choices", "splits", "[[I", true)
  | 2 => ("RunLedger$Choices", "sums", "[I", true)
  | 3 => ("RunLedger$Choices", "shared", "[[I", true)
  | 4 => ("RunLedger$Choices", "most", "[I", true)
  | _ => ("RunLedger$Choices", "gains", "[I", true)
def tyX0 : Nat → FieldType := fun k => match k with
  | 0 => .array (.array .int)
  | 1 => .array (.array .int)
  | 2 => .array .int
  | 3 => .array (.array .int)
  | 4 => .array .int
  | _ => .array .int
abbrev wsX00 : List Cond := u_ws RX0 TX0 6
theorem nmX0 : ∀ a, a < 6 → ∀ b, b < 6 → a ≠ b → (TX0 a).2.1 ≠ (TX0 b).2.1 := by decide +kernel
theorem tyX0_ok : ∀ k, k < 6 → parseFieldDescriptor (TX0 k).2.2.1 = some (tyX0 k) := by decide +kernel
abbrev cX0_init : ByteArray := prog_2_method_1_code
def yX0_init : MethodName := ⟨RX0, "<init>", "()V"⟩
abbrev cX0_cheapestMerge : ByteArray := prog_2_method_2_code
def yX0_cheapestMerge : MethodName := ⟨RX0, "cheapestMerge", "(LRunLedger$Store;Z)I"⟩
abbrev cX0_mergeNeighbours : ByteArray := prog_2_method_3_code
def yX0_mergeNeighbours : MethodName := ⟨RX0, "mergeNeighbours", "(II)V"⟩
abbrev cX0_leadOfTurns : ByteArray := prog_2_method_4_code
def yX0_leadOfTurns : MethodName := ⟨RX0, "leadOfTurns", "(LRunLedger$Store;)I"⟩
abbrev cX0_sideOfTurns : ByteArray := prog_2_method_5_code
def yX0_sideOfTurns : MethodName := ⟨RX0, "sideOfTurns", "(LRunLedger$Store;)I"⟩
abbrev cX0_pairing : ByteArray := prog_2_method_6_code
def yX0_pairing : MethodName := ⟨RX0, "pairing", "(LRunLedger$Store;I)I"⟩
abbrev cX0_mostOf : ByteArray := prog_2_method_7_code
def yX0_mostOf : MethodName := ⟨RX0, "mostOf", "(II)I"⟩
abbrev cX0_partnerIn : ByteArray := prog_2_method_8_code
def yX0_partnerIn : MethodName := ⟨RX0, "partnerIn", "(III)I"⟩
abbrev cX0_firstPartner : ByteArray := prog_2_method_9_code
def yX0_firstPartner : MethodName := ⟨RX0, "firstPartner", "(III)I"⟩
abbrev cX0_restingPairs : ByteArray := prog_2_method_10_code
def yX0_restingPairs : MethodName := ⟨RX0, "restingPairs", "(LRunLedger$Store;)I"⟩
def RX1 : String := "RunLedger$Job"
def TX1 : u_T := fun k => match k with
  | 0 => ("RunLedger$Job", "busy", "Z", false)
  | 1 => ("RunLedger$Job", "level", "I", false)
  | 2 => ("RunLedger$Job", "at", "I", false)
  | _ => ("RunLedger$Job", "left", "I", false)
def tyX1 : Nat → FieldType := fun k => match k with
  | 0 => .boolean
  | 1 => .int
  | 2 => .int
  | _ => .int
abbrev wsX10 : List Cond := u_ws RX1 TX1 4
theorem nmX1 : ∀ a, a < 4 → ∀ b, b < 4 → a ≠ b → (TX1 a).2.1 ≠ (TX1 b).2.1 := by decide +kernel
theorem tyX1_ok : ∀ k, k < 4 → parseFieldDescriptor (TX1 k).2.2.1 = some (tyX1 k) := by decide +kernel
abbrev cX1_init : ByteArray := prog_3_method_1_code
def yX1_init : MethodName := ⟨RX1, "<init>", "()V"⟩
abbrev cX1_copyFrom : ByteArray := prog_3_method_2_code
def yX1_copyFrom : MethodName := ⟨RX1, "copyFrom", "(LRunLedger$Job;)V"⟩
def RX2 : String := "RunLedger$Journal"
def TX2 : u_T := fun k => match k with
  | 0 => ("RunLedger$Journal", "ticks", "[I", true)
  | 1 => ("RunLedger$Journal", "kinds", "[I", true)
  | 2 => ("RunLedger$Journal", "levels", "[I", true)
  | 3 => ("RunLedger$Journal", "entries", "[I", true)
  | 4 => ("RunLedger$Journal", "first", "I", false)
  | _ => ("RunLedger$Journal", "rows", "I", false)
def tyX2 : Nat → FieldType := fun k => match k with
  | 0 => .array .int
  | 1 => .array .int
  | 2 => .array .int
  | 3 => .array .int
  | 4 => .int
  | _ => .int
abbrev wsX20 : List Cond := u_ws RX2 TX2 6
theorem nmX2 : ∀ a, a < 6 → ∀ b, b < 6 → a ≠ b → (TX2 a).2.1 ≠ (TX2 b).2.1 := by decide +kernel
theorem tyX2_ok : ∀ k, k < 6 → parseFieldDescriptor (TX2 k).2.2.1 = some (tyX2 k) := by decide +kernel
abbrev cX2_init : ByteArray := prog_4_method_1_code
def yX2_init : MethodName := ⟨RX2, "<init>", "()V"⟩
abbrev cX2_note : ByteArray := prog_4_method_2_code
def yX2_note : MethodName := ⟨RX2, "note", "(IIII)V"⟩
abbrev cX2_told : ByteArray := prog_4_method_3_code
def yX2_told : MethodName := ⟨RX2, "told", "(II)I"⟩
abbrev cX2_rowsOf : ByteArray := prog_4_method_4_code
def yX2_rowsOf : MethodName := ⟨RX2, "rowsOf", "(I)I"⟩
abbrev cX2_latestTick : ByteArray := prog_4_method_5_code
def yX2_latestTick : MethodName := ⟨RX2, "latestTick", "(I)I"⟩
abbrev cX2_copyFrom : ByteArray := prog_4_method_6_code
def yX2_copyFrom : MethodName := ⟨RX2, "copyFrom", "(LRunLedger$Journal;)V"⟩
def RX3 : String := "RunLedger$Law"
def TX3 : u_T := fun k => match k with
  | 0 => ("RunLedger$Law", "lines", "I", true)
  | 1 => ("RunLedger$Law", "kinds", "[I", true)
  | 2 => ("RunLedger$Law", "amounts", "[I", true)
  | 3 => ("RunLedger$Law", "starts", "[I", true)
  | 4 => ("RunLedger$Law", "code", "[I", true)
  | _ => ("RunLedger$Law", "stack", "[I", true)
def tyX3 : Nat → FieldType := fun k => match k with
  | 0 => .int
  | 1 => .array .int
  | 2 => .array .int
  | 3 => .array .int
  | 4 => .array .int
  | _ => .array .int
abbrev wsX30 : List Cond := u_ws RX3 TX3 6
theorem nmX3 : ∀ a, a < 6 → ∀ b, b < 6 → a ≠ b → (TX3 a).2.1 ≠ (TX3 b).2.1 := by decide +kernel
theorem tyX3_ok : ∀ k, k < 6 → parseFieldDescriptor (TX3 k).2.2.1 = some (tyX3 k) := by decide +kernel
abbrev cX3_init : ByteArray := prog_5_method_1_code
def yX3_init : MethodName := ⟨RX3, "<init>", "([I[I[II[I)V"⟩
abbrev cX3_holds : ByteArray := prog_5_method_2_code
def yX3_holds : MethodName := ⟨RX3, "holds", "(I[I)Z"⟩
def RX4 : String := "RunLedger$LawReader"
def TX4 : u_T := fun k => match k with
  | 0 => ("RunLedger$LawReader", "scan", "LRunLedger$Scan;", true)
  | 1 => ("RunLedger$LawReader", "kinds", "[I", true)
  | 2 => ("RunLedger$LawReader", "amounts", "[I", true)
  | 3 => ("RunLedger$LawReader", "starts", "[I", true)
  | 4 => ("RunLedger$LawReader", "code", "[I", true)
  | 5 => ("RunLedger$LawReader", "lines", "I", false)
  | _ => ("RunLedger$LawReader", "used", "I", false)
def tyX4 : Nat → FieldType := fun k => match k with
  | 0 => .object "RunLedger$Scan"
  | 1 => .array .int
  | 2 => .array .int
  | 3 => .array .int
  | 4 => .array .int
  | 5 => .int
  | _ => .int
abbrev wsX40 : List Cond := u_ws RX4 TX4 7
theorem nmX4 : ∀ a, a < 7 → ∀ b, b < 7 → a ≠ b → (TX4 a).2.1 ≠ (TX4 b).2.1 := by decide +kernel
theorem tyX4_ok : ∀ k, k < 7 → parseFieldDescriptor (TX4 k).2.2.1 = some (tyX4 k) := by decide +kernel
abbrev cX4_init : ByteArray := prog_6_method_1_code
def yX4_init : MethodName := ⟨RX4, "<init>", "(LRunLedger$Scan;)V"⟩
abbrev cX4_readAll : ByteArray := prog_6_method_2_code
def yX4_readAll : MethodName := ⟨RX4, "readAll", "()Z"⟩
abbrev cX4_made : ByteArray := prog_6_method_3_code
def yX4_made : MethodName := ⟨RX4, "made", "()LRunLedger$Law;"⟩
abbrev cX4_anyOf : ByteArray := prog_6_method_4_code
def yX4_anyOf : MethodName := ⟨RX4, "anyOf", "(I)Z"⟩
abbrev cX4_allOf : ByteArray := prog_6_method_5_code
def yX4_allOf : MethodName := ⟨RX4, "allOf", "(I)Z"⟩
abbrev cX4_atom : ByteArray := prog_6_method_6_code
def yX4_atom : MethodName := ⟨RX4, "atom", "(I)Z"⟩
abbrev cX4_comparison : ByteArray := prog_6_method_7_code
def yX4_comparison : MethodName := ⟨RX4, "comparison", "()Z"⟩
abbrev cX4_sum : ByteArray := prog_6_method_8_code
def yX4_sum : MethodName := ⟨RX4, "sum", "()Z"⟩
abbrev cX4_emit : ByteArray := prog_6_method_9_code
def yX4_emit : MethodName := ⟨RX4, "emit", "(I)V"⟩
def RX5 : String := "RunLedger$Levels"
def TX5 : u_T := fun k => match k with
  | 0 => ("RunLedger$Levels", "bits", "[I", true)
  | 1 => ("RunLedger$Levels", "many", "[I", true)
  | 2 => ("RunLedger$Levels", "entries", "[I", true)
  | 3 => ("RunLedger$Levels", "free", "[I", true)
  | 4 => ("RunLedger$Levels", "due", "I", false)
  | _ => ("RunLedger$Levels", "owed", "I", false)
def tyX5 : Nat → FieldType := fun k => match k with
  | 0 => .array .int
  | 1 => .array .int
  | 2 => .array .int
  | 3 => .array .int
  | 4 => .int
  | _ => .int
abbrev wsX50 : List Cond := u_ws RX5 TX5 6
theorem nmX5 : ∀ a, a < 6 → ∀ b, b < 6 → a ≠ b → (TX5 a).2.1 ≠ (TX5 b).2.1 := by decide +kernel
theorem tyX5_ok : ∀ k, k < 6 → parseFieldDescriptor (TX5 k).2.2.1 = some (tyX5 k) := by decide +kernel
abbrev cX5_init : ByteArray := prog_7_method_1_code
def yX5_init : MethodName := ⟨RX5, "<init>", "()V"⟩
abbrev cX5_recount : ByteArray := prog_7_method_2_code
def yX5_recount : MethodName := ⟨RX5, "recount", "(LRunLedger$Store;)V"⟩
abbrev cX5_copyFrom : ByteArray := prog_7_method_3_code
def yX5_copyFrom : MethodName := ⟨RX5, "copyFrom", "(LRunLedger$Levels;)V"⟩
def RX6 : String := "RunLedger$Row"
def TX6 : u_T := fun k => match k with
  | 0 => ("RunLedger$Row", "values", "[I", true)
  | 1 => ("RunLedger$Row", "rewrites", "[I", true)
  | 2 => ("RunLedger$Row", "count", "I", false)
  | 3 => ("RunLedger$Row", "level", "I", false)
  | _ => ("RunLedger$Row", "input", "Z", false)
def tyX6 : Nat → FieldType := fun k => match k with
  | 0 => .array .int
  | 1 => .array .int
  | 2 => .int
  | 3 => .int
  | _ => .boolean
abbrev wsX60 : List Cond := u_ws RX6 TX6 5
theorem nmX6 : ∀ a, a < 5 → ∀ b, b < 5 → a ≠ b → (TX6 a).2.1 ≠ (TX6 b).2.1 := by decide +kernel
theorem tyX6_ok : ∀ k, k < 5 → parseFieldDescriptor (TX6 k).2.2.1 = some (tyX6 k) := by decide +kernel
abbrev cX6_init : ByteArray := prog_8_method_1_code
def yX6_init : MethodName := ⟨RX6, "<init>", "()V"⟩
abbrev cX6_valueOf : ByteArray := prog_8_method_2_code
def yX6_valueOf : MethodName := ⟨RX6, "valueOf", "(I)I"⟩
abbrev cX6_rewritesOf : ByteArray := prog_8_method_3_code
def yX6_rewritesOf : MethodName := ⟨RX6, "rewritesOf", "(I)I"⟩
abbrev cX6_enter : ByteArray := prog_8_method_4_code
def yX6_enter : MethodName := ⟨RX6, "enter", "(III)V"⟩
abbrev cX6_keyAt : ByteArray := prog_8_method_5_code
def yX6_keyAt : MethodName := ⟨RX6, "keyAt", "(I)I"⟩
abbrev cX6_mostRewritten : ByteArray := prog_8_method_6_code
def yX6_mostRewritten : MethodName := ⟨RX6, "mostRewritten", "()I"⟩
abbrev cX6_keysAlsoIn : ByteArray := prog_8_method_7_code
def yX6_keysAlsoIn : MethodName := ⟨RX6, "keysAlsoIn", "(LRunLedger$Row;)I"⟩
abbrev cX6_wipe : ByteArray := prog_8_method_8_code
def yX6_wipe : MethodName := ⟨RX6, "wipe", "()V"⟩
abbrev cX6_copyFrom : ByteArray := prog_8_method_9_code
def yX6_copyFrom : MethodName := ⟨RX6, "copyFrom", "(LRunLedger$Row;)V"⟩
def RX7 : String := "RunLedger$Scan"
def TX7 : u_T := fun k => match k with
  | 0 => ("RunLedger$Scan", "begins", "[I", true)
  | 1 => ("RunLedger$Scan", "sorts", "[I", true)
  | 2 => ("RunLedger$Scan", "numbers", "[I", true)
  | 3 => ("RunLedger$Scan", "things", "I", false)
  | 4 => ("RunLedger$Scan", "now", "I", false)
  | _ => ("RunLedger$Scan", "fault", "I", false)
def tyX7 : Nat → FieldType := fun k => match k with
  | 0 => .array .int
  | 1 => .array .int
  | 2 => .array .int
  | 3 => .int
  | 4 => .int
  | _ => .int
abbrev wsX70 : List Cond := u_ws RX7 TX7 6
theorem nmX7 : ∀ a, a < 6 → ∀ b, b < 6 → a ≠ b → (TX7 a).2.1 ≠ (TX7 b).2.1 := by decide +kernel
theorem tyX7_ok : ∀ k, k < 6 → parseFieldDescriptor (TX7 k).2.2.1 = some (tyX7 k) := by decide +kernel
abbrev cX7_init : ByteArray := prog_9_method_1_code
def yX7_init : MethodName := ⟨RX7, "<init>", "()V"⟩
abbrev cX7_open : ByteArray := prog_9_method_2_code
def yX7_open : MethodName := ⟨RX7, "open", "([II)V"⟩
abbrev cX7_keep : ByteArray := prog_9_method_3_code
def yX7_keep : MethodName := ⟨RX7, "keep", "(III)V"⟩
abbrev cX7_lengthOf : ByteArray := prog_9_method_4_code
def yX7_lengthOf : MethodName := ⟨RX7, "lengthOf", "([III)I"⟩
abbrev cX7_charSort : ByteArray := prog_9_method_5_code
def yX7_charSort : MethodName := ⟨RX7, "charSort", "(I)I"⟩
abbrev cX7_sortOf : ByteArray := prog_9_method_6_code
def yX7_sortOf : MethodName := ⟨RX7, "sortOf", "([III)I"⟩
abbrev cX7_wordIn : ByteArray := prog_9_method_7_code
def yX7_wordIn : MethodName := ⟨RX7, "wordIn", "([III)I"⟩
abbrev cX7_numberIn : ByteArray := prog_9_method_8_code
def yX7_numberIn : MethodName := ⟨RX7, "numberIn", "([III)I"⟩
abbrev cX7_is : ByteArray := prog_9_method_9_code
def yX7_is : MethodName := ⟨RX7, "is", "(I)Z"⟩
abbrev cX7_takes : ByteArray := prog_9_method_10_code
def yX7_takes : MethodName := ⟨RX7, "takes", "(I)Z"⟩
abbrev cX7_needs : ByteArray := prog_9_method_11_code
def yX7_needs : MethodName := ⟨RX7, "needs", "(I)Z"⟩
abbrev cX7_takesFrom : ByteArray := prog_9_method_12_code
def yX7_takesFrom : MethodName := ⟨RX7, "takesFrom", "(II)I"⟩
abbrev cX7_needsNumber : ByteArray := prog_9_method_13_code
def yX7_needsNumber : MethodName := ⟨RX7, "needsNumber", "(II)I"⟩
abbrev cX7_fail : ByteArray := prog_9_method_14_code
def yX7_fail : MethodName := ⟨RX7, "fail", "()Z"⟩
def RX8 : String := "RunLedger$Store"
def TX8 : u_T := fun k => match k with
  | 0 => ("RunLedger$Store", "runs", "[LRunLedger$Row;", true)
  | 1 => ("RunLedger$Store", "runCount", "I", false)
  | 2 => ("RunLedger$Store", "table", "LRunLedger$Row;", false)
  | 3 => ("RunLedger$Store", "output", "LRunLedger$Row;", false)
  | 4 => ("RunLedger$Store", "job", "LRunLedger$Job;", true)
  | 5 => ("RunLedger$Store", "levels", "LRunLedger$Levels;", true)
  | 6 => ("RunLedger$Store", "tally", "LRunLedger$Tally;", true)
  | 7 => ("RunLedger$Store", "journal", "LRunLedger$Journal;", true)
  | 8 => ("RunLedger$Store", "facts", "[I", true)
  | 9 => ("RunLedger$Store", "levelled", "Z", false)
  | 10 => ("RunLedger$Store", "fan", "I", false)
  | 11 => ("RunLedger$Store", "size", "I", false)
  | 12 => ("RunLedger$Store", "pace", "I", false)
  | 13 => ("RunLedger$Store", "tick", "I", false)
  | 14 => ("RunLedger$Store", "seed", "I", false)
  | 15 => ("RunLedger$Store", "texts", "I", false)
  | _ => ("RunLedger$Store", "law", "LRunLedger$Law;", false)
def tyX8 : Nat → FieldType := fun k => match k with
  | 0 => .array (.object "RunLedger$Row")
  | 1 => .int
  | 2 => .object "RunLedger$Row"
  | 3 => .object "RunLedger$Row"
  | 4 => .object "RunLedger$Job"
  | 5 => .object "RunLedger$Levels"
  | 6 => .object "RunLedger$Tally"
  | 7 => .object "RunLedger$Journal"
  | 8 => .array .int
  | 9 => .boolean
  | 10 => .int
  | 11 => .int
  | 12 => .int
  | 13 => .int
  | 14 => .int
  | 15 => .int
  | _ => .object "RunLedger$Law"
abbrev wsX80 : List Cond := u_ws RX8 TX8 17
theorem nmX8 : ∀ a, a < 17 → ∀ b, b < 17 → a ≠ b → (TX8 a).2.1 ≠ (TX8 b).2.1 := by decide +kernel
theorem tyX8_ok : ∀ k, k < 17 → parseFieldDescriptor (TX8 k).2.2.1 = some (tyX8 k) := by decide +kernel
abbrev cX8_init : ByteArray := prog_10_method_1_code
def yX8_init : MethodName := ⟨RX8, "<init>", "()V"⟩
abbrev cX8_copyFrom : ByteArray := prog_10_method_2_code
def yX8_copyFrom : MethodName := ⟨RX8, "copyFrom", "(LRunLedger$Store;)V"⟩
abbrev cX8_hasRun : ByteArray := prog_10_method_3_code
def yX8_hasRun : MethodName := ⟨RX8, "hasRun", "(I)Z"⟩
abbrev cX8_rowNamed : ByteArray := prog_10_method_4_code
def yX8_rowNamed : MethodName := ⟨RX8, "rowNamed", "(I)LRunLedger$Row;"⟩
abbrev cX8_entriesOfRuns : ByteArray := prog_10_method_5_code
def yX8_entriesOfRuns : MethodName := ⟨RX8, "entriesOfRuns", "()I"⟩
abbrev cX8_inputBits : ByteArray := prog_10_method_6_code
def yX8_inputBits : MethodName := ⟨RX8, "inputBits", "()I"⟩
abbrev cX8_found : ByteArray := prog_10_method_7_code
def yX8_found : MethodName := ⟨RX8, "found", "(I)I"⟩
abbrev cX8_took : ByteArray := prog_10_method_8_code
def yX8_took : MethodName := ⟨RX8, "took", "(I)I"⟩
abbrev cX8_foundKeys : ByteArray := prog_10_method_9_code
def yX8_foundKeys : MethodName := ⟨RX8, "foundKeys", "()I"⟩
abbrev cX8_debtNow : ByteArray := prog_10_method_10_code
def yX8_debtNow : MethodName := ⟨RX8, "debtNow", "()I"⟩
abbrev cX8_sliceSize : ByteArray := prog_10_method_11_code
def yX8_sliceSize : MethodName := ⟨RX8, "sliceSize", "()I"⟩
abbrev cX8_worthOf : ByteArray := prog_10_method_12_code
def yX8_worthOf : MethodName := ⟨RX8, "worthOf", "(I)I"⟩
abbrev cX8_lawSum : ByteArray := prog_10_method_13_code
def yX8_lawSum : MethodName := ⟨RX8, "lawSum", "(II)I"⟩
abbrev cX8_beginJob : ByteArray := prog_10_method_14_code
def yX8_beginJob : MethodName := ⟨RX8, "beginJob", "()V"⟩
abbrev cX8_dearestLevel : ByteArray := prog_10_method_15_code
def yX8_dearestLevel : MethodName := ⟨RX8, "dearestLevel", "()I"⟩
abbrev cX8_paidSlice : ByteArray := prog_10_method_16_code
def yX8_paidSlice : MethodName := ⟨RX8, "paidSlice", "(I)I"⟩
abbrev cX8_mergeKey : ByteArray := prog_10_method_17_code
def yX8_mergeKey : MethodName := ⟨RX8, "mergeKey", "()V"⟩
abbrev cX8_nextKey : ByteArray := prog_10_method_18_code
def yX8_nextKey : MethodName := ⟨RX8, "nextKey", "()I"⟩
abbrev cX8_isBehind : ByteArray := prog_10_method_19_code
def yX8_isBehind : MethodName := ⟨RX8, "isBehind", "(II)Z"⟩
abbrev cX8_endJob : ByteArray := prog_10_method_20_code
def yX8_endJob : MethodName := ⟨RX8, "endJob", "(I)V"⟩
abbrev cX8_giveUpJob : ByteArray := prog_10_method_21_code
def yX8_giveUpJob : MethodName := ⟨RX8, "giveUpJob", "()V"⟩
abbrev cX8_clearJob : ByteArray := prog_10_method_22_code
def yX8_clearJob : MethodName := ⟨RX8, "clearJob", "()V"⟩
abbrev cX8_hasRoom : ByteArray := prog_10_method_23_code
def yX8_hasRoom : MethodName := ⟨RX8, "hasRoom", "()Z"⟩
abbrev cX8_pourTable : ByteArray := prog_10_method_24_code
def yX8_pourTable : MethodName := ⟨RX8, "pourTable", "()V"⟩
abbrev cX8_writeKey : ByteArray := prog_10_method_25_code
def yX8_writeKey : MethodName := ⟨RX8, "writeKey", "(II)I"⟩
abbrev cX8_makeRoom : ByteArray := prog_10_method_26_code
def yX8_makeRoom : MethodName := ⟨RX8, "makeRoom", "()I"⟩
abbrev cX8_advance : ByteArray := prog_10_method_27_code
def yX8_advance : MethodName := ⟨RX8, "advance", "(I)I"⟩
abbrev cX8_draw : ByteArray := prog_10_method_28_code
def yX8_draw : MethodName := ⟨RX8, "draw", "()I"⟩
abbrev cX8_tellPlan : ByteArray := prog_10_method_29_code
def yX8_tellPlan : MethodName := ⟨RX8, "tellPlan", "(Z)V"⟩
abbrev cX8_tellFan : ByteArray := prog_10_method_30_code
def yX8_tellFan : MethodName := ⟨RX8, "tellFan", "(I)V"⟩
abbrev cX8_tellSize : ByteArray := prog_10_method_31_code
def yX8_tellSize : MethodName := ⟨RX8, "tellSize", "(I)V"⟩
abbrev cX8_oldestLevel : ByteArray := prog_10_method_32_code
def yX8_oldestLevel : MethodName := ⟨RX8, "oldestLevel", "()I"⟩
abbrev cX8_addRun : ByteArray := prog_10_method_33_code
def yX8_addRun : MethodName := ⟨RX8, "addRun", "(I[I[II)V"⟩
def RX9 : String := "RunLedger$StoreReader"
def TX9 : u_T := fun k => match k with
  | 0 => ("RunLedger$StoreReader", "scan", "LRunLedger$Scan;", true)
  | 1 => ("RunLedger$StoreReader", "keys", "[I", true)
  | 2 => ("RunLedger$StoreReader", "values", "[I", true)
  | 3 => ("RunLedger$StoreReader", "pairsRead", "I", false)
  | _ => ("RunLedger$StoreReader", "writes", "I", false)
def tyX9 : Nat → FieldType := fun k => match k with
  | 0 => .object "RunLedger$Scan"
  | 1 => .array .int
  | 2 => .array .int
  | 3 => .int
  | _ => .int
abbrev wsX90 : List Cond := u_ws RX9 TX9 5
theorem nmX9 : ∀ a, a < 5 → ∀ b, b < 5 → a ≠ b → (TX9 a).2.1 ≠ (TX9 b).2.1 := by decide +kernel
theorem tyX9_ok : ∀ k, k < 5 → parseFieldDescriptor (TX9 k).2.2.1 = some (tyX9 k) := by decide +kernel
abbrev cX9_init : ByteArray := prog_11_method_1_code
def yX9_init : MethodName := ⟨RX9, "<init>", "(LRunLedger$Scan;)V"⟩
abbrev cX9_readInto : ByteArray := prog_11_method_2_code
def yX9_readInto : MethodName := ⟨RX9, "readInto", "(LRunLedger$Store;)Z"⟩
abbrev cX9_readLine : ByteArray := prog_11_method_3_code
def yX9_readLine : MethodName := ⟨RX9, "readLine", "(LRunLedger$Store;)Z"⟩
abbrev cX9_readSetting : ByteArray := prog_11_method_4_code
def yX9_readSetting : MethodName := ⟨RX9, "readSetting", "(LRunLedger$Store;)Z"⟩
abbrev cX9_readRun : ByteArray := prog_11_method_5_code
def yX9_readRun : MethodName := ⟨RX9, "readRun", "(LRunLedger$Store;)Z"⟩
abbrev cX9_readPairs : ByteArray := prog_11_method_6_code
def yX9_readPairs : MethodName := ⟨RX9, "readPairs", "(IZ)Z"⟩
def RX10 : String := "RunLedger$Tally"
def TX10 : u_T := fun k => match k with
  | 0 => ("RunLedger$Tally", "reads", "I", false)
  | 1 => ("RunLedger$Tally", "writes", "I", false)
  | 2 => ("RunLedger$Tally", "puts", "I", false)
  | 3 => ("RunLedger$Tally", "stalled", "I", false)
  | 4 => ("RunLedger$Tally", "longest", "I", false)
  | _ => ("RunLedger$Tally", "bill", "I", false)
def tyX10 : Nat → FieldType := fun k => match k with
  | 0 => .int
  | 1 => .int
  | 2 => .int
  | 3 => .int
  | 4 => .int
  | _ => .int
abbrev wsX100 : List Cond := u_ws RX10 TX10 6
theorem nmX10 : ∀ a, a < 6 → ∀ b, b < 6 → a ≠ b → (TX10 a).2.1 ≠ (TX10 b).2.1 := by decide +kernel
theorem tyX10_ok : ∀ k, k < 6 → parseFieldDescriptor (TX10 k).2.2.1 = some (tyX10 k) := by decide +kernel
abbrev cX10_init : ByteArray := prog_12_method_1_code
def yX10_init : MethodName := ⟨RX10, "<init>", "()V"⟩
abbrev cX10_addReads : ByteArray := prog_12_method_2_code
def yX10_addReads : MethodName := ⟨RX10, "addReads", "(I)V"⟩
abbrev cX10_addWrite : ByteArray := prog_12_method_3_code
def yX10_addWrite : MethodName := ⟨RX10, "addWrite", "()V"⟩
abbrev cX10_addPut : ByteArray := prog_12_method_4_code
def yX10_addPut : MethodName := ⟨RX10, "addPut", "()V"⟩
abbrev cX10_addStall : ByteArray := prog_12_method_5_code
def yX10_addStall : MethodName := ⟨RX10, "addStall", "()V"⟩
abbrev cX10_addStallsOfOne : ByteArray := prog_12_method_6_code
def yX10_addStallsOfOne : MethodName := ⟨RX10, "addStallsOfOne", "(I)V"⟩
abbrev cX10_addBill : ByteArray := prog_12_method_7_code
def yX10_addBill : MethodName := ⟨RX10, "addBill", "(I)V"⟩
abbrev cX10_copyFrom : ByteArray := prog_12_method_8_code
def yX10_copyFrom : MethodName := ⟨RX10, "copyFrom", "(LRunLedger$Tally;)V"⟩
def RX11 : String := "RunLedger"
def TX11 : u_T := fun k => match k with
  | 0 => ("RunLedger", "tape", "[I", true)
  | 1 => ("RunLedger", "tapeLength", "I", false)
  | 2 => ("RunLedger", "faultAt", "I", false)
  | 3 => ("RunLedger", "live", "LRunLedger$Store;", false)
  | 4 => ("RunLedger", "spare", "LRunLedger$Store;", false)
  | 5 => ("RunLedger", "kept", "LRunLedger$Store;", false)
  | 6 => ("RunLedger", "undos", "[LRunLedger$Store;", true)
  | 7 => ("RunLedger", "undoFirst", "I", false)
  | 8 => ("RunLedger", "undoCount", "I", false)
  | 9 => ("RunLedger", "scan", "LRunLedger$Scan;", true)
  | 10 => ("RunLedger", "storeReader", "LRunLedger$StoreReader;", true)
  | 11 => ("RunLedger", "lawReader", "LRunLedger$LawReader;", true)
  | _ => ("RunLedger", "choices", "LRunLedger$Choices;", true)
def tyX11 : Nat → FieldType := fun k => match k with
  | 0 => .array .int
  | 1 => .int
  | 2 => .int
  | 3 => .object "RunLedger$Store"
  | 4 => .object "RunLedger$Store"
  | 5 => .object "RunLedger$Store"
  | 6 => .array (.object "RunLedger$Store")
  | 7 => .int
  | 8 => .int
  | 9 => .object "RunLedger$Scan"
  | 10 => .object "RunLedger$StoreReader"
  | 11 => .object "RunLedger$LawReader"
  | _ => .object "RunLedger$Choices"
abbrev wsX110 : List Cond := u_ws RX11 TX11 13
theorem nmX11 : ∀ a, a < 13 → ∀ b, b < 13 → a ≠ b → (TX11 a).2.1 ≠ (TX11 b).2.1 := by decide +kernel
theorem tyX11_ok : ∀ k, k < 13 → parseFieldDescriptor (TX11 k).2.2.1 = some (tyX11 k) := by decide +kernel
abbrev cX11_init : ByteArray := prog_1_method_1_code
def yX11_init : MethodName := ⟨RX11, "<init>", "()V"⟩
abbrev cX11_feed : ByteArray := prog_1_method_2_code
def yX11_feed : MethodName := ⟨RX11, "feed", "(IIIII)I"⟩
abbrev cX11_end : ByteArray := prog_1_method_3_code
def yX11_end : MethodName := ⟨RX11, "end", "(I)Z"⟩
abbrev cX11_store : ByteArray := prog_1_method_4_code
def yX11_store : MethodName := ⟨RX11, "store", "()I"⟩
abbrev cX11_law : ByteArray := prog_1_method_5_code
def yX11_law : MethodName := ⟨RX11, "law", "()I"⟩
abbrev cX11_fault : ByteArray := prog_1_method_6_code
def yX11_fault : MethodName := ⟨RX11, "fault", "()I"⟩
abbrev cX11_run : ByteArray := prog_1_method_7_code
def yX11_run : MethodName := ⟨RX11, "run", "(II)I"⟩
abbrev cX11_entry : ByteArray := prog_1_method_8_code
def yX11_entry : MethodName := ⟨RX11, "entry", "(III)I"⟩
abbrev cX11_level : ByteArray := prog_1_method_9_code
def yX11_level : MethodName := ⟨RX11, "level", "(II)I"⟩
abbrev cX11_job : ByteArray := prog_1_method_10_code
def yX11_job : MethodName := ⟨RX11, "job", "(I)I"⟩
abbrev cX11_debt : ByteArray := prog_1_method_11_code
def yX11_debt : MethodName := ⟨RX11, "debt", "()I"⟩
abbrev cX11_slice : ByteArray := prog_1_method_12_code
def yX11_slice : MethodName := ⟨RX11, "slice", "()I"⟩
abbrev cX11_ticks : ByteArray := prog_1_method_13_code
def yX11_ticks : MethodName := ⟨RX11, "ticks", "(I)I"⟩
abbrev cX11_put : ByteArray := prog_1_method_14_code
def yX11_put : MethodName := ⟨RX11, "put", "(II)I"⟩
abbrev cX11_remove : ByteArray := prog_1_method_15_code
def yX11_remove : MethodName := ⟨RX11, "remove", "(I)I"⟩
abbrev cX11_work : ByteArray := prog_1_method_16_code
def yX11_work : MethodName := ⟨RX11, "work", "()I"⟩
abbrev cX11_halt : ByteArray := prog_1_method_17_code
def yX11_halt : MethodName := ⟨RX11, "halt", "()I"⟩
abbrev cX11_flush : ByteArray := prog_1_method_18_code
def yX11_flush : MethodName := ⟨RX11, "flush", "()I"⟩
abbrev cX11_plan : ByteArray := prog_1_method_19_code
def yX11_plan : MethodName := ⟨RX11, "plan", "(Z)Z"⟩
abbrev cX11_tune : ByteArray := prog_1_method_20_code
def yX11_tune : MethodName := ⟨RX11, "tune", "(II)I"⟩
abbrev cX11_get : ByteArray := prog_1_method_21_code
def yX11_get : MethodName := ⟨RX11, "get", "(I)I"⟩
abbrev cX11_looks : ByteArray := prog_1_method_22_code
def yX11_looks : MethodName := ⟨RX11, "looks", "(I)I"⟩
abbrev cX11_many : ByteArray := prog_1_method_23_code
def yX11_many : MethodName := ⟨RX11, "many", "()I"⟩
abbrev cX11_rank : ByteArray := prog_1_method_24_code
def yX11_rank : MethodName := ⟨RX11, "rank", "(I)I"⟩
abbrev cX11_total : ByteArray := prog_1_method_25_code
def yX11_total : MethodName := ⟨RX11, "total", "(II)I"⟩
abbrev cX11_over : ByteArray := prog_1_method_26_code
def yX11_over : MethodName := ⟨RX11, "over", "(Z)I"⟩
abbrev cX11_cheapest : ByteArray := prog_1_method_27_code
def yX11_cheapest : MethodName := ⟨RX11, "cheapest", "(Z)I"⟩
abbrev cX11_deepest : ByteArray := prog_1_method_28_code
def yX11_deepest : MethodName := ⟨RX11, "deepest", "()I"⟩
abbrev cX11_may : ByteArray := prog_1_method_29_code
def yX11_may : MethodName := ⟨RX11, "may", "()I"⟩
abbrev cX11_likely : ByteArray := prog_1_method_30_code
def yX11_likely : MethodName := ⟨RX11, "likely", "()I"⟩
abbrev cX11_look : ByteArray := prog_1_method_31_code
def yX11_look : MethodName := ⟨RX11, "look", "()I"⟩
abbrev cX11_lead : ByteArray := prog_1_method_32_code
def yX11_lead : MethodName := ⟨RX11, "lead", "()I"⟩
abbrev cX11_side : ByteArray := prog_1_method_33_code
def yX11_side : MethodName := ⟨RX11, "side", "()I"⟩
abbrev cX11_pairs : ByteArray := prog_1_method_34_code
def yX11_pairs : MethodName := ⟨RX11, "pairs", "(I)I"⟩
abbrev cX11_rests : ByteArray := prog_1_method_35_code
def yX11_rests : MethodName := ⟨RX11, "rests", "()I"⟩
abbrev cX11_odds : ByteArray := prog_1_method_36_code
def yX11_odds : MethodName := ⟨RX11, "odds", "(I)I"⟩
abbrev cX11_most : ByteArray := prog_1_method_37_code
def yX11_most : MethodName := ⟨RX11, "most", "(I)I"⟩
abbrev cX11_twins : ByteArray := prog_1_method_38_code
def yX11_twins : MethodName := ⟨RX11, "twins", "()I"⟩
abbrev cX11_ahead : ByteArray := prog_1_method_39_code
def yX11_ahead : MethodName := ⟨RX11, "ahead", "(IZ)I"⟩
abbrev cX11_trial : ByteArray := prog_1_method_40_code
def yX11_trial : MethodName := ⟨RX11, "trial", "(IZ)I"⟩
abbrev cX11_span : ByteArray := prog_1_method_41_code
def yX11_span : MethodName := ⟨RX11, "span", "(IZ)I"⟩
abbrev cX11_led : ByteArray := prog_1_method_42_code
def yX11_led : MethodName := ⟨RX11, "led", "(IZ)I"⟩
abbrev cX11_log : ByteArray := prog_1_method_43_code
def yX11_log : MethodName := ⟨RX11, "log", "(II)I"⟩
abbrev cX11_seed : ByteArray := prog_1_method_44_code
def yX11_seed : MethodName := ⟨RX11, "seed", "(I)I"⟩
abbrev cX11_undo : ByteArray := prog_1_method_45_code
def yX11_undo : MethodName := ⟨RX11, "undo", "()Z"⟩
abbrev cX11_image : ByteArray := prog_1_method_46_code
def yX11_image : MethodName := ⟨RX11, "image", "()V"⟩
abbrev cX11_back : ByteArray := prog_1_method_47_code
def yX11_back : MethodName := ⟨RX11, "back", "()Z"⟩
abbrev cX11_count : ByteArray := prog_1_method_48_code
def yX11_count : MethodName := ⟨RX11, "count", "(I)I"⟩
abbrev cX11_counted : ByteArray := prog_1_method_49_code
def yX11_counted : MethodName := ⟨RX11, "counted", "(I)I"⟩
abbrev cX11_takeBytes : ByteArray := prog_1_method_50_code
def yX11_takeBytes : MethodName := ⟨RX11, "takeBytes", "(I)V"⟩
abbrev cX11_takeRows : ByteArray := prog_1_method_51_code
def yX11_takeRows : MethodName := ⟨RX11, "takeRows", "()I"⟩
abbrev cX11_wrongRows : ByteArray := prog_1_method_52_code
def yX11_wrongRows : MethodName := ⟨RX11, "wrongRows", "(LRunLedger$Row;I)I"⟩
abbrev cX11_fitting : ByteArray := prog_1_method_53_code
def yX11_fitting : MethodName := ⟨RX11, "fitting", "(I)I"⟩
abbrev cX11_greatestPart : ByteArray := prog_1_method_54_code
def yX11_greatestPart : MethodName := ⟨RX11, "greatestPart", "(II)I"⟩
abbrev cX11_remember : ByteArray := prog_1_method_55_code
def yX11_remember : MethodName := ⟨RX11, "remember", "()V"⟩
abbrev cX11_forgetActs : ByteArray := prog_1_method_56_code
def yX11_forgetActs : MethodName := ⟨RX11, "forgetActs", "()V"⟩
abbrev cX11_areTwins : ByteArray := prog_1_method_57_code
def yX11_areTwins : MethodName := ⟨RX11, "areTwins", "(LRunLedger$Row;LRunLedger$Row;)Z"⟩
abbrev cX11_isNoKey : ByteArray := prog_1_method_58_code
def yX11_isNoKey : MethodName := ⟨RX11, "isNoKey", "(I)Z"⟩
abbrev cX11_isNoSpan : ByteArray := prog_1_method_59_code
def yX11_isNoSpan : MethodName := ⟨RX11, "isNoSpan", "(I)Z"⟩
abbrev cX11_isNoTuning : ByteArray := prog_1_method_60_code
def yX11_isNoTuning : MethodName := ⟨RX11, "isNoTuning", "(II)Z"⟩
abbrev cX11_ratio : ByteArray := prog_1_method_61_code
def yX11_ratio : MethodName := ⟨RX11, "ratio", "(II)I"⟩
def RX12 : String := "RunLedgerModel"
def TX12 : u_T := fun k => match k with
  | 0 => ("RunLedgerModel", "thrown", "I", false)
  | 1 => ("RunLedgerModel", "world", "[I", true)
  | 2 => ("RunLedgerModel", "image", "[I", true)
  | 3 => ("RunLedgerModel", "earlier", "[I", true)
  | 4 => ("RunLedgerModel", "trial", "[I", true)
  | 5 => ("RunLedgerModel", "acts", "[I", true)
  | 6 => ("RunLedgerModel", "hasImage", "Z", false)
  | 7 => ("RunLedgerModel", "remembered", "I", false)
  | 8 => ("RunLedgerModel", "tape", "[B", true)
  | 9 => ("RunLedgerModel", "taped", "I", false)
  | 10 => ("RunLedgerModel", "point", "I", false)
  | 11 => ("RunLedgerModel", "end", "I", false)
  | 12 => ("RunLedgerModel", "begin", "I", false)
  | 13 => ("RunLedgerModel", "deep", "I", false)
  | 14 => ("RunLedgerModel", "faultAt", "I", false)
  | 15 => ("RunLedgerModel", "five", "[I", true)
  | 16 => ("RunLedgerModel", "codes", "I", false)
  | 17 => ("RunLedgerModel", "value", "[I", true)
  | 18 => ("RunLedgerModel", "least", "[I", true)
  | 19 => ("RunLedgerModel", "ahead", "[I", true)
  | _ => ("RunLedgerModel", "paired", "[I", true)
def tyX12 : Nat → FieldType := fun k => match k with
  | 0 => .int
  | 1 => .array .int
  | 2 => .array .int
  | 3 => .array .int
  | 4 => .array .int
  | 5 => .array .int
  | 6 => .boolean
  | 7 => .int
  | 8 => .array .byte
  | 9 => .int
  | 10 => .int
  | 11 => .int
  | 12 => .int
  | 13 => .int
  | 14 => .int
  | 15 => .array .int
  | 16 => .int
  | 17 => .array .int
  | 18 => .array .int
  | 19 => .array .int
  | _ => .array .int
abbrev wsX120 : List Cond := u_ws RX12 TX12 21
theorem nmX12 : ∀ a, a < 21 → ∀ b, b < 21 → a ≠ b → (TX12 a).2.1 ≠ (TX12 b).2.1 := by decide +kernel
theorem tyX12_ok : ∀ k, k < 21 → parseFieldDescriptor (TX12 k).2.2.1 = some (tyX12 k) := by decide +kernel
abbrev cX12_thrown : ByteArray := prog_14_method_1_code
def yX12_thrown : MethodName := ⟨RX12, "thrown", "()I"⟩
abbrev cX12_throwsIf : ByteArray := prog_14_method_2_code
def yX12_throwsIf : MethodName := ⟨RX12, "throwsIf", "(ZI)Z"⟩
abbrev cX12_in : ByteArray := prog_14_method_3_code
def yX12_in : MethodName := ⟨RX12, "in", "(III)Z"⟩
abbrev cX12_has : ByteArray := prog_14_method_4_code
def yX12_has : MethodName := ⟨RX12, "has", "(II)Z"⟩
abbrev cX12_init : ByteArray := prog_14_method_5_code
def yX12_init : MethodName := ⟨RX12, "<init>", "()V"⟩
abbrev cX12_image : ByteArray := prog_14_method_6_code
def yX12_image : MethodName := ⟨RX12, "image", "()V"⟩
abbrev cX12_back : ByteArray := prog_14_method_7_code
def yX12_back : MethodName := ⟨RX12, "back", "()Z"⟩
abbrev cX12_remembers : ByteArray := prog_14_method_8_code
def yX12_remembers : MethodName := ⟨RX12, "remembers", "()V"⟩
abbrev cX12_undo : ByteArray := prog_14_method_9_code
def yX12_undo : MethodName := ⟨RX12, "undo", "()Z"⟩
abbrev cX12_keepsAll : ByteArray := prog_14_method_10_code
def yX12_keepsAll : MethodName := ⟨RX12, "keepsAll", "()V"⟩
abbrev cX12_bringsBack : ByteArray := prog_14_method_11_code
def yX12_bringsBack : MethodName := ⟨RX12, "bringsBack", "()V"⟩
abbrev cX12_runs : ByteArray := prog_14_method_12_code
def yX12_runs : MethodName := ⟨RX12, "runs", "()I"⟩
abbrev cX12_runAt : ByteArray := prog_14_method_13_code
def yX12_runAt : MethodName := ⟨RX12, "runAt", "(II)I"⟩
abbrev cX12_rowOf : ByteArray := prog_14_method_14_code
def yX12_rowOf : MethodName := ⟨RX12, "rowOf", "(I)I"⟩
abbrev cX12_levelOf : ByteArray := prog_14_method_15_code
def yX12_levelOf : MethodName := ⟨RX12, "levelOf", "(I)I"⟩
abbrev cX12_isInput : ByteArray := prog_14_method_16_code
def yX12_isInput : MethodName := ⟨RX12, "isInput", "(I)Z"⟩
abbrev cX12_isBusy : ByteArray := prog_14_method_17_code
def yX12_isBusy : MethodName := ⟨RX12, "isBusy", "()Z"⟩
abbrev cX12_empties : ByteArray := prog_14_method_18_code
def yX12_empties : MethodName := ⟨RX12, "empties", "(I)V"⟩
abbrev cX12_entriesOf : ByteArray := prog_14_method_19_code
def yX12_entriesOf : MethodName := ⟨RX12, "entriesOf", "(I)I"⟩
abbrev cX12_noRun : ByteArray := prog_14_method_20_code
def yX12_noRun : MethodName := ⟨RX12, "noRun", "(I)Z"⟩
abbrev cX12_noKey : ByteArray := prog_14_method_21_code
def yX12_noKey : MethodName := ⟨RX12, "noKey", "(I)Z"⟩
abbrev cX12_more : ByteArray := prog_14_method_22_code
def yX12_more : MethodName := ⟨RX12, "more", "(III)V"⟩
abbrev cX12_drawn : ByteArray := prog_14_method_23_code
def yX12_drawn : MethodName := ⟨RX12, "drawn", "(I)I"⟩
abbrev cX12_feed : ByteArray := prog_14_method_24_code
def yX12_feed : MethodName := ⟨RX12, "feed", "(IIIII)I"⟩
abbrev cX12_end : ByteArray := prog_14_method_25_code
def yX12_end : MethodName := ⟨RX12, "end", "(I)Z"⟩
abbrev cX12_isAt : ByteArray := prog_14_method_26_code
def yX12_isAt : MethodName := ⟨RX12, "isAt", "(II)Z"⟩
abbrev cX12_blanks : ByteArray := prog_14_method_27_code
def yX12_blanks : MethodName := ⟨RX12, "blanks", "()V"⟩
abbrev cX12_letters : ByteArray := prog_14_method_28_code
def yX12_letters : MethodName := ⟨RX12, "letters", "()V"⟩
abbrev cX12_isWord : ByteArray := prog_14_method_29_code
def yX12_isWord : MethodName := ⟨RX12, "isWord", "(Ljava/lang/String;)Z"⟩
abbrev cX12_passes : ByteArray := prog_14_method_30_code
def yX12_passes : MethodName := ⟨RX12, "passes", "(Ljava/lang/String;)Z"⟩
abbrev cX12_sign : ByteArray := prog_14_method_31_code
def yX12_sign : MethodName := ⟨RX12, "sign", "(I)Z"⟩
abbrev cX12_isFigure : ByteArray := prog_14_method_32_code
def yX12_isFigure : MethodName := ⟨RX12, "isFigure", "()Z"⟩
abbrev cX12_number : ByteArray := prog_14_method_33_code
def yX12_number : MethodName := ⟨RX12, "number", "(II)I"⟩
abbrev cX12_behind : ByteArray := prog_14_method_34_code
def yX12_behind : MethodName := ⟨RX12, "behind", "(Ljava/lang/String;II)I"⟩
abbrev cX12_fault : ByteArray := prog_14_method_35_code
def yX12_fault : MethodName := ⟨RX12, "fault", "()I"⟩
abbrev cX12_uses : ByteArray := prog_14_method_36_code
def yX12_uses : MethodName := ⟨RX12, "uses", "()V"⟩
abbrev cX12_readNumber : ByteArray := prog_14_method_37_code
def yX12_readNumber : MethodName := ⟨RX12, "readNumber", "(III)Z"⟩
abbrev cX12_readRun : ByteArray := prog_14_method_38_code
def yX12_readRun : MethodName := ⟨RX12, "readRun", "()Z"⟩
abbrev cX12_readTable : ByteArray := prog_14_method_39_code
def yX12_readTable : MethodName := ⟨RX12, "readTable", "()Z"⟩
abbrev cX12_readPlan : ByteArray := prog_14_method_40_code
def yX12_readPlan : MethodName := ⟨RX12, "readPlan", "(Z)Z"⟩
abbrev cX12_readBound : ByteArray := prog_14_method_41_code
def yX12_readBound : MethodName := ⟨RX12, "readBound", "(II)Z"⟩
abbrev cX12_readStoreLine : ByteArray := prog_14_method_42_code
def yX12_readStoreLine : MethodName := ⟨RX12, "readStoreLine", "()Z"⟩
abbrev cX12_emits : ByteArray := prog_14_method_43_code
def yX12_emits : MethodName := ⟨RX12, "emits", "(II)V"⟩
abbrev cX12_wordOfPart : ByteArray := prog_14_method_44_code
def yX12_wordOfPart : MethodName := ⟨RX12, "wordOfPart", "()I"⟩
abbrev cX12_readPart : ByteArray := prog_14_method_45_code
def yX12_readPart : MethodName := ⟨RX12, "readPart", "()Z"⟩
abbrev cX12_readSum : ByteArray := prog_14_method_46_code
def yX12_readSum : MethodName := ⟨RX12, "readSum", "()Z"⟩
abbrev cX12_readTag : ByteArray := prog_14_method_47_code
def yX12_readTag : MethodName := ⟨RX12, "readTag", "()Z"⟩
abbrev cX12_readAtom : ByteArray := prog_14_method_48_code
def yX12_readAtom : MethodName := ⟨RX12, "readAtom", "()Z"⟩
abbrev cX12_readAllOf : ByteArray := prog_14_method_49_code
def yX12_readAllOf : MethodName := ⟨RX12, "readAllOf", "()Z"⟩
abbrev cX12_readCond : ByteArray := prog_14_method_50_code
def yX12_readCond : MethodName := ⟨RX12, "readCond", "()Z"⟩
abbrev cX12_readLawLine : ByteArray := prog_14_method_51_code
def yX12_readLawLine : MethodName := ⟨RX12, "readLawLine", "(I)Z"⟩
abbrev cX12_readLine : ByteArray := prog_14_method_52_code
def yX12_readLine : MethodName := ⟨RX12, "readLine", "(ZI)Z"⟩
abbrev cX12_readAll : ByteArray := prog_14_method_53_code
def yX12_readAll : MethodName := ⟨RX12, "readAll", "(Z)I"⟩
abbrev cX12_store : ByteArray := prog_14_method_54_code
def yX12_store : MethodName := ⟨RX12, "store", "()I"⟩
abbrev cX12_law : ByteArray := prog_14_method_55_code
def yX12_law : MethodName := ⟨RX12, "law", "()I"⟩
abbrev cX12_factOf : ByteArray := prog_14_method_56_code
def yX12_factOf : MethodName := ⟨RX12, "factOf", "(III)I"⟩
abbrev cX12_holdsLine : ByteArray := prog_14_method_57_code
def yX12_holdsLine : MethodName := ⟨RX12, "holdsLine", "(II)Z"⟩
abbrev cX12_sumOf : ByteArray := prog_14_method_58_code
def yX12_sumOf : MethodName := ⟨RX12, "sumOf", "(II)I"⟩
abbrev cX12_goalOrNothing : ByteArray := prog_14_method_59_code
def yX12_goalOrNothing : MethodName := ⟨RX12, "goalOrNothing", "()I"⟩
abbrev cX12_sliceNow : ByteArray := prog_14_method_60_code
def yX12_sliceNow : MethodName := ⟨RX12, "sliceNow", "()I"⟩
abbrev cX12_costNow : ByteArray := prog_14_method_61_code
def yX12_costNow : MethodName := ⟨RX12, "costNow", "()I"⟩
abbrev cX12_worthOf : ByteArray := prog_14_method_62_code
def yX12_worthOf : MethodName := ⟨RX12, "worthOf", "(I)I"⟩
abbrev cX12_runsOf : ByteArray := prog_14_method_63_code
def yX12_runsOf : MethodName := ⟨RX12, "runsOf", "(I)I"⟩
abbrev cX12_entriesIn : ByteArray := prog_14_method_64_code
def yX12_entriesIn : MethodName := ⟨RX12, "entriesIn", "(I)I"⟩
abbrev cX12_inputs : ByteArray := prog_14_method_65_code
def yX12_inputs : MethodName := ⟨RX12, "inputs", "()I"⟩
abbrev cX12_isDue : ByteArray := prog_14_method_66_code
def yX12_isDue : MethodName := ⟨RX12, "isDue", "(I)Z"⟩
abbrev cX12_leftNow : ByteArray := prog_14_method_67_code
def yX12_leftNow : MethodName := ⟨RX12, "leftNow", "()I"⟩
abbrev cX12_debtNow : ByteArray := prog_14_method_68_code
def yX12_debtNow : MethodName := ⟨RX12, "debtNow", "()I"⟩
abbrev cX12_isTold : ByteArray := prog_14_method_69_code
def yX12_isTold : MethodName := ⟨RX12, "isTold", "(III)V"⟩
abbrev cX12_dueMost : ByteArray := prog_14_method_70_code
def yX12_dueMost : MethodName := ⟨RX12, "dueMost", "()I"⟩
abbrev cX12_mayBegin : ByteArray := prog_14_method_71_code
def yX12_mayBegin : MethodName := ⟨RX12, "mayBegin", "()V"⟩
abbrev cX12_isNoMore : ByteArray := prog_14_method_72_code
def yX12_isNoMore : MethodName := ⟨RX12, "isNoMore", "()V"⟩
abbrev cX12_isHalted : ByteArray := prog_14_method_73_code
def yX12_isHalted : MethodName := ⟨RX12, "isHalted", "()I"⟩
abbrev cX12_copies : ByteArray := prog_14_method_74_code
def yX12_copies : MethodName := ⟨RX12, "copies", "(III)V"⟩
abbrev cX12_ends : ByteArray := prog_14_method_75_code
def yX12_ends : MethodName := ⟨RX12, "ends", "()V"⟩
abbrev cX12_nextKey : ByteArray := prog_14_method_76_code
def yX12_nextKey : MethodName := ⟨RX12, "nextKey", "()I"⟩
abbrev cX12_newestWith : ByteArray := prog_14_method_77_code
def yX12_newestWith : MethodName := ⟨RX12, "newestWith", "(I)I"⟩
abbrev cX12_lowerHas : ByteArray := prog_14_method_78_code
def yX12_lowerHas : MethodName := ⟨RX12, "lowerHas", "(I)Z"⟩
abbrev cX12_isBehindInputs : ByteArray := prog_14_method_79_code
def yX12_isBehindInputs : MethodName := ⟨RX12, "isBehindInputs", "(I)Z"⟩
abbrev cX12_takes : ByteArray := prog_14_method_80_code
def yX12_takes : MethodName := ⟨RX12, "takes", "(I)V"⟩
abbrev cX12_works : ByteArray := prog_14_method_81_code
def yX12_works : MethodName := ⟨RX12, "works", "(I)I"⟩
abbrev cX12_paidSlice : ByteArray := prog_14_method_82_code
def yX12_paidSlice : MethodName := ⟨RX12, "paidSlice", "(I)I"⟩
abbrev cX12_isFlushed : ByteArray := prog_14_method_83_code
def yX12_isFlushed : MethodName := ⟨RX12, "isFlushed", "()V"⟩
abbrev cX12_isCrowded : ByteArray := prog_14_method_84_code
def yX12_isCrowded : MethodName := ⟨RX12, "isCrowded", "()Z"⟩
abbrev cX12_canGoOn : ByteArray := prog_14_method_85_code
def yX12_canGoOn : MethodName := ⟨RX12, "canGoOn", "()Z"⟩
abbrev cX12_isWritten : ByteArray := prog_14_method_86_code
def yX12_isWritten : MethodName := ⟨RX12, "isWritten", "(II)I"⟩
abbrev cX12_oneTick : ByteArray := prog_14_method_87_code
def yX12_oneTick : MethodName := ⟨RX12, "oneTick", "()I"⟩
abbrev cX12_goesOn : ByteArray := prog_14_method_88_code
def yX12_goesOn : MethodName := ⟨RX12, "goesOn", "(I)I"⟩
abbrev cX12_mostRewritten : ByteArray := prog_14_method_89_code
def yX12_mostRewritten : MethodName := ⟨RX12, "mostRewritten", "(I)I"⟩
abbrev cX12_allEntries : ByteArray := prog_14_method_90_code
def yX12_allEntries : MethodName := ⟨RX12, "allEntries", "()I"⟩
abbrev cX12_run : ByteArray := prog_14_method_91_code
def yX12_run : MethodName := ⟨RX12, "run", "(II)I"⟩
abbrev cX12_entry : ByteArray := prog_14_method_92_code
def yX12_entry : MethodName := ⟨RX12, "entry", "(III)I"⟩
abbrev cX12_level : ByteArray := prog_14_method_93_code
def yX12_level : MethodName := ⟨RX12, "level", "(II)I"⟩
abbrev cX12_job : ByteArray := prog_14_method_94_code
def yX12_job : MethodName := ⟨RX12, "job", "(I)I"⟩
abbrev cX12_debt : ByteArray := prog_14_method_95_code
def yX12_debt : MethodName := ⟨RX12, "debt", "()I"⟩
abbrev cX12_slice : ByteArray := prog_14_method_96_code
def yX12_slice : MethodName := ⟨RX12, "slice", "()I"⟩
abbrev cX12_ticks : ByteArray := prog_14_method_97_code
def yX12_ticks : MethodName := ⟨RX12, "ticks", "(I)I"⟩
abbrev cX12_put : ByteArray := prog_14_method_98_code
def yX12_put : MethodName := ⟨RX12, "put", "(II)I"⟩
abbrev cX12_remove : ByteArray := prog_14_method_99_code
def yX12_remove : MethodName := ⟨RX12, "remove", "(I)I"⟩
abbrev cX12_work : ByteArray := prog_14_method_100_code
def yX12_work : MethodName := ⟨RX12, "work", "()I"⟩
abbrev cX12_halt : ByteArray := prog_14_method_101_code
def yX12_halt : MethodName := ⟨RX12, "halt", "()I"⟩
abbrev cX12_flush : ByteArray := prog_14_method_102_code
def yX12_flush : MethodName := ⟨RX12, "flush", "()I"⟩
abbrev cX12_plan : ByteArray := prog_14_method_103_code
def yX12_plan : MethodName := ⟨RX12, "plan", "(Z)Z"⟩
abbrev cX12_tune : ByteArray := prog_14_method_104_code
def yX12_tune : MethodName := ⟨RX12, "tune", "(II)I"⟩
abbrev cX12_newestOf : ByteArray := prog_14_method_105_code
def yX12_newestOf : MethodName := ⟨RX12, "newestOf", "(I)I"⟩
abbrev cX12_found : ByteArray := prog_14_method_106_code
def yX12_found : MethodName := ⟨RX12, "found", "(I)I"⟩
abbrev cX12_took : ByteArray := prog_14_method_107_code
def yX12_took : MethodName := ⟨RX12, "took", "(I)I"⟩
abbrev cX12_foundMany : ByteArray := prog_14_method_108_code
def yX12_foundMany : MethodName := ⟨RX12, "foundMany", "()I"⟩
abbrev cX12_get : ByteArray := prog_14_method_109_code
def yX12_get : MethodName := ⟨RX12, "get", "(I)I"⟩
abbrev cX12_looks : ByteArray := prog_14_method_110_code
def yX12_looks : MethodName := ⟨RX12, "looks", "(I)I"⟩
abbrev cX12_many : ByteArray := prog_14_method_111_code
def yX12_many : MethodName := ⟨RX12, "many", "()I"⟩
abbrev cX12_rank : ByteArray := prog_14_method_112_code
def yX12_rank : MethodName := ⟨RX12, "rank", "(I)I"⟩
abbrev cX12_total : ByteArray := prog_14_method_113_code
def yX12_total : MethodName := ⟨RX12, "total", "(II)I"⟩
abbrev cX12_over : ByteArray := prog_14_method_114_code
def yX12_over : MethodName := ⟨RX12, "over", "(Z)I"⟩
abbrev cX12_deepest : ByteArray := prog_14_method_115_code
def yX12_deepest : MethodName := ⟨RX12, "deepest", "()I"⟩
abbrev cX12_stretchOf : ByteArray := prog_14_method_116_code
def yX12_stretchOf : MethodName := ⟨RX12, "stretchOf", "(II)I"⟩
abbrev cX12_mergedAt : ByteArray := prog_14_method_117_code
def yX12_mergedAt : MethodName := ⟨RX12, "mergedAt", "(III)I"⟩
abbrev cX12_laysMerges : ByteArray := prog_14_method_118_code
def yX12_laysMerges : MethodName := ⟨RX12, "laysMerges", "()V"⟩
abbrev cX12_cheapest : ByteArray := prog_14_method_119_code
def yX12_cheapest : MethodName := ⟨RX12, "cheapest", "(Z)I"⟩
abbrev cX12_areTold : ByteArray := prog_14_method_120_code
def yX12_areTold : MethodName := ⟨RX12, "areTold", "()Z"⟩
abbrev cX12_toldBy : ByteArray := prog_14_method_121_code
def yX12_toldBy : MethodName := ⟨RX12, "toldBy", "(II)I"⟩
abbrev cX12_wrongRows : ByteArray := prog_14_method_122_code
def yX12_wrongRows : MethodName := ⟨RX12, "wrongRows", "(I)I"⟩
abbrev cX12_thatFit : ByteArray := prog_14_method_123_code
def yX12_thatFit : MethodName := ⟨RX12, "thatFit", "(I)I"⟩
abbrev cX12_may : ByteArray := prog_14_method_124_code
def yX12_may : MethodName := ⟨RX12, "may", "()I"⟩
abbrev cX12_firstOf : ByteArray := prog_14_method_125_code
def yX12_firstOf : MethodName := ⟨RX12, "firstOf", "(I)I"⟩
abbrev cX12_likely : ByteArray := prog_14_method_126_code
def yX12_likely : MethodName := ⟨RX12, "likely", "()I"⟩
abbrev cX12_partBy : ByteArray := prog_14_method_127_code
def yX12_partBy : MethodName := ⟨RX12, "partBy", "(II)I"⟩
abbrev cX12_look : ByteArray := prog_14_method_128_code
def yX12_look : MethodName := ⟨RX12, "look", "()I"⟩
abbrev cX12_aheadAt : ByteArray := prog_14_method_129_code
def yX12_aheadAt : MethodName := ⟨RX12, "aheadAt", "(II)I"⟩
abbrev cX12_byNewest : ByteArray := prog_14_method_130_code
def yX12_byNewest : MethodName := ⟨RX12, "byNewest", "(II)I"⟩
abbrev cX12_byOldest : ByteArray := prog_14_method_131_code
def yX12_byOldest : MethodName := ⟨RX12, "byOldest", "(II)I"⟩
abbrev cX12_laysAhead : ByteArray := prog_14_method_132_code
def yX12_laysAhead : MethodName := ⟨RX12, "laysAhead", "()V"⟩
abbrev cX12_lead : ByteArray := prog_14_method_133_code
def yX12_lead : MethodName := ⟨RX12, "lead", "()I"⟩
abbrev cX12_side : ByteArray := prog_14_method_134_code
def yX12_side : MethodName := ⟨RX12, "side", "()I"⟩
abbrev cX12_alikeOf : ByteArray := prog_14_method_135_code
def yX12_alikeOf : MethodName := ⟨RX12, "alikeOf", "(II)I"⟩
abbrev cX12_pairedBy : ByteArray := prog_14_method_136_code
def yX12_pairedBy : MethodName := ⟨RX12, "pairedBy", "(II)I"⟩
abbrev cX12_laysPairs : ByteArray := prog_14_method_137_code
def yX12_laysPairs : MethodName := ⟨RX12, "laysPairs", "(I)V"⟩
abbrev cX12_pairs : ByteArray := prog_14_method_138_code
def yX12_pairs : MethodName := ⟨RX12, "pairs", "(I)I"⟩
abbrev cX12_writerHas : ByteArray := prog_14_method_139_code
def yX12_writerHas : MethodName := ⟨RX12, "writerHas", "(II)I"⟩
abbrev cX12_mergerHas : ByteArray := prog_14_method_140_code
def yX12_mergerHas : MethodName := ⟨RX12, "mergerHas", "(II)I"⟩
abbrev cX12_rests : ByteArray := prog_14_method_141_code
def yX12_rests : MethodName := ⟨RX12, "rests", "()I"⟩
abbrev cX12_odds : ByteArray := prog_14_method_142_code
def yX12_odds : MethodName := ⟨RX12, "odds", "(I)I"⟩
abbrev cX12_amountOf : ByteArray := prog_14_method_143_code
def yX12_amountOf : MethodName := ⟨RX12, "amountOf", "(II)I"⟩
abbrev cX12_most : ByteArray := prog_14_method_144_code
def yX12_most : MethodName := ⟨RX12, "most", "(I)I"⟩
abbrev cX12_twins : ByteArray := prog_14_method_145_code
def yX12_twins : MethodName := ⟨RX12, "twins", "()I"⟩
abbrev cX12_noTicks : ByteArray := prog_14_method_146_code
def yX12_noTicks : MethodName := ⟨RX12, "noTicks", "(I)Z"⟩
abbrev cX12_ahead : ByteArray := prog_14_method_147_code
def yX12_ahead : MethodName := ⟨RX12, "ahead", "(IZ)I"⟩
abbrev cX12_trial : ByteArray := prog_14_method_148_code
def yX12_trial : MethodName := ⟨RX12, "trial", "(IZ)I"⟩
abbrev cX12_span : ByteArray := prog_14_method_149_code
def yX12_span : MethodName := ⟨RX12, "span", "(IZ)I"⟩
abbrev cX12_ofLog : ByteArray := prog_14_method_150_code
def yX12_ofLog : MethodName := ⟨RX12, "ofLog", "(II)I"⟩
abbrev cX12_led : ByteArray := prog_14_method_151_code
def yX12_led : MethodName := ⟨RX12, "led", "(IZ)I"⟩
abbrev cX12_log : ByteArray := prog_14_method_152_code
def yX12_log : MethodName := ⟨RX12, "log", "(II)I"⟩
abbrev cX12_seed : ByteArray := prog_14_method_153_code
def yX12_seed : MethodName := ⟨RX12, "seed", "(I)I"⟩
abbrev cX12_count : ByteArray := prog_14_method_154_code
def yX12_count : MethodName := ⟨RX12, "count", "(I)I"⟩
def RJx145de : String := "java/io/Serializable"
def RJx9f9b0 : String := "java/lang/CharSequence"
def RJxb160c : String := "java/lang/Comparable"
def RJ6 : String := "java/lang/Integer"
abbrev cJ6_numberOfTrailingZeros_0f7a4 : ByteArray := prog_22_method_48_code
def yJ6_numberOfTrailingZeros_0f7a4 : MethodName := ⟨RJ6, "numberOfTrailingZeros", "(I)I"⟩
abbrev cJ6_bitCount_0f7a4 : ByteArray := prog_22_method_49_code
def yJ6_bitCount_0f7a4 : MethodName := ⟨RJ6, "bitCount", "(I)I"⟩
def RJ9 : String := "java/lang/Math"
abbrev cJ9_max_7cf53 : ByteArray := prog_23_method_65_code
def yJ9_max_7cf53 : MethodName := ⟨RJ9, "max", "(II)I"⟩
abbrev cJ9_min_7cf53 : ByteArray := prog_23_method_69_code
def yJ9_min_7cf53 : MethodName := ⟨RJ9, "min", "(II)I"⟩
def RJ0 : String := "java/lang/String"
abbrev cJ0_length_8abf5 : ByteArray := prog_25_method_54_code
def yJ0_length_8abf5 : MethodName := ⟨RJ0, "length", "()I"⟩
abbrev cJ0_charAt_5068e : ByteArray := prog_25_method_56_code
def yJ0_charAt_5068e : MethodName := ⟨RJ0, "charAt", "(I)C"⟩
abbrev cJ0_coder_7d493 : ByteArray := prog_25_method_152_code
def yJ0_coder_7d493 : MethodName := ⟨RJ0, "coder", "()B"⟩
abbrev cJ0_isLatin1_aae02 : ByteArray := prog_25_method_154_code
def yJ0_isLatin1_aae02 : MethodName := ⟨RJ0, "isLatin1", "()Z"⟩
abbrev cJ0_checkIndex_df160 : ByteArray := prog_25_method_155_code
def yJ0_checkIndex_df160 : MethodName := ⟨RJ0, "checkIndex", "(II)V"⟩
def RJ1 : String := "java/lang/StringLatin1"
abbrev cJ1_charAt_3b067 : ByteArray := prog_26_method_2_code
def yJ1_charAt_3b067 : MethodName := ⟨RJ1, "charAt", "([BI)C"⟩
def RJ2 : String := "java/lang/StringUTF16"
abbrev cJ2_getChar_3b067 : ByteArray := prog_27_method_5_code
def yJ2_getChar_3b067 : MethodName := ⟨RJ2, "getChar", "([BI)C"⟩
abbrev cJ2_length_9d52b : ByteArray := prog_27_method_6_code
def yJ2_length_9d52b : MethodName := ⟨RJ2, "length", "([B)I"⟩
abbrev cJ2_charAt_3b067 : ByteArray := prog_27_method_83_code
def yJ2_charAt_3b067 : MethodName := ⟨RJ2, "charAt", "([BI)C"⟩
abbrev cJ2_checkIndex_2214a : ByteArray := prog_27_method_91_code
def yJ2_checkIndex_2214a : MethodName := ⟨RJ2, "checkIndex", "(I[B)V"⟩
def RJ10 : String := "java/lang/System"
def RJxfd54e : String := "java/lang/constant/Constable"
def RJx3cf43 : String := "java/lang/constant/ConstantDesc"
def RJ3 : String := "jdk/internal/util/Preconditions"
abbrev cJ3_checkIndex_8e157 : ByteArray := prog_34_method_11_code
def yJ3_checkIndex_8e157 : MethodName := ⟨RJ3, "checkIndex", "(IILjava/util/function/BiFunction;)I"⟩
def RL : String := "RunLedgerLaw"
abbrev cL_store : ByteArray := method_3_code
def yL_store : MethodName := ⟨RL, "store", "(LRunLedger;[J)I"⟩
abbrev cL_law : ByteArray := method_4_code
def yL_law : MethodName := ⟨RL, "law", "(LRunLedger;[J)I"⟩
abbrev cL_run : ByteArray := method_5_code
def yL_run : MethodName := ⟨RL, "run", "(LRunLedger;II[J)I"⟩
abbrev cL_entry : ByteArray := method_6_code
def yL_entry : MethodName := ⟨RL, "entry", "(LRunLedger;III[J)I"⟩
abbrev cL_level : ByteArray := method_7_code
def yL_level : MethodName := ⟨RL, "level", "(LRunLedger;II[J)I"⟩
abbrev cL_job : ByteArray := method_8_code
def yL_job : MethodName := ⟨RL, "job", "(LRunLedger;I[J)I"⟩
abbrev cL_ticks : ByteArray := method_9_code
def yL_ticks : MethodName := ⟨RL, "ticks", "(LRunLedger;I[J)I"⟩
abbrev cL_put : ByteArray := method_10_code
def yL_put : MethodName := ⟨RL, "put", "(LRunLedger;II[J)I"⟩
abbrev cL_remove : ByteArray := method_11_code
def yL_remove : MethodName := ⟨RL, "remove", "(LRunLedger;I[J)I"⟩
abbrev cL_work : ByteArray := method_12_code
def yL_work : MethodName := ⟨RL, "work", "(LRunLedger;[J)I"⟩
abbrev cL_halt : ByteArray := method_13_code
def yL_halt : MethodName := ⟨RL, "halt", "(LRunLedger;[J)I"⟩
abbrev cL_flush : ByteArray := method_14_code
def yL_flush : MethodName := ⟨RL, "flush", "(LRunLedger;[J)I"⟩
abbrev cL_tune : ByteArray := method_15_code
def yL_tune : MethodName := ⟨RL, "tune", "(LRunLedger;II[J)I"⟩
abbrev cL_get : ByteArray := method_16_code
def yL_get : MethodName := ⟨RL, "get", "(LRunLedger;I[J)I"⟩
abbrev cL_looks : ByteArray := method_17_code
def yL_looks : MethodName := ⟨RL, "looks", "(LRunLedger;I[J)I"⟩
abbrev cL_total : ByteArray := method_18_code
def yL_total : MethodName := ⟨RL, "total", "(LRunLedger;II[J)I"⟩
abbrev cL_may : ByteArray := method_19_code
def yL_may : MethodName := ⟨RL, "may", "(LRunLedger;[J)I"⟩
abbrev cL_likely : ByteArray := method_20_code
def yL_likely : MethodName := ⟨RL, "likely", "(LRunLedger;[J)I"⟩
abbrev cL_look : ByteArray := method_21_code
def yL_look : MethodName := ⟨RL, "look", "(LRunLedger;[J)I"⟩
abbrev cL_pairs : ByteArray := method_22_code
def yL_pairs : MethodName := ⟨RL, "pairs", "(LRunLedger;I[J)I"⟩
abbrev cL_odds : ByteArray := method_23_code
def yL_odds : MethodName := ⟨RL, "odds", "(LRunLedger;I[J)I"⟩
abbrev cL_most : ByteArray := method_24_code
def yL_most : MethodName := ⟨RL, "most", "(LRunLedger;I[J)I"⟩
abbrev cL_ahead : ByteArray := method_25_code
def yL_ahead : MethodName := ⟨RL, "ahead", "(LRunLedger;IZ[J)I"⟩
abbrev cL_trial : ByteArray := method_26_code
def yL_trial : MethodName := ⟨RL, "trial", "(LRunLedger;IZ[J)I"⟩
abbrev cL_span : ByteArray := method_27_code
def yL_span : MethodName := ⟨RL, "span", "(LRunLedger;IZ[J)I"⟩
abbrev cL_led : ByteArray := method_28_code
def yL_led : MethodName := ⟨RL, "led", "(LRunLedger;IZ[J)I"⟩
abbrev cL_log : ByteArray := method_29_code
def yL_log : MethodName := ⟨RL, "log", "(LRunLedger;II[J)I"⟩
abbrev cL_law_ : ByteArray := code
def yL_law_ : MethodName := ⟨RL, "law", "([I)Z"⟩
abbrev vwCl : List vw_C := [(RX0, TX0, 6), (RX1, TX1, 4), (RX2, TX2, 6), (RX3, TX3, 6), (RX4, TX4, 7), (RX5, TX5, 6), (RX6, TX6, 5), (RX7, TX7, 6), (RX8, TX8, 17), (RX9, TX9, 5), (RX10, TX10, 6), (RX11, TX11, 13), (RX12, TX12, 21)]
