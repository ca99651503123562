section
-- ===== PART A: goes FIRST, ahead of the names: the tables' words, and 'selects' of the private methods out of them =====
/-- a private method of a class that the tables say can be made, by its rows of tables_1 -/
def lw_okq (q : MethodName × Nat) : Prop := (q.1.cls ≠ "java/lang/invoke/MethodHandle" ∧ q.1.cls ≠ "java/lang/invoke/VarHandle") ∧ Cond.instantiable q.1.cls q.2 ∈ tables_1 ∧ Cond.privateMethod q.1 ∈ tables_1 ∧ Cond.instanceMethod q.1 ∈ tables_1
theorem lw_p0 : lw_okq (⟨"WaxReign$KingdomReader", "setsWhatIsWithout", "(I)V"⟩, 3) := ⟨⟨by decide +kernel, by decide +kernel⟩, List.mem_of_getElem? (i := 58) (by decide +kernel), List.mem_of_getElem? (i := 356) (by decide +kernel), List.mem_of_getElem? (i := 357) (by decide +kernel)⟩
theorem lw_p1 : lw_okq (⟨"WaxReign$KingdomReader", "readsClause", "()Z"⟩, 3) := ⟨⟨by decide +kernel, by decide +kernel⟩, List.mem_of_getElem? (i := 58) (by decide +kernel), List.mem_of_getElem? (i := 371) (by decide +kernel), List.mem_of_getElem? (i := 372) (by decide +kernel)⟩
theorem lw_p2 : lw_okq (⟨"WaxReign$KingdomReader", "readsNumber", "(II)Z"⟩, 3) := ⟨⟨by decide +kernel, by decide +kernel⟩, List.mem_of_getElem? (i := 58) (by decide +kernel), List.mem_of_getElem? (i := 474) (by decide +kernel), List.mem_of_getElem? (i := 475) (by decide +kernel)⟩
theorem lw_p3 : lw_okq (⟨"WaxReign$KingdomReader", "isWhole", "()Z"⟩, 3) := ⟨⟨by decide +kernel, by decide +kernel⟩, List.mem_of_getElem? (i := 58) (by decide +kernel), List.mem_of_getElem? (i := 484) (by decide +kernel), List.mem_of_getElem? (i := 485) (by decide +kernel)⟩
theorem lw_p4 : lw_okq (⟨"WaxReign$LawReader", "readsClause", "()Z"⟩, 3) := ⟨⟨by decide +kernel, by decide +kernel⟩, List.mem_of_getElem? (i := 74) (by decide +kernel), List.mem_of_getElem? (i := 501) (by decide +kernel), List.mem_of_getElem? (i := 502) (by decide +kernel)⟩
theorem lw_p5 : lw_okq (⟨"WaxReign$LawReader", "readsSum", "(I)Z"⟩, 3) := ⟨⟨by decide +kernel, by decide +kernel⟩, List.mem_of_getElem? (i := 74) (by decide +kernel), List.mem_of_getElem? (i := 507) (by decide +kernel), List.mem_of_getElem? (i := 508) (by decide +kernel)⟩
theorem lw_p6 : lw_okq (⟨"WaxReign$LawReader", "readsAtom", "(I)Z"⟩, 3) := ⟨⟨by decide +kernel, by decide +kernel⟩, List.mem_of_getElem? (i := 74) (by decide +kernel), List.mem_of_getElem? (i := 511) (by decide +kernel), List.mem_of_getElem? (i := 512) (by decide +kernel)⟩
theorem lw_p7 : lw_okq (⟨"WaxReign$LawReader", "emits", "(I)V"⟩, 3) := ⟨⟨by decide +kernel, by decide +kernel⟩, List.mem_of_getElem? (i := 74) (by decide +kernel), List.mem_of_getElem? (i := 517) (by decide +kernel), List.mem_of_getElem? (i := 518) (by decide +kernel)⟩
theorem lw_p8 : lw_okq (⟨"WaxReign$LawReader", "readsCondition", "(IZ)Z"⟩, 3) := ⟨⟨by decide +kernel, by decide +kernel⟩, List.mem_of_getElem? (i := 74) (by decide +kernel), List.mem_of_getElem? (i := 532) (by decide +kernel), List.mem_of_getElem? (i := 533) (by decide +kernel)⟩
theorem lw_p9 : lw_okq (⟨"WaxReign$LawReader", "readsUnit", "(IZ)Z"⟩, 3) := ⟨⟨by decide +kernel, by decide +kernel⟩, List.mem_of_getElem? (i := 74) (by decide +kernel), List.mem_of_getElem? (i := 536) (by decide +kernel), List.mem_of_getElem? (i := 537) (by decide +kernel)⟩
theorem lw_p10 : lw_okq (⟨"WaxReign$ReignReader", "readsStep", "(I)Z"⟩, 3) := ⟨⟨by decide +kernel, by decide +kernel⟩, List.mem_of_getElem? (i := 90) (by decide +kernel), List.mem_of_getElem? (i := 544) (by decide +kernel), List.mem_of_getElem? (i := 545) (by decide +kernel)⟩
theorem lw_p11 : lw_okq (⟨"WaxReign", "beginsKingdom", "()V"⟩, 14) := ⟨⟨by decide +kernel, by decide +kernel⟩, List.mem_of_getElem? (i := 28) (by decide +kernel), List.mem_of_getElem? (i := 559) (by decide +kernel), List.mem_of_getElem? (i := 560) (by decide +kernel)⟩
theorem lw_p12 : lw_okq (⟨"WaxReign", "does", "(III)I"⟩, 14) := ⟨⟨by decide +kernel, by decide +kernel⟩, List.mem_of_getElem? (i := 28) (by decide +kernel), List.mem_of_getElem? (i := 630) (by decide +kernel), List.mem_of_getElem? (i := 631) (by decide +kernel)⟩
theorem lw_p13 : lw_okq (⟨"WaxReign", "goesBy", "()I"⟩, 14) := ⟨⟨by decide +kernel, by decide +kernel⟩, List.mem_of_getElem? (i := 28) (by decide +kernel), List.mem_of_getElem? (i := 639) (by decide +kernel), List.mem_of_getElem? (i := 640) (by decide +kernel)⟩
theorem lw_p14 : lw_okq (⟨"WaxReign$Laws", "letterOf", "(I)I"⟩, 5) := ⟨⟨by decide +kernel, by decide +kernel⟩, List.mem_of_getElem? (i := 106) (by decide +kernel), List.mem_of_getElem? (i := 678) (by decide +kernel), List.mem_of_getElem? (i := 679) (by decide +kernel)⟩
theorem lw_p15 : lw_okq (⟨"WaxReign$Realm", "setsWax", "(II)I"⟩, 9) := ⟨⟨by decide +kernel, by decide +kernel⟩, List.mem_of_getElem? (i := 134) (by decide +kernel), List.mem_of_getElem? (i := 707) (by decide +kernel), List.mem_of_getElem? (i := 708) (by decide +kernel)⟩
def lw_privs_1 : List (MethodName × Nat) := [(⟨"WaxReign$KingdomReader", "setsWhatIsWithout", "(I)V"⟩, 3), (⟨"WaxReign$KingdomReader", "readsClause", "()Z"⟩, 3), (⟨"WaxReign$KingdomReader", "readsNumber", "(II)Z"⟩, 3), (⟨"WaxReign$KingdomReader", "isWhole", "()Z"⟩, 3), (⟨"WaxReign$LawReader", "readsClause", "()Z"⟩, 3), (⟨"WaxReign$LawReader", "readsSum", "(I)Z"⟩, 3), (⟨"WaxReign$LawReader", "readsAtom", "(I)Z"⟩, 3), (⟨"WaxReign$LawReader", "emits", "(I)V"⟩, 3), (⟨"WaxReign$LawReader", "readsCondition", "(IZ)Z"⟩, 3), (⟨"WaxReign$LawReader", "readsUnit", "(IZ)Z"⟩, 3), (⟨"WaxReign$ReignReader", "readsStep", "(I)Z"⟩, 3), (⟨"WaxReign", "beginsKingdom", "()V"⟩, 14), (⟨"WaxReign", "does", "(III)I"⟩, 14), (⟨"WaxReign", "goesBy", "()I"⟩, 14), (⟨"WaxReign$Laws", "letterOf", "(I)I"⟩, 5), (⟨"WaxReign$Realm", "setsWax", "(II)I"⟩, 9)]
theorem lw_r1 : ∀ q ∈ lw_privs_1, lw_okq q := List.forall_mem_cons.mpr ⟨lw_p0, List.forall_mem_cons.mpr ⟨lw_p1, List.forall_mem_cons.mpr ⟨lw_p2, List.forall_mem_cons.mpr ⟨lw_p3, List.forall_mem_cons.mpr ⟨lw_p4, List.forall_mem_cons.mpr ⟨lw_p5, List.forall_mem_cons.mpr ⟨lw_p6, List.forall_mem_cons.mpr ⟨lw_p7, List.forall_mem_cons.mpr ⟨lw_p8, List.forall_mem_cons.mpr ⟨lw_p9, List.forall_mem_cons.mpr ⟨lw_p10, List.forall_mem_cons.mpr ⟨lw_p11, List.forall_mem_cons.mpr ⟨lw_p12, List.forall_mem_cons.mpr ⟨lw_p13, List.forall_mem_cons.mpr ⟨lw_p14, List.forall_mem_cons.mpr ⟨lw_p15, fun _ h => absurd h List.not_mem_nil⟩⟩⟩⟩⟩⟩⟩⟩⟩⟩⟩⟩⟩⟩⟩⟩
theorem lw_p16 : lw_okq (⟨"WaxReign$Realm", "opensOwn", "(I)I"⟩, 9) := ⟨⟨by decide +kernel, by decide +kernel⟩, List.mem_of_getElem? (i := 134) (by decide +kernel), List.mem_of_getElem? (i := 720) (by decide +kernel), List.mem_of_getElem? (i := 721) (by decide +kernel)⟩
theorem lw_p17 : lw_okq (⟨"WaxReign$Realm", "carries", "(II)I"⟩, 9) := ⟨⟨by decide +kernel, by decide +kernel⟩, List.mem_of_getElem? (i := 134) (by decide +kernel), List.mem_of_getElem? (i := 724) (by decide +kernel), List.mem_of_getElem? (i := 725) (by decide +kernel)⟩
theorem lw_p18 : lw_okq (⟨"WaxReign$Realm", "setsHeat", "(I)I"⟩, 9) := ⟨⟨by decide +kernel, by decide +kernel⟩, List.mem_of_getElem? (i := 134) (by decide +kernel), List.mem_of_getElem? (i := 728) (by decide +kernel), List.mem_of_getElem? (i := 729) (by decide +kernel)⟩
theorem lw_p19 : lw_okq (⟨"WaxReign", "drawsAhead", "()V"⟩, 14) := ⟨⟨by decide +kernel, by decide +kernel⟩, List.mem_of_getElem? (i := 28) (by decide +kernel), List.mem_of_getElem? (i := 767) (by decide +kernel), List.mem_of_getElem? (i := 768) (by decide +kernel)⟩
theorem lw_p20 : lw_okq (⟨"WaxReign", "isReign", "(I)Z"⟩, 14) := ⟨⟨by decide +kernel, by decide +kernel⟩, List.mem_of_getElem? (i := 28) (by decide +kernel), List.mem_of_getElem? (i := 806) (by decide +kernel), List.mem_of_getElem? (i := 807) (by decide +kernel)⟩
theorem lw_p21 : lw_okq (⟨"WaxReign", "stepsOf", "(I)I"⟩, 14) := ⟨⟨by decide +kernel, by decide +kernel⟩, List.mem_of_getElem? (i := 28) (by decide +kernel), List.mem_of_getElem? (i := 810) (by decide +kernel), List.mem_of_getElem? (i := 811) (by decide +kernel)⟩
theorem lw_p22 : lw_okq (⟨"WaxReign", "part", "(III)I"⟩, 14) := ⟨⟨by decide +kernel, by decide +kernel⟩, List.mem_of_getElem? (i := 28) (by decide +kernel), List.mem_of_getElem? (i := 815) (by decide +kernel), List.mem_of_getElem? (i := 816) (by decide +kernel)⟩
theorem lw_p23 : lw_okq (⟨"WaxReign$Forecast", "meltsUnder", "(IIII)I"⟩, 5) := ⟨⟨by decide +kernel, by decide +kernel⟩, List.mem_of_getElem? (i := 217) (by decide +kernel), List.mem_of_getElem? (i := 851) (by decide +kernel), List.mem_of_getElem? (i := 852) (by decide +kernel)⟩
theorem lw_p24 : lw_okq (⟨"WaxReign$Forecast", "waxNeeded", "(II)I"⟩, 5) := ⟨⟨by decide +kernel, by decide +kernel⟩, List.mem_of_getElem? (i := 217) (by decide +kernel), List.mem_of_getElem? (i := 870) (by decide +kernel), List.mem_of_getElem? (i := 871) (by decide +kernel)⟩
theorem lw_p25 : lw_okq (⟨"WaxReign", "isAskedAhead", "(II)Z"⟩, 14) := ⟨⟨by decide +kernel, by decide +kernel⟩, List.mem_of_getElem? (i := 28) (by decide +kernel), List.mem_of_getElem? (i := 879) (by decide +kernel), List.mem_of_getElem? (i := 880) (by decide +kernel)⟩
theorem lw_p26 : lw_okq (⟨"WaxReign$Forecast", "depthKept", "(I)I"⟩, 5) := ⟨⟨by decide +kernel, by decide +kernel⟩, List.mem_of_getElem? (i := 217) (by decide +kernel), List.mem_of_getElem? (i := 891) (by decide +kernel), List.mem_of_getElem? (i := 892) (by decide +kernel)⟩
theorem lw_p27 : lw_okq (⟨"WaxReign$Forecast", "sortsSuns", "()V"⟩, 5) := ⟨⟨by decide +kernel, by decide +kernel⟩, List.mem_of_getElem? (i := 217) (by decide +kernel), List.mem_of_getElem? (i := 911) (by decide +kernel), List.mem_of_getElem? (i := 912) (by decide +kernel)⟩
theorem lw_p28 : lw_okq (⟨"WaxReign$Forecast", "setsPrices", "(II)V"⟩, 5) := ⟨⟨by decide +kernel, by decide +kernel⟩, List.mem_of_getElem? (i := 217) (by decide +kernel), List.mem_of_getElem? (i := 915) (by decide +kernel), List.mem_of_getElem? (i := 916) (by decide +kernel)⟩
theorem lw_p29 : lw_okq (⟨"WaxReign$Forecast", "nextInRow", "(I)I"⟩, 5) := ⟨⟨by decide +kernel, by decide +kernel⟩, List.mem_of_getElem? (i := 217) (by decide +kernel), List.mem_of_getElem? (i := 919) (by decide +kernel), List.mem_of_getElem? (i := 920) (by decide +kernel)⟩
theorem lw_p30 : lw_okq (⟨"WaxReign$Forecast", "priceBehind", "(II)I"⟩, 5) := ⟨⟨by decide +kernel, by decide +kernel⟩, List.mem_of_getElem? (i := 217) (by decide +kernel), List.mem_of_getElem? (i := 923) (by decide +kernel), List.mem_of_getElem? (i := 924) (by decide +kernel)⟩
theorem lw_p31 : lw_okq (⟨"WaxReign$Forecast", "leastRow", "()I"⟩, 5) := ⟨⟨by decide +kernel, by decide +kernel⟩, List.mem_of_getElem? (i := 217) (by decide +kernel), List.mem_of_getElem? (i := 929) (by decide +kernel), List.mem_of_getElem? (i := 930) (by decide +kernel)⟩
def lw_privs_2 : List (MethodName × Nat) := [(⟨"WaxReign$Realm", "opensOwn", "(I)I"⟩, 9), (⟨"WaxReign$Realm", "carries", "(II)I"⟩, 9), (⟨"WaxReign$Realm", "setsHeat", "(I)I"⟩, 9), (⟨"WaxReign", "drawsAhead", "()V"⟩, 14), (⟨"WaxReign", "isReign", "(I)Z"⟩, 14), (⟨"WaxReign", "stepsOf", "(I)I"⟩, 14), (⟨"WaxReign", "part", "(III)I"⟩, 14), (⟨"WaxReign$Forecast", "meltsUnder", "(IIII)I"⟩, 5), (⟨"WaxReign$Forecast", "waxNeeded", "(II)I"⟩, 5), (⟨"WaxReign", "isAskedAhead", "(II)Z"⟩, 14), (⟨"WaxReign$Forecast", "depthKept", "(I)I"⟩, 5), (⟨"WaxReign$Forecast", "sortsSuns", "()V"⟩, 5), (⟨"WaxReign$Forecast", "setsPrices", "(II)V"⟩, 5), (⟨"WaxReign$Forecast", "nextInRow", "(I)I"⟩, 5), (⟨"WaxReign$Forecast", "priceBehind", "(II)I"⟩, 5), (⟨"WaxReign$Forecast", "leastRow", "()I"⟩, 5)]
theorem lw_r2 : ∀ q ∈ lw_privs_2, lw_okq q := List.forall_mem_cons.mpr ⟨lw_p16, List.forall_mem_cons.mpr ⟨lw_p17, List.forall_mem_cons.mpr ⟨lw_p18, List.forall_mem_cons.mpr ⟨lw_p19, List.forall_mem_cons.mpr ⟨lw_p20, List.forall_mem_cons.mpr ⟨lw_p21, List.forall_mem_cons.mpr ⟨lw_p22, List.forall_mem_cons.mpr ⟨lw_p23, List.forall_mem_cons.mpr ⟨lw_p24, List.forall_mem_cons.mpr ⟨lw_p25, List.forall_mem_cons.mpr ⟨lw_p26, List.forall_mem_cons.mpr ⟨lw_p27, List.forall_mem_cons.mpr ⟨lw_p28, List.forall_mem_cons.mpr ⟨lw_p29, List.forall_mem_cons.mpr ⟨lw_p30, List.forall_mem_cons.mpr ⟨lw_p31, fun _ h => absurd h List.not_mem_nil⟩⟩⟩⟩⟩⟩⟩⟩⟩⟩⟩⟩⟩⟩⟩⟩
theorem lw_p32 : lw_okq (⟨"WaxReign$Notes", "findsFitting", "()I"⟩, 6) := ⟨⟨by decide +kernel, by decide +kernel⟩, List.mem_of_getElem? (i := 239) (by decide +kernel), List.mem_of_getElem? (i := 949) (by decide +kernel), List.mem_of_getElem? (i := 950) (by decide +kernel)⟩
theorem lw_p33 : lw_okq (⟨"WaxReign$Notes", "allIsSo", "(I)Z"⟩, 6) := ⟨⟨by decide +kernel, by decide +kernel⟩, List.mem_of_getElem? (i := 239) (by decide +kernel), List.mem_of_getElem? (i := 957) (by decide +kernel), List.mem_of_getElem? (i := 958) (by decide +kernel)⟩
theorem lw_p34 : lw_okq (⟨"WaxReign$Notes", "wouldKnow", "(III)Z"⟩, 6) := ⟨⟨by decide +kernel, by decide +kernel⟩, List.mem_of_getElem? (i := 239) (by decide +kernel), List.mem_of_getElem? (i := 961) (by decide +kernel), List.mem_of_getElem? (i := 962) (by decide +kernel)⟩
theorem lw_p35 : lw_okq (⟨"WaxReign$Notes", "apartBy", "(III)I"⟩, 6) := ⟨⟨by decide +kernel, by decide +kernel⟩, List.mem_of_getElem? (i := 239) (by decide +kernel), List.mem_of_getElem? (i := 973) (by decide +kernel), List.mem_of_getElem? (i := 974) (by decide +kernel)⟩
theorem lw_p36 : lw_okq (⟨"WaxReign$Duel", "gain", "(IIZ)I"⟩, 1) := ⟨⟨by decide +kernel, by decide +kernel⟩, List.mem_of_getElem? (i := 266) (by decide +kernel), List.mem_of_getElem? (i := 998) (by decide +kernel), List.mem_of_getElem? (i := 999) (by decide +kernel)⟩
theorem lw_p37 : lw_okq (⟨"WaxReign$Duel", "rest", "(IIIII)Z"⟩, 1) := ⟨⟨by decide +kernel, by decide +kernel⟩, List.mem_of_getElem? (i := 266) (by decide +kernel), List.mem_of_getElem? (i := 1014) (by decide +kernel), List.mem_of_getElem? (i := 1015) (by decide +kernel)⟩
theorem lw_p38 : lw_okq (⟨"java/lang/Throwable", "fillInStackTrace", "(I)Ljava/lang/Throwable;"⟩, 6) := ⟨⟨by decide +kernel, by decide +kernel⟩, List.mem_of_getElem? (i := 1157) (by decide +kernel), List.mem_of_getElem? (i := 1155) (by decide +kernel), List.mem_of_getElem? (i := 1156) (by decide +kernel)⟩
theorem lw_p39 : lw_okq (⟨"WaxReignModel", "put", "(I)V"⟩, 50) := ⟨⟨by decide +kernel, by decide +kernel⟩, List.mem_of_getElem? (i := 1187) (by decide +kernel), List.mem_of_getElem? (i := 1358) (by decide +kernel), List.mem_of_getElem? (i := 1359) (by decide +kernel)⟩
theorem lw_p40 : lw_okq (⟨"WaxReignModel", "readKingdom", "()V"⟩, 50) := ⟨⟨by decide +kernel, by decide +kernel⟩, List.mem_of_getElem? (i := 1187) (by decide +kernel), List.mem_of_getElem? (i := 1374) (by decide +kernel), List.mem_of_getElem? (i := 1375) (by decide +kernel)⟩
theorem lw_p41 : lw_okq (⟨"WaxReignModel", "starts", "([BII)V"⟩, 50) := ⟨⟨by decide +kernel, by decide +kernel⟩, List.mem_of_getElem? (i := 1187) (by decide +kernel), List.mem_of_getElem? (i := 1378) (by decide +kernel), List.mem_of_getElem? (i := 1379) (by decide +kernel)⟩
theorem lw_p42 : lw_okq (⟨"WaxReignModel", "readClause", "()V"⟩, 50) := ⟨⟨by decide +kernel, by decide +kernel⟩, List.mem_of_getElem? (i := 1187) (by decide +kernel), List.mem_of_getElem? (i := 1385) (by decide +kernel), List.mem_of_getElem? (i := 1386) (by decide +kernel)⟩
theorem lw_p43 : lw_okq (⟨"WaxReignModel", "look", "()I"⟩, 50) := ⟨⟨by decide +kernel, by decide +kernel⟩, List.mem_of_getElem? (i := 1187) (by decide +kernel), List.mem_of_getElem? (i := 1389) (by decide +kernel), List.mem_of_getElem? (i := 1390) (by decide +kernel)⟩
theorem lw_p44 : lw_okq (⟨"WaxReignModel", "fails", "()Z"⟩, 50) := ⟨⟨by decide +kernel, by decide +kernel⟩, List.mem_of_getElem? (i := 1187) (by decide +kernel), List.mem_of_getElem? (i := 1393) (by decide +kernel), List.mem_of_getElem? (i := 1394) (by decide +kernel)⟩
theorem lw_p45 : lw_okq (⟨"WaxReignModel", "readItems", "(I[IILjava/lang/String;)V"⟩, 50) := ⟨⟨by decide +kernel, by decide +kernel⟩, List.mem_of_getElem? (i := 1187) (by decide +kernel), List.mem_of_getElem? (i := 1398) (by decide +kernel), List.mem_of_getElem? (i := 1399) (by decide +kernel)⟩
theorem lw_p46 : lw_okq (⟨"WaxReignModel", "number", "(II)I"⟩, 50) := ⟨⟨by decide +kernel, by decide +kernel⟩, List.mem_of_getElem? (i := 1187) (by decide +kernel), List.mem_of_getElem? (i := 1432) (by decide +kernel), List.mem_of_getElem? (i := 1433) (by decide +kernel)⟩
theorem lw_p47 : lw_okq (⟨"WaxReignModel", "isDigit", "()Z"⟩, 50) := ⟨⟨by decide +kernel, by decide +kernel⟩, List.mem_of_getElem? (i := 1187) (by decide +kernel), List.mem_of_getElem? (i := 1436) (by decide +kernel), List.mem_of_getElem? (i := 1437) (by decide +kernel)⟩
def lw_privs_3 : List (MethodName × Nat) := [(⟨"WaxReign$Notes", "findsFitting", "()I"⟩, 6), (⟨"WaxReign$Notes", "allIsSo", "(I)Z"⟩, 6), (⟨"WaxReign$Notes", "wouldKnow", "(III)Z"⟩, 6), (⟨"WaxReign$Notes", "apartBy", "(III)I"⟩, 6), (⟨"WaxReign$Duel", "gain", "(IIZ)I"⟩, 1), (⟨"WaxReign$Duel", "rest", "(IIIII)Z"⟩, 1), (⟨"java/lang/Throwable", "fillInStackTrace", "(I)Ljava/lang/Throwable;"⟩, 6), (⟨"WaxReignModel", "put", "(I)V"⟩, 50), (⟨"WaxReignModel", "readKingdom", "()V"⟩, 50), (⟨"WaxReignModel", "starts", "([BII)V"⟩, 50), (⟨"WaxReignModel", "readClause", "()V"⟩, 50), (⟨"WaxReignModel", "look", "()I"⟩, 50), (⟨"WaxReignModel", "fails", "()Z"⟩, 50), (⟨"WaxReignModel", "readItems", "(I[IILjava/lang/String;)V"⟩, 50), (⟨"WaxReignModel", "number", "(II)I"⟩, 50), (⟨"WaxReignModel", "isDigit", "()Z"⟩, 50)]
theorem lw_r3 : ∀ q ∈ lw_privs_3, lw_okq q := List.forall_mem_cons.mpr ⟨lw_p32, List.forall_mem_cons.mpr ⟨lw_p33, List.forall_mem_cons.mpr ⟨lw_p34, List.forall_mem_cons.mpr ⟨lw_p35, List.forall_mem_cons.mpr ⟨lw_p36, List.forall_mem_cons.mpr ⟨lw_p37, List.forall_mem_cons.mpr ⟨lw_p38, List.forall_mem_cons.mpr ⟨lw_p39, List.forall_mem_cons.mpr ⟨lw_p40, List.forall_mem_cons.mpr ⟨lw_p41, List.forall_mem_cons.mpr ⟨lw_p42, List.forall_mem_cons.mpr ⟨lw_p43, List.forall_mem_cons.mpr ⟨lw_p44, List.forall_mem_cons.mpr ⟨lw_p45, List.forall_mem_cons.mpr ⟨lw_p46, List.forall_mem_cons.mpr ⟨lw_p47, fun _ h => absurd h List.not_mem_nil⟩⟩⟩⟩⟩⟩⟩⟩⟩⟩⟩⟩⟩⟩⟩⟩
theorem lw_p48 : lw_okq (⟨"WaxReignModel", "here", "()I"⟩, 50) := ⟨⟨by decide +kernel, by decide +kernel⟩, List.mem_of_getElem? (i := 1187) (by decide +kernel), List.mem_of_getElem? (i := 1440) (by decide +kernel), List.mem_of_getElem? (i := 1441) (by decide +kernel)⟩
theorem lw_p49 : lw_okq (⟨"WaxReignModel", "isWhole", "()Z"⟩, 50) := ⟨⟨by decide +kernel, by decide +kernel⟩, List.mem_of_getElem? (i := 1187) (by decide +kernel), List.mem_of_getElem? (i := 1446) (by decide +kernel), List.mem_of_getElem? (i := 1447) (by decide +kernel)⟩
theorem lw_p50 : lw_okq (⟨"WaxReignModel", "goThrough", "([BII)V"⟩, 50) := ⟨⟨by decide +kernel, by decide +kernel⟩, List.mem_of_getElem? (i := 1187) (by decide +kernel), List.mem_of_getElem? (i := 1450) (by decide +kernel), List.mem_of_getElem? (i := 1451) (by decide +kernel)⟩
theorem lw_p51 : lw_okq (⟨"WaxReignModel", "clause", "()V"⟩, 50) := ⟨⟨by decide +kernel, by decide +kernel⟩, List.mem_of_getElem? (i := 1187) (by decide +kernel), List.mem_of_getElem? (i := 1454) (by decide +kernel), List.mem_of_getElem? (i := 1455) (by decide +kernel)⟩
theorem lw_p52 : lw_okq (⟨"WaxReignModel", "takes", "(I)Z"⟩, 50) := ⟨⟨by decide +kernel, by decide +kernel⟩, List.mem_of_getElem? (i := 1187) (by decide +kernel), List.mem_of_getElem? (i := 1461) (by decide +kernel), List.mem_of_getElem? (i := 1462) (by decide +kernel)⟩
theorem lw_p53 : lw_okq (⟨"WaxReignModel", "condition", "(ZI)Z"⟩, 50) := ⟨⟨by decide +kernel, by decide +kernel⟩, List.mem_of_getElem? (i := 1187) (by decide +kernel), List.mem_of_getElem? (i := 1465) (by decide +kernel), List.mem_of_getElem? (i := 1466) (by decide +kernel)⟩
theorem lw_p54 : lw_okq (⟨"WaxReignModel", "part", "(ZI)Z"⟩, 50) := ⟨⟨by decide +kernel, by decide +kernel⟩, List.mem_of_getElem? (i := 1187) (by decide +kernel), List.mem_of_getElem? (i := 1469) (by decide +kernel), List.mem_of_getElem? (i := 1470) (by decide +kernel)⟩
theorem lw_p55 : lw_okq (⟨"WaxReignModel", "compares", "(ZI)Z"⟩, 50) := ⟨⟨by decide +kernel, by decide +kernel⟩, List.mem_of_getElem? (i := 1187) (by decide +kernel), List.mem_of_getElem? (i := 1473) (by decide +kernel), List.mem_of_getElem? (i := 1474) (by decide +kernel)⟩
theorem lw_p56 : lw_okq (⟨"WaxReignModel", "sum", "()I"⟩, 50) := ⟨⟨by decide +kernel, by decide +kernel⟩, List.mem_of_getElem? (i := 1187) (by decide +kernel), List.mem_of_getElem? (i := 1477) (by decide +kernel), List.mem_of_getElem? (i := 1478) (by decide +kernel)⟩
theorem lw_p57 : lw_okq (⟨"WaxReignModel", "term", "()I"⟩, 50) := ⟨⟨by decide +kernel, by decide +kernel⟩, List.mem_of_getElem? (i := 1187) (by decide +kernel), List.mem_of_getElem? (i := 1481) (by decide +kernel), List.mem_of_getElem? (i := 1482) (by decide +kernel)⟩
theorem lw_p58 : lw_okq (⟨"WaxReignModel", "atom", "()I"⟩, 50) := ⟨⟨by decide +kernel, by decide +kernel⟩, List.mem_of_getElem? (i := 1187) (by decide +kernel), List.mem_of_getElem? (i := 1485) (by decide +kernel), List.mem_of_getElem? (i := 1486) (by decide +kernel)⟩
theorem lw_p59 : lw_okq (⟨"WaxReignModel", "goesIn", "()Z"⟩, 50) := ⟨⟨by decide +kernel, by decide +kernel⟩, List.mem_of_getElem? (i := 1187) (by decide +kernel), List.mem_of_getElem? (i := 1489) (by decide +kernel), List.mem_of_getElem? (i := 1490) (by decide +kernel)⟩
theorem lw_p60 : lw_okq (⟨"WaxReignModel", "unit", "()Z"⟩, 50) := ⟨⟨by decide +kernel, by decide +kernel⟩, List.mem_of_getElem? (i := 1187) (by decide +kernel), List.mem_of_getElem? (i := 1503) (by decide +kernel), List.mem_of_getElem? (i := 1504) (by decide +kernel)⟩
theorem lw_p61 : lw_okq (⟨"WaxReignModel", "readReign", "()V"⟩, 50) := ⟨⟨by decide +kernel, by decide +kernel⟩, List.mem_of_getElem? (i := 1187) (by decide +kernel), List.mem_of_getElem? (i := 1507) (by decide +kernel), List.mem_of_getElem? (i := 1508) (by decide +kernel)⟩
theorem lw_p62 : lw_okq (⟨"WaxReignModel", "readStep", "(I)V"⟩, 50) := ⟨⟨by decide +kernel, by decide +kernel⟩, List.mem_of_getElem? (i := 1187) (by decide +kernel), List.mem_of_getElem? (i := 1511) (by decide +kernel), List.mem_of_getElem? (i := 1512) (by decide +kernel)⟩
theorem lw_p63 : lw_okq (⟨"WaxReignModel", "digit", "()I"⟩, 50) := ⟨⟨by decide +kernel, by decide +kernel⟩, List.mem_of_getElem? (i := 1187) (by decide +kernel), List.mem_of_getElem? (i := 1516) (by decide +kernel), List.mem_of_getElem? (i := 1517) (by decide +kernel)⟩
def lw_privs_4 : List (MethodName × Nat) := [(⟨"WaxReignModel", "here", "()I"⟩, 50), (⟨"WaxReignModel", "isWhole", "()Z"⟩, 50), (⟨"WaxReignModel", "goThrough", "([BII)V"⟩, 50), (⟨"WaxReignModel", "clause", "()V"⟩, 50), (⟨"WaxReignModel", "takes", "(I)Z"⟩, 50), (⟨"WaxReignModel", "condition", "(ZI)Z"⟩, 50), (⟨"WaxReignModel", "part", "(ZI)Z"⟩, 50), (⟨"WaxReignModel", "compares", "(ZI)Z"⟩, 50), (⟨"WaxReignModel", "sum", "()I"⟩, 50), (⟨"WaxReignModel", "term", "()I"⟩, 50), (⟨"WaxReignModel", "atom", "()I"⟩, 50), (⟨"WaxReignModel", "goesIn", "()Z"⟩, 50), (⟨"WaxReignModel", "unit", "()Z"⟩, 50), (⟨"WaxReignModel", "readReign", "()V"⟩, 50), (⟨"WaxReignModel", "readStep", "(I)V"⟩, 50), (⟨"WaxReignModel", "digit", "()I"⟩, 50)]
theorem lw_r4 : ∀ q ∈ lw_privs_4, lw_okq q := List.forall_mem_cons.mpr ⟨lw_p48, List.forall_mem_cons.mpr ⟨lw_p49, List.forall_mem_cons.mpr ⟨lw_p50, List.forall_mem_cons.mpr ⟨lw_p51, List.forall_mem_cons.mpr ⟨lw_p52, List.forall_mem_cons.mpr ⟨lw_p53, List.forall_mem_cons.mpr ⟨lw_p54, List.forall_mem_cons.mpr ⟨lw_p55, List.forall_mem_cons.mpr ⟨lw_p56, List.forall_mem_cons.mpr ⟨lw_p57, List.forall_mem_cons.mpr ⟨lw_p58, List.forall_mem_cons.mpr ⟨lw_p59, List.forall_mem_cons.mpr ⟨lw_p60, List.forall_mem_cons.mpr ⟨lw_p61, List.forall_mem_cons.mpr ⟨lw_p62, List.forall_mem_cons.mpr ⟨lw_p63, fun _ h => absurd h List.not_mem_nil⟩⟩⟩⟩⟩⟩⟩⟩⟩⟩⟩⟩⟩⟩⟩⟩
theorem lw_p64 : lw_okq (⟨"WaxReignModel", "begins0", "()V"⟩, 50) := ⟨⟨by decide +kernel, by decide +kernel⟩, List.mem_of_getElem? (i := 1187) (by decide +kernel), List.mem_of_getElem? (i := 1525) (by decide +kernel), List.mem_of_getElem? (i := 1526) (by decide +kernel)⟩
theorem lw_p65 : lw_okq (⟨"WaxReignModel", "isThing", "(I)Z"⟩, 50) := ⟨⟨by decide +kernel, by decide +kernel⟩, List.mem_of_getElem? (i := 1187) (by decide +kernel), List.mem_of_getElem? (i := 1537) (by decide +kernel), List.mem_of_getElem? (i := 1538) (by decide +kernel)⟩
theorem lw_p66 : lw_okq (⟨"WaxReignModel", "holds", "([II)I"⟩, 50) := ⟨⟨by decide +kernel, by decide +kernel⟩, List.mem_of_getElem? (i := 1187) (by decide +kernel), List.mem_of_getElem? (i := 1542) (by decide +kernel), List.mem_of_getElem? (i := 1543) (by decide +kernel)⟩
theorem lw_p67 : lw_okq (⟨"WaxReignModel", "of", "(II)I"⟩, 50) := ⟨⟨by decide +kernel, by decide +kernel⟩, List.mem_of_getElem? (i := 1187) (by decide +kernel), List.mem_of_getElem? (i := 1546) (by decide +kernel), List.mem_of_getElem? (i := 1547) (by decide +kernel)⟩
theorem lw_p68 : lw_okq (⟨"WaxReignModel", "worthOf", "(IIIIII)I"⟩, 50) := ⟨⟨by decide +kernel, by decide +kernel⟩, List.mem_of_getElem? (i := 1187) (by decide +kernel), List.mem_of_getElem? (i := 1550) (by decide +kernel), List.mem_of_getElem? (i := 1551) (by decide +kernel)⟩
theorem lw_p69 : lw_okq (⟨"WaxReignModel", "isRing", "(I)Z"⟩, 50) := ⟨⟨by decide +kernel, by decide +kernel⟩, List.mem_of_getElem? (i := 1187) (by decide +kernel), List.mem_of_getElem? (i := 1564) (by decide +kernel), List.mem_of_getElem? (i := 1565) (by decide +kernel)⟩
theorem lw_p70 : lw_okq (⟨"WaxReignModel", "remember", "()V"⟩, 50) := ⟨⟨by decide +kernel, by decide +kernel⟩, List.mem_of_getElem? (i := 1187) (by decide +kernel), List.mem_of_getElem? (i := 1581) (by decide +kernel), List.mem_of_getElem? (i := 1582) (by decide +kernel)⟩
theorem lw_p71 : lw_okq (⟨"WaxReignModel", "goMonth", "([I)I"⟩, 50) := ⟨⟨by decide +kernel, by decide +kernel⟩, List.mem_of_getElem? (i := 1187) (by decide +kernel), List.mem_of_getElem? (i := 1585) (by decide +kernel), List.mem_of_getElem? (i := 1586) (by decide +kernel)⟩
theorem lw_p72 : lw_okq (⟨"WaxReignModel", "canSeal", "([III)Z"⟩, 50) := ⟨⟨by decide +kernel, by decide +kernel⟩, List.mem_of_getElem? (i := 1187) (by decide +kernel), List.mem_of_getElem? (i := 1600) (by decide +kernel), List.mem_of_getElem? (i := 1601) (by decide +kernel)⟩
theorem lw_p73 : lw_okq (⟨"WaxReignModel", "isShut", "([II)Z"⟩, 50) := ⟨⟨by decide +kernel, by decide +kernel⟩, List.mem_of_getElem? (i := 1187) (by decide +kernel), List.mem_of_getElem? (i := 1611) (by decide +kernel), List.mem_of_getElem? (i := 1612) (by decide +kernel)⟩
theorem lw_p74 : lw_okq (⟨"WaxReignModel", "canPry", "([III)Z"⟩, 50) := ⟨⟨by decide +kernel, by decide +kernel⟩, List.mem_of_getElem? (i := 1187) (by decide +kernel), List.mem_of_getElem? (i := 1622) (by decide +kernel), List.mem_of_getElem? (i := 1623) (by decide +kernel)⟩
theorem lw_p75 : lw_okq (⟨"WaxReignModel", "draw", "(I)I"⟩, 50) := ⟨⟨by decide +kernel, by decide +kernel⟩, List.mem_of_getElem? (i := 1187) (by decide +kernel), List.mem_of_getElem? (i := 1646) (by decide +kernel), List.mem_of_getElem? (i := 1647) (by decide +kernel)⟩
theorem lw_p76 : lw_okq (⟨"WaxReignModel", "isPlan", "(I)Z"⟩, 50) := ⟨⟨by decide +kernel, by decide +kernel⟩, List.mem_of_getElem? (i := 1187) (by decide +kernel), List.mem_of_getElem? (i := 1664) (by decide +kernel), List.mem_of_getElem? (i := 1665) (by decide +kernel)⟩
theorem lw_p77 : lw_okq (⟨"WaxReignModel", "canStep", "([II)Z"⟩, 50) := ⟨⟨by decide +kernel, by decide +kernel⟩, List.mem_of_getElem? (i := 1187) (by decide +kernel), List.mem_of_getElem? (i := 1676) (by decide +kernel), List.mem_of_getElem? (i := 1677) (by decide +kernel)⟩
theorem lw_p78 : lw_okq (⟨"WaxReignModel", "goStep", "([II)V"⟩, 50) := ⟨⟨by decide +kernel, by decide +kernel⟩, List.mem_of_getElem? (i := 1187) (by decide +kernel), List.mem_of_getElem? (i := 1680) (by decide +kernel), List.mem_of_getElem? (i := 1681) (by decide +kernel)⟩
theorem lw_p79 : lw_okq (⟨"WaxReignModel", "meltsNow", "(II)I"⟩, 50) := ⟨⟨by decide +kernel, by decide +kernel⟩, List.mem_of_getElem? (i := 1187) (by decide +kernel), List.mem_of_getElem? (i := 1696) (by decide +kernel), List.mem_of_getElem? (i := 1697) (by decide +kernel)⟩
def lw_privs_5 : List (MethodName × Nat) := [(⟨"WaxReignModel", "begins0", "()V"⟩, 50), (⟨"WaxReignModel", "isThing", "(I)Z"⟩, 50), (⟨"WaxReignModel", "holds", "([II)I"⟩, 50), (⟨"WaxReignModel", "of", "(II)I"⟩, 50), (⟨"WaxReignModel", "worthOf", "(IIIIII)I"⟩, 50), (⟨"WaxReignModel", "isRing", "(I)Z"⟩, 50), (⟨"WaxReignModel", "remember", "()V"⟩, 50), (⟨"WaxReignModel", "goMonth", "([I)I"⟩, 50), (⟨"WaxReignModel", "canSeal", "([III)Z"⟩, 50), (⟨"WaxReignModel", "isShut", "([II)Z"⟩, 50), (⟨"WaxReignModel", "canPry", "([III)Z"⟩, 50), (⟨"WaxReignModel", "draw", "(I)I"⟩, 50), (⟨"WaxReignModel", "isPlan", "(I)Z"⟩, 50), (⟨"WaxReignModel", "canStep", "([II)Z"⟩, 50), (⟨"WaxReignModel", "goStep", "([II)V"⟩, 50), (⟨"WaxReignModel", "meltsNow", "(II)I"⟩, 50)]
theorem lw_r5 : ∀ q ∈ lw_privs_5, lw_okq q := List.forall_mem_cons.mpr ⟨lw_p64, List.forall_mem_cons.mpr ⟨lw_p65, List.forall_mem_cons.mpr ⟨lw_p66, List.forall_mem_cons.mpr ⟨lw_p67, List.forall_mem_cons.mpr ⟨lw_p68, List.forall_mem_cons.mpr ⟨lw_p69, List.forall_mem_cons.mpr ⟨lw_p70, List.forall_mem_cons.mpr ⟨lw_p71, List.forall_mem_cons.mpr ⟨lw_p72, List.forall_mem_cons.mpr ⟨lw_p73, List.forall_mem_cons.mpr ⟨lw_p74, List.forall_mem_cons.mpr ⟨lw_p75, List.forall_mem_cons.mpr ⟨lw_p76, List.forall_mem_cons.mpr ⟨lw_p77, List.forall_mem_cons.mpr ⟨lw_p78, List.forall_mem_cons.mpr ⟨lw_p79, fun _ h => absurd h List.not_mem_nil⟩⟩⟩⟩⟩⟩⟩⟩⟩⟩⟩⟩⟩⟩⟩⟩
theorem lw_p80 : lw_okq (⟨"WaxReignModel", "meltsIn", "(IIIII)I"⟩, 50) := ⟨⟨by decide +kernel, by decide +kernel⟩, List.mem_of_getElem? (i := 1187) (by decide +kernel), List.mem_of_getElem? (i := 1700) (by decide +kernel), List.mem_of_getElem? (i := 1701) (by decide +kernel)⟩
theorem lw_p81 : lw_okq (⟨"WaxReignModel", "holdsBy", "(IIIII)I"⟩, 50) := ⟨⟨by decide +kernel, by decide +kernel⟩, List.mem_of_getElem? (i := 1187) (by decide +kernel), List.mem_of_getElem? (i := 1704) (by decide +kernel), List.mem_of_getElem? (i := 1705) (by decide +kernel)⟩
theorem lw_p82 : lw_okq (⟨"WaxReignModel", "needs", "(II)I"⟩, 50) := ⟨⟨by decide +kernel, by decide +kernel⟩, List.mem_of_getElem? (i := 1187) (by decide +kernel), List.mem_of_getElem? (i := 1716) (by decide +kernel), List.mem_of_getElem? (i := 1717) (by decide +kernel)⟩
theorem lw_p83 : lw_okq (⟨"WaxReignModel", "goDealt", "(IIII)V"⟩, 50) := ⟨⟨by decide +kernel, by decide +kernel⟩, List.mem_of_getElem? (i := 1187) (by decide +kernel), List.mem_of_getElem? (i := 1732) (by decide +kernel), List.mem_of_getElem? (i := 1733) (by decide +kernel)⟩
theorem lw_p84 : lw_okq (⟨"WaxReignModel", "fits", "(I)Z"⟩, 50) := ⟨⟨by decide +kernel, by decide +kernel⟩, List.mem_of_getElem? (i := 1187) (by decide +kernel), List.mem_of_getElem? (i := 1744) (by decide +kernel), List.mem_of_getElem? (i := 1745) (by decide +kernel)⟩
theorem lw_p85 : lw_okq (⟨"WaxReignModel", "isCode", "(I)Z"⟩, 50) := ⟨⟨by decide +kernel, by decide +kernel⟩, List.mem_of_getElem? (i := 1187) (by decide +kernel), List.mem_of_getElem? (i := 1748) (by decide +kernel), List.mem_of_getElem? (i := 1749) (by decide +kernel)⟩
theorem lw_p86 : lw_okq (⟨"WaxReignModel", "knowsBy", "(III)Z"⟩, 50) := ⟨⟨by decide +kernel, by decide +kernel⟩, List.mem_of_getElem? (i := 1187) (by decide +kernel), List.mem_of_getElem? (i := 1752) (by decide +kernel), List.mem_of_getElem? (i := 1753) (by decide +kernel)⟩
theorem lw_p87 : lw_okq (⟨"WaxReignModel", "isGame", "(III)Z"⟩, 50) := ⟨⟨by decide +kernel, by decide +kernel⟩, List.mem_of_getElem? (i := 1187) (by decide +kernel), List.mem_of_getElem? (i := 1765) (by decide +kernel), List.mem_of_getElem? (i := 1766) (by decide +kernel)⟩
theorem lw_p88 : lw_okq (⟨"WaxReignModel", "gameOf", "(IIIIII)I"⟩, 50) := ⟨⟨by decide +kernel, by decide +kernel⟩, List.mem_of_getElem? (i := 1187) (by decide +kernel), List.mem_of_getElem? (i := 1769) (by decide +kernel), List.mem_of_getElem? (i := 1770) (by decide +kernel)⟩
theorem lw_p89 : lw_okq (⟨"WaxReignModel", "greatest", "(I)I"⟩, 50) := ⟨⟨by decide +kernel, by decide +kernel⟩, List.mem_of_getElem? (i := 1187) (by decide +kernel), List.mem_of_getElem? (i := 1786) (by decide +kernel), List.mem_of_getElem? (i := 1787) (by decide +kernel)⟩
theorem lw_p90 : lw_okq (⟨"WaxReignModel", "valueOf", "(II)I"⟩, 50) := ⟨⟨by decide +kernel, by decide +kernel⟩, List.mem_of_getElem? (i := 1187) (by decide +kernel), List.mem_of_getElem? (i := 1790) (by decide +kernel), List.mem_of_getElem? (i := 1791) (by decide +kernel)⟩
theorem lw_p91 : lw_okq (⟨"WaxReignModel", "greatestRing", "(I)I"⟩, 50) := ⟨⟨by decide +kernel, by decide +kernel⟩, List.mem_of_getElem? (i := 1187) (by decide +kernel), List.mem_of_getElem? (i := 1794) (by decide +kernel), List.mem_of_getElem? (i := 1795) (by decide +kernel)⟩
def lw_privs_6 : List (MethodName × Nat) := [(⟨"WaxReignModel", "meltsIn", "(IIIII)I"⟩, 50), (⟨"WaxReignModel", "holdsBy", "(IIIII)I"⟩, 50), (⟨"WaxReignModel", "needs", "(II)I"⟩, 50), (⟨"WaxReignModel", "goDealt", "(IIII)V"⟩, 50), (⟨"WaxReignModel", "fits", "(I)Z"⟩, 50), (⟨"WaxReignModel", "isCode", "(I)Z"⟩, 50), (⟨"WaxReignModel", "knowsBy", "(III)Z"⟩, 50), (⟨"WaxReignModel", "isGame", "(III)Z"⟩, 50), (⟨"WaxReignModel", "gameOf", "(IIIIII)I"⟩, 50), (⟨"WaxReignModel", "greatest", "(I)I"⟩, 50), (⟨"WaxReignModel", "valueOf", "(II)I"⟩, 50), (⟨"WaxReignModel", "greatestRing", "(I)I"⟩, 50)]
theorem lw_r6 : ∀ q ∈ lw_privs_6, lw_okq q := List.forall_mem_cons.mpr ⟨lw_p80, List.forall_mem_cons.mpr ⟨lw_p81, List.forall_mem_cons.mpr ⟨lw_p82, List.forall_mem_cons.mpr ⟨lw_p83, List.forall_mem_cons.mpr ⟨lw_p84, List.forall_mem_cons.mpr ⟨lw_p85, List.forall_mem_cons.mpr ⟨lw_p86, List.forall_mem_cons.mpr ⟨lw_p87, List.forall_mem_cons.mpr ⟨lw_p88, List.forall_mem_cons.mpr ⟨lw_p89, List.forall_mem_cons.mpr ⟨lw_p90, List.forall_mem_cons.mpr ⟨lw_p91, fun _ h => absurd h List.not_mem_nil⟩⟩⟩⟩⟩⟩⟩⟩⟩⟩⟩⟩
def lw_privs : List (MethodName × Nat) := lw_privs_1 ++ (lw_privs_2 ++ (lw_privs_3 ++ (lw_privs_4 ++ (lw_privs_5 ++ (lw_privs_6)))))
def lw_tbl : List Cond := k2_sels lw_privs ++ tables_1
theorem lw_privs_ok : ∀ q ∈ lw_privs, lw_okq q := by
  show ∀ q ∈ lw_privs_1 ++ (lw_privs_2 ++ (lw_privs_3 ++ (lw_privs_4 ++ (lw_privs_5 ++ (lw_privs_6))))), lw_okq q
  exact List.forall_mem_append.mpr ⟨lw_r1, List.forall_mem_append.mpr ⟨lw_r2, List.forall_mem_append.mpr ⟨lw_r3, List.forall_mem_append.mpr ⟨lw_r4, List.forall_mem_append.mpr ⟨lw_r5, lw_r6⟩⟩⟩⟩⟩
/-- the words that stay good at every later state -/
def aw_tbl : List Cond := lw_tbl.filter goodWord
theorem aw_in {w : Cond} (i : Nat) (h : lw_tbl[i]? = some w) (hg : goodWord w = true) : w ∈ aw_tbl := List.mem_filter.mpr ⟨List.mem_of_getElem? h, hg⟩
theorem aw_goodIn : GoodIn aw_tbl aw_tbl := fun w hw => ⟨hw, good_of_word (List.mem_filter.mp hw).2⟩
theorem aw_sub {w : Cond} (h : w ∈ aw_tbl) : w ∈ lw_tbl := (List.mem_filter.mp h).1
def kR0 : String := "WaxReign$Chronicle"
def kT0 : u_T := fun k => match k with
  | 0 => ("WaxReign$Chronicle", "entries", "[I", true)
  | 1 => ("WaxReign$Chronicle", "before", "[I", true)
  | 2 => ("WaxReign$Chronicle", "undoable", "[I", true)
  | 3 => ("WaxReign$Chronicle", "next", "I", false)
  | 4 => ("WaxReign$Chronicle", "acts", "I", false)
  | 5 => ("WaxReign$Chronicle", "imaged", "[I", true)
  | 6 => ("WaxReign$Chronicle", "imagedEntries", "[I", true)
  | _ => ("WaxReign$Chronicle", "drawn", "Z", false)
def kY0 : Nat → FieldType := fun k => match k with
  | 0 => (.array .int)
  | 1 => (.array .int)
  | 2 => (.array .int)
  | 3 => .int
  | 4 => .int
  | 5 => (.array .int)
  | 6 => (.array .int)
  | _ => .boolean
theorem kN0 : ∀ a, a < 8 → ∀ b, b < 8 → a ≠ b → (kT0 a).2.1 ≠ (kT0 b).2.1 := by decide +kernel
theorem kO0 : ∀ k, k < 8 → parseFieldDescriptor (kT0 k).2.2.1 = some (kY0 k) := by decide +kernel
theorem kI0 : ∀ w ∈ u_ws kR0 kT0 8, w ∈ aw_tbl := by decide +kernel
def kR1 : String := "WaxReign$Draws"
def kT1 : u_T := fun k => match k with
  | _ => ("WaxReign$Draws", "drawn", "J", false)
def kY1 : Nat → FieldType := fun k => match k with
  | _ => .long
theorem kN1 : ∀ a, a < 1 → ∀ b, b < 1 → a ≠ b → (kT1 a).2.1 ≠ (kT1 b).2.1 := by decide +kernel
theorem kO1 : ∀ k, k < 1 → parseFieldDescriptor (kT1 k).2.2.1 = some (kY1 k) := by decide +kernel
theorem kI1 : ∀ w ∈ u_ws kR1 kT1 1, w ∈ aw_tbl := by decide +kernel
def kR2 : String := "WaxReign$Duel"
def kT2 : u_T := fun k => match k with
  | _ => ("WaxReign$Duel", "realm", "LWaxReign$Realm;", true)
def kY2 : Nat → FieldType := fun k => match k with
  | _ => (.object "WaxReign$Realm")
theorem kN2 : ∀ a, a < 1 → ∀ b, b < 1 → a ≠ b → (kT2 a).2.1 ≠ (kT2 b).2.1 := by decide +kernel
theorem kO2 : ∀ k, k < 1 → parseFieldDescriptor (kT2 k).2.2.1 = some (kY2 k) := by decide +kernel
theorem kI2 : ∀ w ∈ u_ws kR2 kT2 1, w ∈ aw_tbl := by decide +kernel
def kR3 : String := "WaxReign$Forecast"
def kT3 : u_T := fun k => match k with
  | 0 => ("WaxReign$Forecast", "realm", "LWaxReign$Realm;", true)
  | 1 => ("WaxReign$Forecast", "needs", "[I", true)
  | 2 => ("WaxReign$Forecast", "suns", "[I", true)
  | 3 => ("WaxReign$Forecast", "prices", "[I", true)
  | _ => ("WaxReign$Forecast", "leastPrice", "[I", true)
def kY3 : Nat → FieldType := fun k => match k with
  | 0 => (.object "WaxReign$Realm")
  | 1 => (.array .int)
  | 2 => (.array .int)
  | 3 => (.array .int)
  | _ => (.array .int)
theorem kN3 : ∀ a, a < 5 → ∀ b, b < 5 → a ≠ b → (kT3 a).2.1 ≠ (kT3 b).2.1 := by decide +kernel
theorem kO3 : ∀ k, k < 5 → parseFieldDescriptor (kT3 k).2.2.1 = some (kY3 k) := by decide +kernel
theorem kI3 : ∀ w ∈ u_ws kR3 kT3 5, w ∈ aw_tbl := by decide +kernel
def kR4 : String := "WaxReign$KingdomReader"
def kT4 : u_T := fun k => match k with
  | 0 => ("WaxReign$KingdomReader", "tape", "LWaxReign$Tape;", true)
  | 1 => ("WaxReign$KingdomReader", "rows", "[I", true)
  | _ => ("WaxReign$KingdomReader", "clauses", "[I", true)
def kY4 : Nat → FieldType := fun k => match k with
  | 0 => (.object "WaxReign$Tape")
  | 1 => (.array .int)
  | _ => (.array .int)
theorem kN4 : ∀ a, a < 3 → ∀ b, b < 3 → a ≠ b → (kT4 a).2.1 ≠ (kT4 b).2.1 := by decide +kernel
theorem kO4 : ∀ k, k < 3 → parseFieldDescriptor (kT4 k).2.2.1 = some (kY4 k) := by decide +kernel
theorem kI4 : ∀ w ∈ u_ws kR4 kT4 3, w ∈ aw_tbl := by decide +kernel
def kR5 : String := "WaxReign$LawReader"
def kT5 : u_T := fun k => match k with
  | 0 => ("WaxReign$LawReader", "tape", "LWaxReign$Tape;", true)
  | 1 => ("WaxReign$LawReader", "code", "[I", true)
  | _ => ("WaxReign$LawReader", "length", "I", false)
def kY5 : Nat → FieldType := fun k => match k with
  | 0 => (.object "WaxReign$Tape")
  | 1 => (.array .int)
  | _ => .int
theorem kN5 : ∀ a, a < 3 → ∀ b, b < 3 → a ≠ b → (kT5 a).2.1 ≠ (kT5 b).2.1 := by decide +kernel
theorem kO5 : ∀ k, k < 3 → parseFieldDescriptor (kT5 k).2.2.1 = some (kY5 k) := by decide +kernel
theorem kI5 : ∀ w ∈ u_ws kR5 kT5 3, w ∈ aw_tbl := by decide +kernel
def kR6 : String := "WaxReign$Laws"
def kT6 : u_T := fun k => match k with
  | 0 => ("WaxReign$Laws", "codes", "[[I", true)
  | 1 => ("WaxReign$Laws", "stack", "[I", true)
  | 2 => ("WaxReign$Laws", "letters", "[I", true)
  | 3 => ("WaxReign$Laws", "told", "I", false)
  | _ => ("WaxReign$Laws", "inForce", "I", false)
def kY6 : Nat → FieldType := fun k => match k with
  | 0 => (.array (.array .int))
  | 1 => (.array .int)
  | 2 => (.array .int)
  | 3 => .int
  | _ => .int
theorem kN6 : ∀ a, a < 5 → ∀ b, b < 5 → a ≠ b → (kT6 a).2.1 ≠ (kT6 b).2.1 := by decide +kernel
theorem kO6 : ∀ k, k < 5 → parseFieldDescriptor (kT6 k).2.2.1 = some (kY6 k) := by decide +kernel
theorem kI6 : ∀ w ∈ u_ws kR6 kT6 5, w ∈ aw_tbl := by decide +kernel
def kR7 : String := "WaxReign$Notes"
def kT7 : u_T := fun k => match k with
  | 0 => ("WaxReign$Notes", "realm", "LWaxReign$Realm;", true)
  | 1 => ("WaxReign$Notes", "ringOf", "[I", true)
  | 2 => ("WaxReign$Notes", "thingOf", "[I", true)
  | 3 => ("WaxReign$Notes", "knownBy", "[Z", true)
  | 4 => ("WaxReign$Notes", "told", "I", false)
  | _ => ("WaxReign$Notes", "fits", "[I", true)
def kY7 : Nat → FieldType := fun k => match k with
  | 0 => (.object "WaxReign$Realm")
  | 1 => (.array .int)
  | 2 => (.array .int)
  | 3 => (.array .boolean)
  | 4 => .int
  | _ => (.array .int)
theorem kN7 : ∀ a, a < 6 → ∀ b, b < 6 → a ≠ b → (kT7 a).2.1 ≠ (kT7 b).2.1 := by decide +kernel
theorem kO7 : ∀ k, k < 6 → parseFieldDescriptor (kT7 k).2.2.1 = some (kY7 k) := by decide +kernel
theorem kI7 : ∀ w ∈ u_ws kR7 kT7 6, w ∈ aw_tbl := by decide +kernel
def kR8 : String := "WaxReign$Realm"
def kT8 : u_T := fun k => match k with
  | 0 => ("WaxReign$Realm", "laws", "LWaxReign$Laws;", true)
  | 1 => ("WaxReign$Realm", "now", "[I", true)
  | 2 => ("WaxReign$Realm", "aside", "[I", true)
  | 3 => ("WaxReign$Realm", "owner", "[I", true)
  | 4 => ("WaxReign$Realm", "hard", "[I", true)
  | 5 => ("WaxReign$Realm", "deep", "[I", true)
  | 6 => ("WaxReign$Realm", "things", "I", false)
  | 7 => ("WaxReign$Realm", "rings", "I", false)
  | _ => ("WaxReign$Realm", "bees", "I", false)
def kY8 : Nat → FieldType := fun k => match k with
  | 0 => (.object "WaxReign$Laws")
  | 1 => (.array .int)
  | 2 => (.array .int)
  | 3 => (.array .int)
  | 4 => (.array .int)
  | 5 => (.array .int)
  | 6 => .int
  | 7 => .int
  | _ => .int
theorem kN8 : ∀ a, a < 9 → ∀ b, b < 9 → a ≠ b → (kT8 a).2.1 ≠ (kT8 b).2.1 := by decide +kernel
theorem kO8 : ∀ k, k < 9 → parseFieldDescriptor (kT8 k).2.2.1 = some (kY8 k) := by decide +kernel
theorem kI8 : ∀ w ∈ u_ws kR8 kT8 9, w ∈ aw_tbl := by decide +kernel
def kR9 : String := "WaxReign$ReignReader"
def kT9 : u_T := fun k => match k with
  | 0 => ("WaxReign$ReignReader", "tape", "LWaxReign$Tape;", true)
  | 1 => ("WaxReign$ReignReader", "steps", "[I", true)
  | _ => ("WaxReign$ReignReader", "told", "I", false)
def kY9 : Nat → FieldType := fun k => match k with
  | 0 => (.object "WaxReign$Tape")
  | 1 => (.array .int)
  | _ => .int
theorem kN9 : ∀ a, a < 3 → ∀ b, b < 3 → a ≠ b → (kT9 a).2.1 ≠ (kT9 b).2.1 := by decide +kernel
theorem kO9 : ∀ k, k < 3 → parseFieldDescriptor (kT9 k).2.2.1 = some (kY9 k) := by decide +kernel
theorem kI9 : ∀ w ∈ u_ws kR9 kT9 3, w ∈ aw_tbl := by decide +kernel
def kR10 : String := "WaxReign$Tape"
def kT10 : u_T := fun k => match k with
  | 0 => ("WaxReign$Tape", "bytes", "[I", true)
  | 1 => ("WaxReign$Tape", "length", "I", false)
  | _ => ("WaxReign$Tape", "at", "I", false)
def kY10 : Nat → FieldType := fun k => match k with
  | 0 => (.array .int)
  | 1 => .int
  | _ => .int
theorem kN10 : ∀ a, a < 3 → ∀ b, b < 3 → a ≠ b → (kT10 a).2.1 ≠ (kT10 b).2.1 := by decide +kernel
theorem kO10 : ∀ k, k < 3 → parseFieldDescriptor (kT10 k).2.2.1 = some (kY10 k) := by decide +kernel
theorem kI10 : ∀ w ∈ u_ws kR10 kT10 3, w ∈ aw_tbl := by decide +kernel
def kR11 : String := "WaxReign"
def kT11 : u_T := fun k => match k with
  | 0 => ("WaxReign", "tape", "LWaxReign$Tape;", true)
  | 1 => ("WaxReign", "kingdomReader", "LWaxReign$KingdomReader;", true)
  | 2 => ("WaxReign", "lawReader", "LWaxReign$LawReader;", true)
  | 3 => ("WaxReign", "reignReader", "LWaxReign$ReignReader;", true)
  | 4 => ("WaxReign", "laws", "LWaxReign$Laws;", true)
  | 5 => ("WaxReign", "reigns", "[[I", true)
  | 6 => ("WaxReign", "reignsTold", "I", false)
  | 7 => ("WaxReign", "knivesNow", "I", false)
  | 8 => ("WaxReign", "realm", "LWaxReign$Realm;", true)
  | 9 => ("WaxReign", "chronicle", "LWaxReign$Chronicle;", true)
  | 10 => ("WaxReign", "forecast", "LWaxReign$Forecast;", true)
  | 11 => ("WaxReign", "notes", "LWaxReign$Notes;", true)
  | 12 => ("WaxReign", "duel", "LWaxReign$Duel;", true)
  | _ => ("WaxReign", "draws", "LWaxReign$Draws;", true)
def kY11 : Nat → FieldType := fun k => match k with
  | 0 => (.object "WaxReign$Tape")
  | 1 => (.object "WaxReign$KingdomReader")
  | 2 => (.object "WaxReign$LawReader")
  | 3 => (.object "WaxReign$ReignReader")
  | 4 => (.object "WaxReign$Laws")
  | 5 => (.array (.array .int))
  | 6 => .int
  | 7 => .int
  | 8 => (.object "WaxReign$Realm")
  | 9 => (.object "WaxReign$Chronicle")
  | 10 => (.object "WaxReign$Forecast")
  | 11 => (.object "WaxReign$Notes")
  | 12 => (.object "WaxReign$Duel")
  | _ => (.object "WaxReign$Draws")
theorem kN11 : ∀ a, a < 14 → ∀ b, b < 14 → a ≠ b → (kT11 a).2.1 ≠ (kT11 b).2.1 := by decide +kernel
theorem kO11 : ∀ k, k < 14 → parseFieldDescriptor (kT11 k).2.2.1 = some (kY11 k) := by decide +kernel
theorem kI11 : ∀ w ∈ u_ws kR11 kT11 14, w ∈ aw_tbl := by decide +kernel
def kR12 : String := "WaxReignModel"
def kT12 : u_T := fun k => match k with
  | 0 => ("WaxReignModel", "thrown", "I", false)
  | 1 => ("WaxReignModel", "tape", "[B", true)
  | 2 => ("WaxReignModel", "texts", "[B", true)
  | 3 => ("WaxReignModel", "textLong", "[I", true)
  | 4 => ("WaxReignModel", "letters", "[I", true)
  | 5 => ("WaxReignModel", "text", "[B", false)
  | 6 => ("WaxReignModel", "length", "I", false)
  | 7 => ("WaxReignModel", "lawMany", "I", false)
  | 8 => ("WaxReignModel", "begins", "I", false)
  | 9 => ("WaxReignModel", "ends", "I", false)
  | 10 => ("WaxReignModel", "at", "I", false)
  | 11 => ("WaxReignModel", "fault", "I", false)
  | 12 => ("WaxReignModel", "deep", "I", false)
  | 13 => ("WaxReignModel", "label", "I", false)
  | 14 => ("WaxReignModel", "found", "I", false)
  | 15 => ("WaxReignModel", "labels", "Ljava/lang/String;", true)
  | 16 => ("WaxReignModel", "allowed", "Ljava/lang/String;", true)
  | 17 => ("WaxReignModel", "hasFound", "Z", false)
  | 18 => ("WaxReignModel", "rule", "[I", true)
  | 19 => ("WaxReignModel", "ruleRead", "[I", true)
  | 20 => ("WaxReignModel", "told", "[I", true)
  | 21 => ("WaxReignModel", "toldRead", "[I", true)
  | 22 => ("WaxReignModel", "skill", "[I", true)
  | 23 => ("WaxReignModel", "skillRead", "[I", true)
  | 24 => ("WaxReignModel", "plan", "[I", true)
  | 25 => ("WaxReignModel", "planLong", "[I", true)
  | 26 => ("WaxReignModel", "things", "I", false)
  | 27 => ("WaxReignModel", "rings", "I", false)
  | 28 => ("WaxReignModel", "thingsRead", "I", false)
  | 29 => ("WaxReignModel", "ringsRead", "I", false)
  | 30 => ("WaxReignModel", "plans", "I", false)
  | 31 => ("WaxReignModel", "hasRules", "Z", false)
  | 32 => ("WaxReignModel", "now", "[I", true)
  | 33 => ("WaxReignModel", "trial", "[I", true)
  | 34 => ("WaxReignModel", "law", "I", false)
  | 35 => ("WaxReignModel", "knifed", "I", false)
  | 36 => ("WaxReignModel", "memoKey", "[J", true)
  | 37 => ("WaxReignModel", "memoWorth", "[I", true)
  | 38 => ("WaxReignModel", "undoRow", "[I", true)
  | 39 => ("WaxReignModel", "acts", "I", false)
  | 40 => ("WaxReignModel", "x", "J", false)
  | 41 => ("WaxReignModel", "costs", "[I", true)
  | 42 => ("WaxReignModel", "suns", "[I", true)
  | 43 => ("WaxReignModel", "melts", "[I", true)
  | 44 => ("WaxReignModel", "dealtRow", "I", false)
  | 45 => ("WaxReignModel", "dealtWorth", "I", false)
  | 46 => ("WaxReignModel", "note", "[I", true)
  | 47 => ("WaxReignModel", "notes", "I", false)
  | 48 => ("WaxReignModel", "imageRow", "[I", true)
  | _ => ("WaxReignModel", "hasImage", "Z", false)
def kY12 : Nat → FieldType := fun k => match k with
  | 0 => .int
  | 1 => (.array .byte)
  | 2 => (.array .byte)
  | 3 => (.array .int)
  | 4 => (.array .int)
  | 5 => (.array .byte)
  | 6 => .int
  | 7 => .int
  | 8 => .int
  | 9 => .int
  | 10 => .int
  | 11 => .int
  | 12 => .int
  | 13 => .int
  | 14 => .int
  | 15 => (.object "java/lang/String")
  | 16 => (.object "java/lang/String")
  | 17 => .boolean
  | 18 => (.array .int)
  | 19 => (.array .int)
  | 20 => (.array .int)
  | 21 => (.array .int)
  | 22 => (.array .int)
  | 23 => (.array .int)
  | 24 => (.array .int)
  | 25 => (.array .int)
  | 26 => .int
  | 27 => .int
  | 28 => .int
  | 29 => .int
  | 30 => .int
  | 31 => .boolean
  | 32 => (.array .int)
  | 33 => (.array .int)
  | 34 => .int
  | 35 => .int
  | 36 => (.array .long)
  | 37 => (.array .int)
  | 38 => (.array .int)
  | 39 => .int
  | 40 => .long
  | 41 => (.array .int)
  | 42 => (.array .int)
  | 43 => (.array .int)
  | 44 => .int
  | 45 => .int
  | 46 => (.array .int)
  | 47 => .int
  | 48 => (.array .int)
  | _ => .boolean
theorem kN12 : ∀ a, a < 50 → ∀ b, b < 50 → a ≠ b → (kT12 a).2.1 ≠ (kT12 b).2.1 := by decide +kernel
theorem kO12 : ∀ k, k < 50 → parseFieldDescriptor (kT12 k).2.2.1 = some (kY12 k) := by decide +kernel
theorem kI12 : ∀ w ∈ u_ws kR12 kT12 50, w ∈ aw_tbl := by decide +kernel
abbrev aw_cl : List vw_C := [(kR0, kT0, 8), (kR1, kT1, 1), (kR2, kT2, 1), (kR3, kT3, 5), (kR4, kT4, 3), (kR5, kT5, 3), (kR6, kT6, 5), (kR7, kT7, 6), (kR8, kT8, 9), (kR9, kT9, 3), (kR10, kT10, 3), (kR11, kT11, 14), (kR12, kT12, 50)]
end
section
/-! The bundled judgement: aw_W, a frame of a method over the world ws; what is fixed in one start of the law is g. -/
/-- ad: where the cells of the world lie; D: class numbers and slots; ca: array classes (0 int, 1 long, 2 byte, 3 boolean, 4 int[]); base: where the law's own cells begin; X: what holds of the start (statics, texts) -/
abbrev ag_G : Type := (Nat → Nat) × va_G × (Nat → ClassId) × Nat × (State → Prop)
abbrev g_ad (g : ag_G) : Nat → Nat := g.1
abbrev g_D (g : ag_G) : va_G := g.2.1
abbrev g_ca (g : ag_G) : Nat → ClassId := g.2.2.1
abbrev g_b (g : ag_G) : Nat := g.2.2.2.1
abbrev g_X (g : ag_G) : State → Prop := g.2.2.2.2
/-- a method: name, bytes, locals, what it returns, its instructions -/
abbrev ag_M : Type := MethodName × ByteArray × Nat × Option FieldType × List (Nat × Instr × Nat)
abbrev m_y (M : ag_M) : MethodName := M.1
abbrev m_c (M : ag_M) : ByteArray := M.2.1
abbrev m_n (M : ag_M) : Nat := M.2.2.1
abbrev m_r (M : ag_M) : Option FieldType := M.2.2.2.1
def aw_find : List (Nat × Instr × Nat) → Nat → Option (Instr × Nat)
  | [], _ => none
  | (k, i) :: t, pc => cond (Nat.beq k pc) (some i) (aw_find t pc)
def m_at (M : ag_M) (pc : Nat) : Option (Instr × Nat) := aw_find M.2.2.2.2 pc
def aw_ok (M : ag_M) : Prop := ∀ (pc : Nat) (i : Instr) (n : Nat), m_at M pc = some (i, n) → decode (m_c M) pc = .ok (i, n)
theorem aw_find_mem : ∀ (T : List (Nat × Instr × Nat)) (pc : Nat) (i : Instr) (n : Nat), aw_find T pc = some (i, n) → (pc, i, n) ∈ T
  | [], _, _, _, h => by cases h
  | (k, j) :: t, pc, i, n, h => by
    simp only [aw_find] at h
    cases hk : Nat.beq k pc with
    | true =>
      rw [hk] at h
      have e : j = (i, n) := Option.some.inj h
      have hkp : k = pc := Nat.eq_of_beq_eq_true hk
      rw [← hkp, ← e]
      exact List.mem_cons_self
    | false =>
      rw [hk] at h
      exact List.mem_cons_of_mem _ (aw_find_mem t pc i n h)
theorem aw_ok_of {M : ag_M} (h : ∀ q ∈ M.2.2.2.2, decode (m_c M) q.1 = .ok (q.2.1, q.2.2)) : aw_ok M :=
  fun pc i n hm => h (pc, i, n) (aw_find_mem _ pc i n hm)
def aw_A (g : ag_G) : Nat → Prop := fun q => g_b g ≤ q
abbrev aw_tys (g : ag_G) : List (ClassId × FieldType) := [(g_ca g 0, .int), (g_ca g 1, .long), (g_ca g 2, .byte), (g_ca g 3, .boolean), (g_ca g 4, .object "[I")]
def aw_K (g : ag_G) (s : State) : Prop := va_K (g_D g) aw_cl (aw_tys g) s
def aw_XM (g : ag_G) : Prop := ∀ s U : State, g_X g s → s.vm.Alike U.vm → s.heap.size ≤ U.heap.size → (∀ q : Nat, q < s.heap.size → ¬ aw_A g q → U.heap[q]? = s.heap[q]?) → g_X g U
def aw_C (g : ag_G) (M : ag_M) (p : Program) (s : State) (m : MethodId) (args : Array Value) (meth : Method) (c : Code) : Prop :=
  p.tables.exec = Jvm.exec ∧ c.code = m_c M ∧ c.maxLocals = m_n M ∧ s.vm.findClass (m_y M).cls = some m.cls ∧ (∀ w ∈ aw_tbl, w.before args s = true) ∧ meth.sig.returnType = m_r M ∧ meth.locks = false ∧ aw_K g s ∧ g_X g s ∧ g_b g ≤ s.heap.size ∧ aw_XM g ∧ aw_ok M ∧ meth.name = (m_y M).name
def aw_H (g : ag_G) (ws : va_W) (s : State) (H : Heap) (locs : List Loc) : Prop := va_P (g_D g) aw_cl ws H ∧ va_D (aw_A g) ws ∧ va_S (aw_A g) s.heap H locs
def aw_L (ls : Array Slot) (n : Nat) (L : List (Option Value)) : Prop := ls.size = n ∧ lv_wf ls ∧ ∀ (i : Nat) (v : Value), L[i]? = some (some v) → ls[i]? = some (.val v)
/-- the end: below, args, s, then the state -/
abbrev ag_Z : Type := List Frame → Array Value → State → State → Prop
def aw_W (l : Launch) (g : ag_G) (M : ag_M) (R : Room) (Z : ag_Z) (cells slots : Nat) (ws : va_W) (pc : Nat) (L : List (Option Value)) (st : List Value) : Prop :=
  ∀ (p : Program) (e : Env) (s : State) (m : MethodId) (args : Array Value) (below : List Frame) (meth : Method) (c : Code) (H : Heap) (locs : List Loc) (ls : Array Slot),
    aw_C g M p s m args meth c → aw_H g ws s H locs → aw_L ls (m_n M) L → W p l e R s m args below meth c H locs cells slots (Z below args s) (F0 m pc ls st)
def aw_Q (g : ag_G) (Q : Option Value → va_W → Prop) : Array Value → State → Outcome → State → Prop := fun _ st o t =>
  (∃ (r : Option Value) (ws : va_W), o = .returned r ∧ Q r ws ∧ va_P (g_D g) aw_cl ws t.heap ∧ va_D (aw_A g) ws) ∧ va_F (aw_A g) st t
def aw_Z (g : ag_G) (Q : Option Value → va_W → Prop) (mc ms : Nat) : ag_Z := fun below args s => MQ below (aw_Q g Q) args s mc ms (aw_A g)
def aw_Pc (g : ag_G) (vs : List Value) (ws : va_W) : Array Value → State → Prop := fun v U =>
  v = vs.toArray ∧ g_b g ≤ U.heap.size ∧ va_P (g_D g) aw_cl ws U.heap ∧ va_D (aw_A g) ws ∧ aw_K g U ∧ g_X g U ∧ aw_XM g
abbrev aw_ws (M : ag_M) : List Cond := .code (m_y M) (m_c M) (m_n M) (m_r M) :: aw_tbl
abbrev aw_rm (n mc ms : Nat) : Room := { frames := n, cells := mc, slots := ms, locals := 100 * n }
/-- a method's contract at depth n: from the world ws with these arguments it returns, and Q of the answer and the new world -/
def aw_M (l : Launch) (g : ag_G) (M : ag_M) (n mc ms : Nat) (vs : List Value) (ws : va_W) (Q : Option Value → va_W → Prop) : Prop :=
  Met l (m_y M) (aw_ws M) (aw_rm n mc ms) (aw_Pc g vs ws) (aw_Q g Q) mc ms (aw_A g)
/-- the locals at the entry, by slots -/
def aw_arg : List Value → List (Option Value)
  | [] => []
  | v :: t => match v with
    | .long _ => some v :: none :: aw_arg t
    | .double _ => some v :: none :: aw_arg t
    | _ => some v :: aw_arg t
theorem aw_arg_has (vs : List Value) : ∀ (i j : Nat) (v : Value), (aw_arg vs)[i]? = some (some v) → (i + j, v) ∈ lv_args j vs := by
  induction vs with
  | nil => intro i j v h; simp [aw_arg] at h
  | cons a t ih =>
    intro i j v h
    cases a <;> simp only [aw_arg] at h <;> simp only [lv_args] <;> cases i with
    | zero => simp at h; subst h; simp
    | succ i =>
      first
      | (cases i with
         | zero => simp at h
         | succ i => refine List.mem_cons_of_mem _ ?_; have := ih i (j + 2) v (by simpa using h); rw [show i + 1 + 1 + j = i + (j + 2) by omega]; exact this)
      | (refine List.mem_cons_of_mem _ ?_; have := ih i (j + 1) v (by simpa using h); rw [show i + 1 + j = i + (j + 1) by omega]; exact this)
end
section
/-! the rows, over aw_W -/
def aw_pr (L : List (Option Value)) : List (Nat × Value) := (List.range L.length).filterMap (fun i => (L[i]?.join).map (fun v => (i, v)))
theorem aw_pr_mem {L : List (Option Value)} {i : Nat} {v : Value} : (i, v) ∈ aw_pr L ↔ L[i]? = some (some v) := by
  unfold aw_pr
  rw [List.mem_filterMap]
  constructor
  · rintro ⟨j, -, h⟩
    cases hj : L[j]? with
    | none => rw [hj] at h; simp at h
    | some o =>
      rw [hj] at h
      cases o with
      | none => simp at h
      | some u =>
        simp at h
        obtain ⟨rfl, rfl⟩ := h
        exact hj
  · intro h
    refine ⟨i, ?_, ?_⟩
    · have := (List.getElem?_eq_some_iff.mp h).1
      exact List.mem_range.mpr this
    · rw [h]; rfl
theorem aw_L.has {ls : Array Slot} {n : Nat} {L : List (Option Value)} (h : aw_L ls n L) : lv_has ls n (aw_pr L) := ⟨h.1, h.2.1, fun q hq => h.2.2 q.1 q.2 (aw_pr_mem.mp hq)⟩
def aw_clr : Option Value → Option Value
  | some (.long _) => none
  | some (.double _) => none
  | o => o
def aw_sto : List (Option Value) → Nat → Value → List (Option Value)
  | [], 0, v => [some v]
  | [], i + 1, v => none :: aw_sto [] i v
  | _ :: L, 0, v => some v :: L
  | o :: L, i + 1, v => (match i with | 0 => aw_clr o | _ + 1 => o) :: aw_sto L i v
theorem aw_clr_some {o : Option Value} {w : Value} (h : aw_clr o = some w) : o = some w ∧ ¬ w.category = 2 := by
  cases o with
  | none => cases h
  | some u => cases u <;> simp [aw_clr] at h <;> subst h <;> exact ⟨rfl, by simp [Value.category]⟩
theorem aw_sto_get (i : Nat) : ∀ (L : List (Option Value)) (v : Value) (j : Nat) (w : Value), (aw_sto L i v)[j]? = some (some w) → (j = i ∧ w = v) ∨ (j ≠ i ∧ L[j]? = some (some w) ∧ ¬ (j + 1 = i ∧ w.category = 2)) := by
  induction i with
  | zero =>
    intro L v j w h
    cases L with
    | nil =>
      cases j with
      | zero => simp [aw_sto] at h; exact Or.inl ⟨rfl, h.symm⟩
      | succ j => simp [aw_sto] at h
    | cons o t =>
      cases j with
      | zero => simp [aw_sto] at h; exact Or.inl ⟨rfl, h.symm⟩
      | succ j => exact Or.inr ⟨by omega, by simpa [aw_sto] using h, by omega⟩
  | succ i ih =>
    intro L v j w h
    cases L with
    | nil =>
      cases j with
      | zero => simp [aw_sto] at h
      | succ j =>
        rcases ih [] v j w (by simpa [aw_sto] using h) with ⟨a, b⟩ | ⟨a, b, -⟩
        · exact Or.inl ⟨by omega, b⟩
        · simp at b
    | cons o t =>
      cases j with
      | zero =>
        cases i with
        | zero =>
          have h2 : aw_clr o = some w := by simpa [aw_sto] using h
          obtain ⟨e, f⟩ := aw_clr_some h2
          exact Or.inr ⟨by omega, by simp [e], fun q => f q.2⟩
        | succ i =>
          have h2 : o = some w := by simpa [aw_sto] using h
          exact Or.inr ⟨by omega, by simp [h2], by omega⟩
      | succ j =>
        rcases ih t v j w (by simpa [aw_sto] using h) with ⟨a, b⟩ | ⟨a, b, c⟩
        · exact Or.inl ⟨by omega, b⟩
        · exact Or.inr ⟨by omega, by simpa using b, fun q => c ⟨by omega, q.2⟩⟩
theorem aw_L.st1 {ls : Array Slot} {n i : Nat} {L : List (Option Value)} {v : Value} (h : lv_has ls n ((i, v) :: (aw_pr L).filter (fun q => !(q.1 == i) && !(q.1 + 1 == i && q.2.category == 2)))) : aw_L ls n (aw_sto L i v) := by
  refine ⟨h.1, h.2.1, fun j w hj => ?_⟩
  rcases aw_sto_get i L v j w hj with ⟨rfl, rfl⟩ | ⟨a, b, c⟩
  · exact h.2.2 (j, w) List.mem_cons_self
  · refine h.2.2 (j, w) (List.mem_cons_of_mem _ (List.mem_filter.mpr ⟨aw_pr_mem.mpr b, ?_⟩))
    simp only [Bool.and_eq_true, Bool.not_eq_true', beq_eq_false_iff_ne, ne_eq, Bool.and_eq_false_iff]
    refine ⟨a, ?_⟩
    by_cases e : j + 1 = i
    · exact Or.inr (fun q => c ⟨e, q⟩)
    · exact Or.inl e
def aw_non : List (Option Value) → Nat → List (Option Value)
  | [], _ => []
  | _ :: L, 0 => none :: L
  | o :: L, i + 1 => o :: aw_non L i
theorem aw_non_get (i : Nat) : ∀ (L : List (Option Value)) (j : Nat) (w : Value), (aw_non L i)[j]? = some (some w) → j ≠ i ∧ L[j]? = some (some w) := by
  induction i with
  | zero =>
    intro L j w h
    cases L with
    | nil => simp [aw_non] at h
    | cons o t =>
      cases j with
      | zero => simp [aw_non] at h
      | succ j => exact ⟨by omega, by simpa [aw_non] using h⟩
  | succ i ih =>
    intro L j w h
    cases L with
    | nil => simp [aw_non] at h
    | cons o t =>
      cases j with
      | zero => exact ⟨by omega, by simpa [aw_non] using h⟩
      | succ j =>
        obtain ⟨a, b⟩ := ih t j w (by simpa [aw_non] using h)
        exact ⟨by omega, by simpa using b⟩
theorem aw_L.st2 {ls : Array Slot} {n i : Nat} {L : List (Option Value)} {v : Value} (h : lv_has ls n ((i, v) :: (aw_pr L).filter (fun q => !(q.1 == i) && (!(q.1 == i + 1) && !(q.1 + 1 == i && q.2.category == 2))))) : aw_L ls n (aw_non (aw_sto L i v) (i + 1)) := by
  refine ⟨h.1, h.2.1, fun j w hj => ?_⟩
  obtain ⟨z, hj⟩ := aw_non_get _ _ _ _ hj
  rcases aw_sto_get i L v j w hj with ⟨rfl, rfl⟩ | ⟨a, b, c⟩
  · exact h.2.2 (j, w) List.mem_cons_self
  · refine h.2.2 (j, w) (List.mem_cons_of_mem _ (List.mem_filter.mpr ⟨aw_pr_mem.mpr b, ?_⟩))
    simp only [Bool.and_eq_true, Bool.not_eq_true', beq_eq_false_iff_ne, ne_eq, Bool.and_eq_false_iff]
    refine ⟨a, z, ?_⟩
    by_cases e : j + 1 = i
    · exact Or.inr (fun q => c ⟨e, q⟩)
    · exact Or.inl e
/-- fewer locals known -/
def aw_le : List (Option Value) → List (Option Value) → Prop
  | [], _ => True
  | none :: L, [] => aw_le L []
  | some _ :: _, [] => False
  | none :: L, _ :: L' => aw_le L L'
  | some v :: L, o :: L' => o = some v ∧ aw_le L L'
theorem aw_le_get : ∀ (L L' : List (Option Value)), aw_le L L' → ∀ (i : Nat) (v : Value), L[i]? = some (some v) → L'[i]? = some (some v)
  | [], _, _, i, v, h => by simp at h
  | none :: L, [], q, i, v, h => by
    cases i with
    | zero => simp at h
    | succ i => have := aw_le_get L [] (by simpa [aw_le] using q) i v (by simpa using h); simp at this
  | some _ :: _, [], q, _, _, _ => absurd q (by simp [aw_le])
  | none :: L, o :: L', q, i, v, h => by
    cases i with
    | zero => simp at h
    | succ i => have := aw_le_get L L' (by simpa [aw_le] using q) i v (by simpa using h); simpa using this
  | some u :: L, o :: L', q, i, v, h => by
    obtain ⟨e, q⟩ := (by simpa [aw_le] using q : o = some u ∧ aw_le L L')
    cases i with
    | zero => simp at h; subst h; simp [e]
    | succ i => have := aw_le_get L L' q i v (by simpa using h); simpa using this
section AwRows
variable {l : Launch} {g : ag_G} {M : ag_M} {R : Room} {Z : ag_Z} {cells slots : Nat} {ws : va_W} {pc : Nat} {L : List (Option Value)} {st : List Value}
theorem aw_wk {L' : List (Option Value)} (k : aw_W l g M R Z cells slots ws pc L st) (h : aw_le L L') : aw_W l g M R Z cells slots ws pc L' st :=
  fun p e s m args below meth c H locs ls hC hH hL => k p e s m args below meth c H locs ls hC hH ⟨hL.1, hL.2.1, fun i v hi => hL.2.2 i v (aw_le_get _ _ h i v hi)⟩
theorem aw_eqs {pc' : Nat} {st' : List Value} {ws' : va_W} (k : aw_W l g M R Z cells slots ws' pc' L st') (h1 : pc = pc') (h2 : st = st') (h3 : ws = ws') : aw_W l g M R Z cells slots ws pc L st := by subst h1; subst h2; subst h3; exact k
theorem aw_wide {c' s' : Nat} (k : aw_W l g M R Z c' s' ws pc L st) (h1 : cells ≤ c') (h2 : slots ≤ s') : aw_W l g M R Z cells slots ws pc L st :=
  fun p e s m args below meth c H locs ls hC hH hL => W.widen h1 h2 (k p e s m args below meth c H locs ls hC hH hL)
theorem aw_iconst {n : Int} {v : Int32} (hd : m_at M pc = some (.iconst n, 1)) (hv : Int32.ofInt n = v) (kk : aw_W l g M R Z cells slots ws (pc + 1) L (.int v :: st)) : aw_W l g M R Z cells slots ws pc L st := fun p e s m args below meth c H locs ls hC hH hL => lv_iconst (v := v) hC.1 hC.2.1 (hC.2.2.2.2.2.2.2.2.2.2.2.1 _ _ _ hd) hv (kk p e s m args below meth c H locs ls hC hH hL)
theorem aw_bipush {n : Int} {v : Int32} (hd : m_at M pc = some (.bipush n, 2)) (hv : (Int8.ofInt n).toInt32 = v) (kk : aw_W l g M R Z cells slots ws (pc + 2) L (.int v :: st)) : aw_W l g M R Z cells slots ws pc L st := fun p e s m args below meth c H locs ls hC hH hL => lv_bipush (v := v) hC.1 hC.2.1 (hC.2.2.2.2.2.2.2.2.2.2.2.1 _ _ _ hd) hv (kk p e s m args below meth c H locs ls hC hH hL)
theorem aw_sipush {n : Int} {v : Int32} (hd : m_at M pc = some (.sipush n, 3)) (hv : (Int16.ofInt n).toInt32 = v) (kk : aw_W l g M R Z cells slots ws (pc + 3) L (.int v :: st)) : aw_W l g M R Z cells slots ws pc L st := fun p e s m args below meth c H locs ls hC hH hL => lv_sipush (v := v) hC.1 hC.2.1 (hC.2.2.2.2.2.2.2.2.2.2.2.1 _ _ _ hd) hv (kk p e s m args below meth c H locs ls hC hH hL)
theorem aw_lconst {n : Fin 2} {v : Int64} (hd : m_at M pc = some (.lconst n, 1)) (hv : Int64.ofNat (n : Nat) = v) (kk : aw_W l g M R Z cells slots ws (pc + 1) L (.long v :: st)) : aw_W l g M R Z cells slots ws pc L st := fun p e s m args below meth c H locs ls hC hH hL => lv_lconst (v := v) hC.1 hC.2.1 (hC.2.2.2.2.2.2.2.2.2.2.2.1 _ _ _ hd) hv (kk p e s m args below meth c H locs ls hC hH hL)
theorem aw_iload_n {k : Fin 4} {x : Int32} (hd : m_at M pc = some (.iload_n k, 1)) (hl : L[(k : Nat)]? = some (some (.int x))) (kk : aw_W l g M R Z cells slots ws (pc + 1) L (.int x :: st)) : aw_W l g M R Z cells slots ws pc L st := fun p e s m args below meth c H locs ls hC hH hL => lv_iload_n hC.1 hC.2.1 (hC.2.2.2.2.2.2.2.2.2.2.2.1 _ _ _ hd) rfl (hL.2.2 _ _ hl) (kk p e s m args below meth c H locs ls hC hH hL)
theorem aw_iload {i : Nat} {x : Int32} (hd : m_at M pc = some (.iload i, 2)) (hl : L[i]? = some (some (.int x))) (kk : aw_W l g M R Z cells slots ws (pc + 2) L (.int x :: st)) : aw_W l g M R Z cells slots ws pc L st := fun p e s m args below meth c H locs ls hC hH hL => lv_iload hC.1 hC.2.1 (hC.2.2.2.2.2.2.2.2.2.2.2.1 _ _ _ hd) (hL.2.2 _ _ hl) (kk p e s m args below meth c H locs ls hC hH hL)
theorem aw_lload_n {k : Fin 4} {x : Int64} (hd : m_at M pc = some (.lload_n k, 1)) (hl : L[(k : Nat)]? = some (some (.long x))) (kk : aw_W l g M R Z cells slots ws (pc + 1) L (.long x :: st)) : aw_W l g M R Z cells slots ws pc L st := fun p e s m args below meth c H locs ls hC hH hL => lv_lload_n hC.1 hC.2.1 (hC.2.2.2.2.2.2.2.2.2.2.2.1 _ _ _ hd) rfl (hL.2.2 _ _ hl) (kk p e s m args below meth c H locs ls hC hH hL)
theorem aw_lload {i : Nat} {x : Int64} (hd : m_at M pc = some (.lload i, 2)) (hl : L[i]? = some (some (.long x))) (kk : aw_W l g M R Z cells slots ws (pc + 2) L (.long x :: st)) : aw_W l g M R Z cells slots ws pc L st := fun p e s m args below meth c H locs ls hC hH hL => lv_lload hC.1 hC.2.1 (hC.2.2.2.2.2.2.2.2.2.2.2.1 _ _ _ hd) (hL.2.2 _ _ hl) (kk p e s m args below meth c H locs ls hC hH hL)
theorem aw_aload_n {k : Fin 4} {x : Nat} (hd : m_at M pc = some (.aload_n k, 1)) (hl : L[(k : Nat)]? = some (some (.ref x))) (kk : aw_W l g M R Z cells slots ws (pc + 1) L (.ref x :: st)) : aw_W l g M R Z cells slots ws pc L st := fun p e s m args below meth c H locs ls hC hH hL => lv_aload_n hC.1 hC.2.1 (hC.2.2.2.2.2.2.2.2.2.2.2.1 _ _ _ hd) rfl (hL.2.2 _ _ hl) (kk p e s m args below meth c H locs ls hC hH hL)
theorem aw_aload {i : Nat} {x : Nat} (hd : m_at M pc = some (.aload i, 2)) (hl : L[i]? = some (some (.ref x))) (kk : aw_W l g M R Z cells slots ws (pc + 2) L (.ref x :: st)) : aw_W l g M R Z cells slots ws pc L st := fun p e s m args below meth c H locs ls hC hH hL => lv_aload hC.1 hC.2.1 (hC.2.2.2.2.2.2.2.2.2.2.2.1 _ _ _ hd) (hL.2.2 _ _ hl) (kk p e s m args below meth c H locs ls hC hH hL)
theorem aw_istore_n {k : Fin 4} {x : Int32} (hd : m_at M pc = some (.istore_n k, 1)) (hn : (k : Nat) < m_n M) (kk : aw_W l g M R Z cells slots ws (pc + 1) (aw_sto L k (.int x)) st) : aw_W l g M R Z cells slots ws pc L (.int x :: st) := fun p e s m args below meth c H locs ls hC hH hL => lv_istore_n hC.1 hC.2.1 (hC.2.2.2.2.2.2.2.2.2.2.2.1 _ _ _ hd) rfl hL.has hn rfl (fun ls2 h2 => kk p e s m args below meth c H locs ls2 hC hH (aw_L.st1 h2))
theorem aw_istore {i : Nat} {x : Int32} (hd : m_at M pc = some (.istore i, 2)) (hn : i < m_n M) (kk : aw_W l g M R Z cells slots ws (pc + 2) (aw_sto L i (.int x)) st) : aw_W l g M R Z cells slots ws pc L (.int x :: st) := fun p e s m args below meth c H locs ls hC hH hL => lv_istore hC.1 hC.2.1 (hC.2.2.2.2.2.2.2.2.2.2.2.1 _ _ _ hd) hL.has hn rfl (fun ls2 h2 => kk p e s m args below meth c H locs ls2 hC hH (aw_L.st1 h2))
theorem aw_astore_n {k : Fin 4} {x : Nat} (hd : m_at M pc = some (.astore_n k, 1)) (hn : (k : Nat) < m_n M) (kk : aw_W l g M R Z cells slots ws (pc + 1) (aw_sto L k (.ref x)) st) : aw_W l g M R Z cells slots ws pc L (.ref x :: st) := fun p e s m args below meth c H locs ls hC hH hL => lv_astore_n hC.1 hC.2.1 (hC.2.2.2.2.2.2.2.2.2.2.2.1 _ _ _ hd) rfl hL.has hn rfl (fun ls2 h2 => kk p e s m args below meth c H locs ls2 hC hH (aw_L.st1 h2))
theorem aw_astore {i : Nat} {x : Nat} (hd : m_at M pc = some (.astore i, 2)) (hn : i < m_n M) (kk : aw_W l g M R Z cells slots ws (pc + 2) (aw_sto L i (.ref x)) st) : aw_W l g M R Z cells slots ws pc L (.ref x :: st) := fun p e s m args below meth c H locs ls hC hH hL => lv_astore hC.1 hC.2.1 (hC.2.2.2.2.2.2.2.2.2.2.2.1 _ _ _ hd) hL.has hn rfl (fun ls2 h2 => kk p e s m args below meth c H locs ls2 hC hH (aw_L.st1 h2))
theorem aw_lstore_n {k : Fin 4} {x : Int64} (hd : m_at M pc = some (.lstore_n k, 1)) (hn : (k : Nat) + 1 < m_n M) (kk : aw_W l g M R Z cells slots ws (pc + 1) (aw_non (aw_sto L k (.long x)) (k + 1)) st) : aw_W l g M R Z cells slots ws pc L (.long x :: st) := fun p e s m args below meth c H locs ls hC hH hL => lv_lstore_n hC.1 hC.2.1 (hC.2.2.2.2.2.2.2.2.2.2.2.1 _ _ _ hd) rfl hL.has hn rfl (fun ls2 h2 => kk p e s m args below meth c H locs ls2 hC hH (aw_L.st2 h2))
theorem aw_lstore {i : Nat} {x : Int64} (hd : m_at M pc = some (.lstore i, 2)) (hn : i + 1 < m_n M) (kk : aw_W l g M R Z cells slots ws (pc + 2) (aw_non (aw_sto L i (.long x)) (i + 1)) st) : aw_W l g M R Z cells slots ws pc L (.long x :: st) := fun p e s m args below meth c H locs ls hC hH hL => lv_lstore hC.1 hC.2.1 (hC.2.2.2.2.2.2.2.2.2.2.2.1 _ _ _ hd) hL.has hn rfl (fun ls2 h2 => kk p e s m args below meth c H locs ls2 hC hH (aw_L.st2 h2))
theorem aw_iinc {i : Nat} {n : Int} {x v : Int32} (hd : m_at M pc = some (.iinc i n, 3)) (hl : L[i]? = some (some (.int x))) (hv : x + Int32.ofInt n = v) (hn : i < m_n M) (kk : aw_W l g M R Z cells slots ws (pc + 3) (aw_sto L i (.int v)) st) : aw_W l g M R Z cells slots ws pc L st := by
  intro p e s m args below meth c H locs ls hC hH hL
  obtain ⟨k, hk⟩ := List.mem_iff_getElem?.mp (aw_pr_mem.mpr hl)
  exact lv_iinc hC.1 hC.2.1 (hC.2.2.2.2.2.2.2.2.2.2.2.1 _ _ _ hd) hL.has hk hv hn rfl (fun ls2 h2 => kk p e s m args below meth c H locs ls2 hC hH (aw_L.st1 h2))
theorem aw_iadd {x y : Int32} (hd : m_at M pc = some (.iadd, 1)) (kk : aw_W l g M R Z cells slots ws (pc + 1) L (.int (x + y) :: st)) : aw_W l g M R Z cells slots ws pc L (.int y :: .int x :: st) := fun p e s m args below meth c H locs ls hC hH hL => lv_iadd hC.1 hC.2.1 (hC.2.2.2.2.2.2.2.2.2.2.2.1 _ _ _ hd) (kk p e s m args below meth c H locs ls hC hH hL)
theorem aw_isub {x y : Int32} (hd : m_at M pc = some (.isub, 1)) (kk : aw_W l g M R Z cells slots ws (pc + 1) L (.int (x - y) :: st)) : aw_W l g M R Z cells slots ws pc L (.int y :: .int x :: st) := fun p e s m args below meth c H locs ls hC hH hL => lv_isub hC.1 hC.2.1 (hC.2.2.2.2.2.2.2.2.2.2.2.1 _ _ _ hd) (kk p e s m args below meth c H locs ls hC hH hL)
theorem aw_imul {x y : Int32} (hd : m_at M pc = some (.imul, 1)) (kk : aw_W l g M R Z cells slots ws (pc + 1) L (.int (x * y) :: st)) : aw_W l g M R Z cells slots ws pc L (.int y :: .int x :: st) := fun p e s m args below meth c H locs ls hC hH hL => lv_imul hC.1 hC.2.1 (hC.2.2.2.2.2.2.2.2.2.2.2.1 _ _ _ hd) (kk p e s m args below meth c H locs ls hC hH hL)
theorem aw_iand {x y : Int32} (hd : m_at M pc = some (.iand, 1)) (kk : aw_W l g M R Z cells slots ws (pc + 1) L (.int (x &&& y) :: st)) : aw_W l g M R Z cells slots ws pc L (.int y :: .int x :: st) := fun p e s m args below meth c H locs ls hC hH hL => lv_iand hC.1 hC.2.1 (hC.2.2.2.2.2.2.2.2.2.2.2.1 _ _ _ hd) (kk p e s m args below meth c H locs ls hC hH hL)
theorem aw_ior {x y : Int32} (hd : m_at M pc = some (.ior, 1)) (kk : aw_W l g M R Z cells slots ws (pc + 1) L (.int (x ||| y) :: st)) : aw_W l g M R Z cells slots ws pc L (.int y :: .int x :: st) := fun p e s m args below meth c H locs ls hC hH hL => lv_ior hC.1 hC.2.1 (hC.2.2.2.2.2.2.2.2.2.2.2.1 _ _ _ hd) (kk p e s m args below meth c H locs ls hC hH hL)
theorem aw_ixor {x y : Int32} (hd : m_at M pc = some (.ixor, 1)) (kk : aw_W l g M R Z cells slots ws (pc + 1) L (.int (x ^^^ y) :: st)) : aw_W l g M R Z cells slots ws pc L (.int y :: .int x :: st) := fun p e s m args below meth c H locs ls hC hH hL => lv_ixor hC.1 hC.2.1 (hC.2.2.2.2.2.2.2.2.2.2.2.1 _ _ _ hd) (kk p e s m args below meth c H locs ls hC hH hL)
theorem aw_ishl {x y : Int32} (hd : m_at M pc = some (.ishl, 1)) (kk : aw_W l g M R Z cells slots ws (pc + 1) L (.int (x <<< (y &&& 31)) :: st)) : aw_W l g M R Z cells slots ws pc L (.int y :: .int x :: st) := fun p e s m args below meth c H locs ls hC hH hL => lv_ishl hC.1 hC.2.1 (hC.2.2.2.2.2.2.2.2.2.2.2.1 _ _ _ hd) (kk p e s m args below meth c H locs ls hC hH hL)
theorem aw_ishr {x y : Int32} (hd : m_at M pc = some (.ishr, 1)) (kk : aw_W l g M R Z cells slots ws (pc + 1) L (.int (x >>> (y &&& 31)) :: st)) : aw_W l g M R Z cells slots ws pc L (.int y :: .int x :: st) := fun p e s m args below meth c H locs ls hC hH hL => lv_ishr hC.1 hC.2.1 (hC.2.2.2.2.2.2.2.2.2.2.2.1 _ _ _ hd) (kk p e s m args below meth c H locs ls hC hH hL)
theorem aw_iushr {x y v : Int32} (hd : m_at M pc = some (.iushr, 1)) (hv : (x.toUInt32 >>> (y.toUInt32 &&& Int32.toUInt32 31)).toInt32 = v) (kk : aw_W l g M R Z cells slots ws (pc + 1) L (.int v :: st)) : aw_W l g M R Z cells slots ws pc L (.int y :: .int x :: st) := fun p e s m args below meth c H locs ls hC hH hL => lv_iushr hC.1 hC.2.1 (hC.2.2.2.2.2.2.2.2.2.2.2.1 _ _ _ hd) hv (kk p e s m args below meth c H locs ls hC hH hL)
theorem aw_idiv {x y : Int32} (hd : m_at M pc = some (.idiv, 1)) (hne : ¬ y = 0) (kk : aw_W l g M R Z cells slots ws (pc + 1) L (.int (x / y) :: st)) : aw_W l g M R Z cells slots ws pc L (.int y :: .int x :: st) := fun p e s m args below meth c H locs ls hC hH hL => lv_idiv hC.1 hC.2.1 (hC.2.2.2.2.2.2.2.2.2.2.2.1 _ _ _ hd) hne (kk p e s m args below meth c H locs ls hC hH hL)
theorem aw_irem {x y : Int32} (hd : m_at M pc = some (.irem, 1)) (hne : ¬ y = 0) (kk : aw_W l g M R Z cells slots ws (pc + 1) L (.int (x - x / y * y) :: st)) : aw_W l g M R Z cells slots ws pc L (.int y :: .int x :: st) := fun p e s m args below meth c H locs ls hC hH hL => lv_irem hC.1 hC.2.1 (hC.2.2.2.2.2.2.2.2.2.2.2.1 _ _ _ hd) hne (kk p e s m args below meth c H locs ls hC hH hL)
theorem aw_ineg {x : Int32} (hd : m_at M pc = some (.ineg, 1)) (kk : aw_W l g M R Z cells slots ws (pc + 1) L (.int (-x) :: st)) : aw_W l g M R Z cells slots ws pc L (.int x :: st) := fun p e s m args below meth c H locs ls hC hH hL => lv_ineg hC.1 hC.2.1 (hC.2.2.2.2.2.2.2.2.2.2.2.1 _ _ _ hd) (kk p e s m args below meth c H locs ls hC hH hL)
theorem aw_ladd {x y : Int64} (hd : m_at M pc = some (.ladd, 1)) (kk : aw_W l g M R Z cells slots ws (pc + 1) L (.long (x + y) :: st)) : aw_W l g M R Z cells slots ws pc L (.long y :: .long x :: st) := fun p e s m args below meth c H locs ls hC hH hL => lv_ladd hC.1 hC.2.1 (hC.2.2.2.2.2.2.2.2.2.2.2.1 _ _ _ hd) (kk p e s m args below meth c H locs ls hC hH hL)
theorem aw_lsub {x y : Int64} (hd : m_at M pc = some (.lsub, 1)) (kk : aw_W l g M R Z cells slots ws (pc + 1) L (.long (x - y) :: st)) : aw_W l g M R Z cells slots ws pc L (.long y :: .long x :: st) := fun p e s m args below meth c H locs ls hC hH hL => lv_lsub hC.1 hC.2.1 (hC.2.2.2.2.2.2.2.2.2.2.2.1 _ _ _ hd) (kk p e s m args below meth c H locs ls hC hH hL)
theorem aw_lmul {x y : Int64} (hd : m_at M pc = some (.lmul, 1)) (kk : aw_W l g M R Z cells slots ws (pc + 1) L (.long (x * y) :: st)) : aw_W l g M R Z cells slots ws pc L (.long y :: .long x :: st) := fun p e s m args below meth c H locs ls hC hH hL => lv_lmul hC.1 hC.2.1 (hC.2.2.2.2.2.2.2.2.2.2.2.1 _ _ _ hd) (kk p e s m args below meth c H locs ls hC hH hL)
theorem aw_land {x y : Int64} (hd : m_at M pc = some (.land, 1)) (kk : aw_W l g M R Z cells slots ws (pc + 1) L (.long (x &&& y) :: st)) : aw_W l g M R Z cells slots ws pc L (.long y :: .long x :: st) := fun p e s m args below meth c H locs ls hC hH hL => lv_land hC.1 hC.2.1 (hC.2.2.2.2.2.2.2.2.2.2.2.1 _ _ _ hd) (kk p e s m args below meth c H locs ls hC hH hL)
theorem aw_lor {x y : Int64} (hd : m_at M pc = some (.lor, 1)) (kk : aw_W l g M R Z cells slots ws (pc + 1) L (.long (x ||| y) :: st)) : aw_W l g M R Z cells slots ws pc L (.long y :: .long x :: st) := fun p e s m args below meth c H locs ls hC hH hL => lv_lor hC.1 hC.2.1 (hC.2.2.2.2.2.2.2.2.2.2.2.1 _ _ _ hd) (kk p e s m args below meth c H locs ls hC hH hL)
theorem aw_ldiv {x y : Int64} (hd : m_at M pc = some (.ldiv, 1)) (hne : ¬ y = 0) (kk : aw_W l g M R Z cells slots ws (pc + 1) L (.long (x / y) :: st)) : aw_W l g M R Z cells slots ws pc L (.long y :: .long x :: st) := fun p e s m args below meth c H locs ls hC hH hL => lv_ldiv hC.1 hC.2.1 (hC.2.2.2.2.2.2.2.2.2.2.2.1 _ _ _ hd) hne (kk p e s m args below meth c H locs ls hC hH hL)
theorem aw_lrem {x y : Int64} (hd : m_at M pc = some (.lrem, 1)) (hne : ¬ y = 0) (kk : aw_W l g M R Z cells slots ws (pc + 1) L (.long (x - x / y * y) :: st)) : aw_W l g M R Z cells slots ws pc L (.long y :: .long x :: st) := fun p e s m args below meth c H locs ls hC hH hL => lv_lrem hC.1 hC.2.1 (hC.2.2.2.2.2.2.2.2.2.2.2.1 _ _ _ hd) hne (kk p e s m args below meth c H locs ls hC hH hL)
theorem aw_lshl {x v : Int64} {y : Int32} (hd : m_at M pc = some (.lshl, 1)) (hv : x <<< (y.toInt64 &&& 63) = v) (kk : aw_W l g M R Z cells slots ws (pc + 1) L (.long v :: st)) : aw_W l g M R Z cells slots ws pc L (.int y :: .long x :: st) := fun p e s m args below meth c H locs ls hC hH hL => lv_lshl hC.1 hC.2.1 (hC.2.2.2.2.2.2.2.2.2.2.2.1 _ _ _ hd) hv (kk p e s m args below meth c H locs ls hC hH hL)
theorem aw_lushr {x v : Int64} {y : Int32} (hd : m_at M pc = some (.lushr, 1)) (hv : (x.toUInt64 >>> (y.toInt64.toUInt64 &&& Int64.toUInt64 63)).toInt64 = v) (kk : aw_W l g M R Z cells slots ws (pc + 1) L (.long v :: st)) : aw_W l g M R Z cells slots ws pc L (.int y :: .long x :: st) := fun p e s m args below meth c H locs ls hC hH hL => lv_lushr hC.1 hC.2.1 (hC.2.2.2.2.2.2.2.2.2.2.2.1 _ _ _ hd) hv (kk p e s m args below meth c H locs ls hC hH hL)
theorem aw_i2l {x : Int32} (hd : m_at M pc = some (.i2l, 1)) (kk : aw_W l g M R Z cells slots ws (pc + 1) L (.long x.toInt64 :: st)) : aw_W l g M R Z cells slots ws pc L (.int x :: st) := fun p e s m args below meth c H locs ls hC hH hL => lv_i2l hC.1 hC.2.1 (hC.2.2.2.2.2.2.2.2.2.2.2.1 _ _ _ hd) rfl (kk p e s m args below meth c H locs ls hC hH hL)
theorem aw_l2i {x : Int64} (hd : m_at M pc = some (.l2i, 1)) (kk : aw_W l g M R Z cells slots ws (pc + 1) L (.int x.toInt32 :: st)) : aw_W l g M R Z cells slots ws pc L (.long x :: st) := fun p e s m args below meth c H locs ls hC hH hL => lv_l2i hC.1 hC.2.1 (hC.2.2.2.2.2.2.2.2.2.2.2.1 _ _ _ hd) rfl (kk p e s m args below meth c H locs ls hC hH hL)
theorem aw_i2b {x : Int32} (hd : m_at M pc = some (.i2b, 1)) (kk : aw_W l g M R Z cells slots ws (pc + 1) L (.int x.toInt8.toInt32 :: st)) : aw_W l g M R Z cells slots ws pc L (.int x :: st) := fun p e s m args below meth c H locs ls hC hH hL => lv_i2b hC.1 hC.2.1 (hC.2.2.2.2.2.2.2.2.2.2.2.1 _ _ _ hd) rfl (kk p e s m args below meth c H locs ls hC hH hL)
theorem aw_i2c {x : Int32} (hd : m_at M pc = some (.i2c, 1)) (kk : aw_W l g M R Z cells slots ws (pc + 1) L (.int (x.toUInt32 % 65536).toInt32 :: st)) : aw_W l g M R Z cells slots ws pc L (.int x :: st) := fun p e s m args below meth c H locs ls hC hH hL => lv_i2c hC.1 hC.2.1 (hC.2.2.2.2.2.2.2.2.2.2.2.1 _ _ _ hd) rfl (kk p e s m args below meth c H locs ls hC hH hL)
theorem aw_dup {v : Value} (hd : m_at M pc = some (.dup, 1)) (hv : v.category = 1) (kk : aw_W l g M R Z cells slots ws (pc + 1) L (v :: v :: st)) : aw_W l g M R Z cells slots ws pc L (v :: st) := fun p e s m args below meth c H locs ls hC hH hL => lv_dup hC.1 hC.2.1 (hC.2.2.2.2.2.2.2.2.2.2.2.1 _ _ _ hd) hv (kk p e s m args below meth c H locs ls hC hH hL)
theorem aw_pop {v : Value} (hd : m_at M pc = some (.pop, 1)) (hv : v.category = 1) (kk : aw_W l g M R Z cells slots ws (pc + 1) L st) : aw_W l g M R Z cells slots ws pc L (v :: st) := fun p e s m args below meth c H locs ls hC hH hL => lv_pop hC.1 hC.2.1 (hC.2.2.2.2.2.2.2.2.2.2.2.1 _ _ _ hd) hv (kk p e s m args below meth c H locs ls hC hH hL)
theorem aw_dup2 {v u : Value} (hd : m_at M pc = some (.dup2, 1)) (hv : v.category = 1) (hu : u.category = 1) (kk : aw_W l g M R Z cells slots ws (pc + 1) L (v :: u :: v :: u :: st)) : aw_W l g M R Z cells slots ws pc L (v :: u :: st) := fun p e s m args below meth c H locs ls hC hH hL => lv_dup2_11 hC.1 hC.2.1 (hC.2.2.2.2.2.2.2.2.2.2.2.1 _ _ _ hd) hv hu (kk p e s m args below meth c H locs ls hC hH hL)
theorem aw_lcmp {x y : Int64} (hd : m_at M pc = some (.lcmp, 1)) (kk : aw_W l g M R Z cells slots ws (pc + 1) L (.int (lg_cmp x y) :: st)) : aw_W l g M R Z cells slots ws pc L (.long y :: .long x :: st) := fun p e s m args below meth c H locs ls hC hH hL => W.lcmp hC.1 hC.2.1 (hC.2.2.2.2.2.2.2.2.2.2.2.1 _ _ _ hd) (kk p e s m args below meth c H locs ls hC hH hL)
theorem aw_goto {off : Int} {tgt : Nat} (hd : m_at M pc = some (.goto off, 3)) (ht : (pc : Int) + off = (tgt : Int)) (kk : aw_W l g M R Z cells slots ws tgt L st) : aw_W l g M R Z cells slots ws pc L st := fun p e s m args below meth c H locs ls hC hH hL => lv_goto hC.1 hC.2.1 (hC.2.2.2.2.2.2.2.2.2.2.2.1 _ _ _ hd) ht (kk p e s m args below meth c H locs ls hC hH hL)
theorem aw_icmp_eq {x y : Int32} {off : Int} {tgt : Nat} (hd : m_at M pc = some (.if_icmp .eq off, 3)) (ht : (pc : Int) + off = (tgt : Int)) (kt : x = y → aw_W l g M R Z cells slots ws tgt L st) (kf : ¬ x = y → aw_W l g M R Z cells slots ws (pc + 3) L st) : aw_W l g M R Z cells slots ws pc L (.int y :: .int x :: st) := fun p e s m args below meth c H locs ls hC hH hL => lv_icmp_eq hC.1 hC.2.1 (hC.2.2.2.2.2.2.2.2.2.2.2.1 _ _ _ hd) ht (fun h => kt h p e s m args below meth c H locs ls hC hH hL) (fun h => kf h p e s m args below meth c H locs ls hC hH hL)
theorem aw_if_eq {x : Int32} {off : Int} {tgt : Nat} (hd : m_at M pc = some (.ifCond .eq off, 3)) (ht : (pc : Int) + off = (tgt : Int)) (kt : x = 0 → aw_W l g M R Z cells slots ws tgt L st) (kf : ¬ x = 0 → aw_W l g M R Z cells slots ws (pc + 3) L st) : aw_W l g M R Z cells slots ws pc L (.int x :: st) := fun p e s m args below meth c H locs ls hC hH hL => lv_if_eq hC.1 hC.2.1 (hC.2.2.2.2.2.2.2.2.2.2.2.1 _ _ _ hd) ht (fun h => kt h p e s m args below meth c H locs ls hC hH hL) (fun h => kf h p e s m args below meth c H locs ls hC hH hL)
theorem aw_icmp_ne {x y : Int32} {off : Int} {tgt : Nat} (hd : m_at M pc = some (.if_icmp .ne off, 3)) (ht : (pc : Int) + off = (tgt : Int)) (kt : ¬ x = y → aw_W l g M R Z cells slots ws tgt L st) (kf : x = y → aw_W l g M R Z cells slots ws (pc + 3) L st) : aw_W l g M R Z cells slots ws pc L (.int y :: .int x :: st) := fun p e s m args below meth c H locs ls hC hH hL => lv_icmp_ne hC.1 hC.2.1 (hC.2.2.2.2.2.2.2.2.2.2.2.1 _ _ _ hd) ht (fun h => kt h p e s m args below meth c H locs ls hC hH hL) (fun h => kf h p e s m args below meth c H locs ls hC hH hL)
theorem aw_if_ne {x : Int32} {off : Int} {tgt : Nat} (hd : m_at M pc = some (.ifCond .ne off, 3)) (ht : (pc : Int) + off = (tgt : Int)) (kt : ¬ x = 0 → aw_W l g M R Z cells slots ws tgt L st) (kf : x = 0 → aw_W l g M R Z cells slots ws (pc + 3) L st) : aw_W l g M R Z cells slots ws pc L (.int x :: st) := fun p e s m args below meth c H locs ls hC hH hL => lv_if_ne hC.1 hC.2.1 (hC.2.2.2.2.2.2.2.2.2.2.2.1 _ _ _ hd) ht (fun h => kt h p e s m args below meth c H locs ls hC hH hL) (fun h => kf h p e s m args below meth c H locs ls hC hH hL)
theorem aw_icmp_lt {x y : Int32} {off : Int} {tgt : Nat} (hd : m_at M pc = some (.if_icmp .lt off, 3)) (ht : (pc : Int) + off = (tgt : Int)) (kt : x < y → aw_W l g M R Z cells slots ws tgt L st) (kf : ¬ x < y → aw_W l g M R Z cells slots ws (pc + 3) L st) : aw_W l g M R Z cells slots ws pc L (.int y :: .int x :: st) := fun p e s m args below meth c H locs ls hC hH hL => lv_icmp_lt hC.1 hC.2.1 (hC.2.2.2.2.2.2.2.2.2.2.2.1 _ _ _ hd) ht (fun h => kt h p e s m args below meth c H locs ls hC hH hL) (fun h => kf h p e s m args below meth c H locs ls hC hH hL)
theorem aw_if_lt {x : Int32} {off : Int} {tgt : Nat} (hd : m_at M pc = some (.ifCond .lt off, 3)) (ht : (pc : Int) + off = (tgt : Int)) (kt : x < 0 → aw_W l g M R Z cells slots ws tgt L st) (kf : ¬ x < 0 → aw_W l g M R Z cells slots ws (pc + 3) L st) : aw_W l g M R Z cells slots ws pc L (.int x :: st) := fun p e s m args below meth c H locs ls hC hH hL => lv_if_lt hC.1 hC.2.1 (hC.2.2.2.2.2.2.2.2.2.2.2.1 _ _ _ hd) ht (fun h => kt h p e s m args below meth c H locs ls hC hH hL) (fun h => kf h p e s m args below meth c H locs ls hC hH hL)
theorem aw_icmp_ge {x y : Int32} {off : Int} {tgt : Nat} (hd : m_at M pc = some (.if_icmp .ge off, 3)) (ht : (pc : Int) + off = (tgt : Int)) (kt : y ≤ x → aw_W l g M R Z cells slots ws tgt L st) (kf : ¬ y ≤ x → aw_W l g M R Z cells slots ws (pc + 3) L st) : aw_W l g M R Z cells slots ws pc L (.int y :: .int x :: st) := fun p e s m args below meth c H locs ls hC hH hL => lv_icmp_ge hC.1 hC.2.1 (hC.2.2.2.2.2.2.2.2.2.2.2.1 _ _ _ hd) ht (fun h => kt h p e s m args below meth c H locs ls hC hH hL) (fun h => kf h p e s m args below meth c H locs ls hC hH hL)
theorem aw_if_ge {x : Int32} {off : Int} {tgt : Nat} (hd : m_at M pc = some (.ifCond .ge off, 3)) (ht : (pc : Int) + off = (tgt : Int)) (kt : 0 ≤ x → aw_W l g M R Z cells slots ws tgt L st) (kf : ¬ 0 ≤ x → aw_W l g M R Z cells slots ws (pc + 3) L st) : aw_W l g M R Z cells slots ws pc L (.int x :: st) := fun p e s m args below meth c H locs ls hC hH hL => lv_if_ge hC.1 hC.2.1 (hC.2.2.2.2.2.2.2.2.2.2.2.1 _ _ _ hd) ht (fun h => kt h p e s m args below meth c H locs ls hC hH hL) (fun h => kf h p e s m args below meth c H locs ls hC hH hL)
theorem aw_icmp_gt {x y : Int32} {off : Int} {tgt : Nat} (hd : m_at M pc = some (.if_icmp .gt off, 3)) (ht : (pc : Int) + off = (tgt : Int)) (kt : y < x → aw_W l g M R Z cells slots ws tgt L st) (kf : ¬ y < x → aw_W l g M R Z cells slots ws (pc + 3) L st) : aw_W l g M R Z cells slots ws pc L (.int y :: .int x :: st) := fun p e s m args below meth c H locs ls hC hH hL => lv_icmp_gt hC.1 hC.2.1 (hC.2.2.2.2.2.2.2.2.2.2.2.1 _ _ _ hd) ht (fun h => kt h p e s m args below meth c H locs ls hC hH hL) (fun h => kf h p e s m args below meth c H locs ls hC hH hL)
theorem aw_if_gt {x : Int32} {off : Int} {tgt : Nat} (hd : m_at M pc = some (.ifCond .gt off, 3)) (ht : (pc : Int) + off = (tgt : Int)) (kt : 0 < x → aw_W l g M R Z cells slots ws tgt L st) (kf : ¬ 0 < x → aw_W l g M R Z cells slots ws (pc + 3) L st) : aw_W l g M R Z cells slots ws pc L (.int x :: st) := fun p e s m args below meth c H locs ls hC hH hL => lv_if_gt hC.1 hC.2.1 (hC.2.2.2.2.2.2.2.2.2.2.2.1 _ _ _ hd) ht (fun h => kt h p e s m args below meth c H locs ls hC hH hL) (fun h => kf h p e s m args below meth c H locs ls hC hH hL)
theorem aw_icmp_le {x y : Int32} {off : Int} {tgt : Nat} (hd : m_at M pc = some (.if_icmp .le off, 3)) (ht : (pc : Int) + off = (tgt : Int)) (kt : x ≤ y → aw_W l g M R Z cells slots ws tgt L st) (kf : ¬ x ≤ y → aw_W l g M R Z cells slots ws (pc + 3) L st) : aw_W l g M R Z cells slots ws pc L (.int y :: .int x :: st) := fun p e s m args below meth c H locs ls hC hH hL => lv_icmp_le hC.1 hC.2.1 (hC.2.2.2.2.2.2.2.2.2.2.2.1 _ _ _ hd) ht (fun h => kt h p e s m args below meth c H locs ls hC hH hL) (fun h => kf h p e s m args below meth c H locs ls hC hH hL)
theorem aw_if_le {x : Int32} {off : Int} {tgt : Nat} (hd : m_at M pc = some (.ifCond .le off, 3)) (ht : (pc : Int) + off = (tgt : Int)) (kt : x ≤ 0 → aw_W l g M R Z cells slots ws tgt L st) (kf : ¬ x ≤ 0 → aw_W l g M R Z cells slots ws (pc + 3) L st) : aw_W l g M R Z cells slots ws pc L (.int x :: st) := fun p e s m args below meth c H locs ls hC hH hL => lv_if_le hC.1 hC.2.1 (hC.2.2.2.2.2.2.2.2.2.2.2.1 _ _ _ hd) ht (fun h => kt h p e s m args below meth c H locs ls hC hH hL) (fun h => kf h p e s m args below meth c H locs ls hC hH hL)
end AwRows
end
section
section AwHeap
variable {l : Launch} {g : ag_G} {M : ag_M} {R : Room} {Z : ag_Z} {cells slots : Nat} {ws ws2 : va_W} {pc : Nat} {L : List (Option Value)} {st : List Value}
theorem aw_get {a q0 ci index N : Nat} {fs : List Value} {C : String} {T : u_T} (k : Nat) {v : Value} (hd : m_at M pc = some (.getfield index, 3)) (he : ws[q0]? = some (a, .inr (ci, fs))) (hc : aw_cl[ci]? = some (C, T, N)) (hin : ∀ w ∈ u_ws C T N, w ∈ aw_tbl) (hk : k < N) (hlink : Cond.fieldLink (m_y M).cls index (T k).1 (T k).2.1 (T k).2.2.1 ∈ aw_tbl) (hv : fs[k]? = some v) (kk : aw_W l g M R Z cells slots ws (pc + 3) L (v :: st)) : aw_W l g M R Z cells slots ws pc L (.ref a :: st) := fun p e s m args below meth c H locs ls hC hH hL => va_get hC.1 hC.2.1 hC.2.2.2.2.1 hin hC.2.2.2.1 hC.2.2.2.2.2.2.2.1 hH.1 q0 he hc k hk (hC.2.2.2.2.1 _ hlink) (fun _ h => h) hv (hC.2.2.2.2.2.2.2.2.2.2.2.1 _ _ _ hd) (kk p e s m args below meth c H locs ls hC hH hL)
theorem aw_put {a q0 ci index N : Nat} {fs : List Value} {C : String} {T : u_T} (k : Nat) {v : Value} {ty : FieldType} (ty0 : Nat → FieldType) (hd : m_at M pc = some (.putfield index, 3)) (he : ws[q0]? = some (a, .inr (ci, fs))) (hc : aw_cl[ci]? = some (C, T, N)) (hin : ∀ w ∈ u_ws C T N, w ∈ aw_tbl) (hty : ∀ k, k < N → parseFieldDescriptor (T k).2.2.1 = some (ty0 k)) (hnm : ∀ a, a < N → ∀ b, b < N → a ≠ b → (T a).2.1 ≠ (T b).2.1) (hk : k < N) (hlink : Cond.fieldLink (m_y M).cls index (T k).1 (T k).2.1 (T k).2.2.1 ∈ aw_tbl) (hfin : (T k).2.2.2 = false) (hy : ty0 k = ty) (hn : narrow ty v = v) (hfit : fits ty v = true) (hl : k < fs.length) (hw : ws.set q0 (a, .inr (ci, fs.set k v)) = ws2) (kk : aw_W l g M R Z cells slots ws2 (pc + 3) L st) : aw_W l g M R Z cells slots ws pc L (v :: .ref a :: st) := by
  subst hw; subst hy
  exact fun p e s m args below meth c H locs ls hC hH hL => va_put hC.1 hC.2.1 hC.2.2.2.2.1 hin ty0 hty hnm hC.2.2.2.1 hC.2.2.2.2.2.2.2.1 hH.1 hH.2.1 hH.2.2 q0 he hc k hk (hC.2.2.2.2.1 _ hlink) (fun _ h => h) hfin (hty k hk) hn hfit hl (hC.2.2.2.2.2.2.2.2.2.2.2.1 _ _ _ hd) (fun H1 locs1 h1 h2 h3 => kk p e s m args below meth c H1 locs1 ls hC ⟨h1, h2, h3⟩ hL)
theorem aw_putF {a q0 ci index N : Nat} {fs : List Value} {C : String} {T : u_T} (k : Nat) {v : Value} {ty : FieldType} (ty0 : Nat → FieldType) (hd : m_at M pc = some (.putfield index, 3)) (he : ws[q0]? = some (a, .inr (ci, fs))) (hc : aw_cl[ci]? = some (C, T, N)) (hin : ∀ w ∈ u_ws C T N, w ∈ aw_tbl) (hty : ∀ k, k < N → parseFieldDescriptor (T k).2.2.1 = some (ty0 k)) (hnm : ∀ a, a < N → ∀ b, b < N → a ≠ b → (T a).2.1 ≠ (T b).2.1) (hk : k < N) (hown : (m_y M).cls = (T k).1) (hi : (m_y M).name = "<init>") (hlink : Cond.fieldLink (m_y M).cls index (T k).1 (T k).2.1 (T k).2.2.1 ∈ aw_tbl) (hfin : (T k).2.2.2 = true) (hy : ty0 k = ty) (hn : narrow ty v = v) (hfit : fits ty v = true) (hl : k < fs.length) (hw : ws.set q0 (a, .inr (ci, fs.set k v)) = ws2) (kk : aw_W l g M R Z cells slots ws2 (pc + 3) L st) : aw_W l g M R Z cells slots ws pc L (v :: .ref a :: st) := by
  subst hw; subst hy
  exact fun p e s m args below meth c H locs ls hC hH hL => va_putF hC.1 hC.2.1 hC.2.2.2.2.1 hin ty0 hty hnm hC.2.2.2.1 hC.2.2.2.2.2.2.2.1 hH.1 hH.2.1 hH.2.2 q0 he hc k hk (hC.2.2.2.2.1 _ hlink) (fun _ h => h) hfin (hC.2.2.2.2.2.2.2.2.2.2.2.2.trans hi) hown.symm (hty k hk) hn hfit hl (hC.2.2.2.2.2.2.2.2.2.2.2.1 _ _ _ hd) (fun H1 locs1 h1 h2 h3 => kk p e s m args below meth c H1 locs1 ls hC ⟨h1, h2, h3⟩ hL)
theorem aw_iald {a q0 n : Nat} {f : Nat → Int32} {i : Int32} (hd : m_at M pc = some (.iaload, 1)) (ha : ws[q0]? = some (a, .inl (g_ca g 0, n, .inl f))) (hin : vp_in i n) (kk : aw_W l g M R Z cells slots ws (pc + 1) L (.int (f i.toNatClampNeg) :: st)) : aw_W l g M R Z cells slots ws pc L (.int i :: .ref a :: st) := fun p e s m args below meth c H locs ls hC hH hL => va_iald hC.1 hC.2.1 hC.2.2.2.2.2.2.2.1 hH.1 q0 0 ha rfl hin (hC.2.2.2.2.2.2.2.2.2.2.2.1 _ _ _ hd) (kk p e s m args below meth c H locs ls hC hH hL)
theorem aw_bald {a q0 n : Nat} {f : Nat → Int32} {i : Int32} (hd : m_at M pc = some (.baload, 1)) (ha : ws[q0]? = some (a, .inl (g_ca g 2, n, .inl f))) (hin : vp_in i n) (kk : aw_W l g M R Z cells slots ws (pc + 1) L (.int (f i.toNatClampNeg) :: st)) : aw_W l g M R Z cells slots ws pc L (.int i :: .ref a :: st) := fun p e s m args below meth c H locs ls hC hH hL => va_bald hC.1 hC.2.1 hC.2.2.2.2.2.2.2.1 hH.1 q0 2 ha rfl hin (hC.2.2.2.2.2.2.2.2.2.2.2.1 _ _ _ hd) (kk p e s m args below meth c H locs ls hC hH hL)
theorem aw_zald {a q0 n : Nat} {f : Nat → Int32} {i : Int32} (hd : m_at M pc = some (.baload, 1)) (ha : ws[q0]? = some (a, .inl (g_ca g 3, n, .inl f))) (hin : vp_in i n) (kk : aw_W l g M R Z cells slots ws (pc + 1) L (.int (f i.toNatClampNeg) :: st)) : aw_W l g M R Z cells slots ws pc L (.int i :: .ref a :: st) := fun p e s m args below meth c H locs ls hC hH hL => va_zald hC.1 hC.2.1 hC.2.2.2.2.2.2.2.1 hH.1 q0 3 ha rfl hin (hC.2.2.2.2.2.2.2.2.2.2.2.1 _ _ _ hd) (kk p e s m args below meth c H locs ls hC hH hL)
theorem aw_lald {a q0 n : Nat} {f : Nat → Int64} {i : Int32} (hd : m_at M pc = some (.laload, 1)) (ha : ws[q0]? = some (a, .inl (g_ca g 1, n, .inr (.inl f)))) (hin : vp_in i n) (kk : aw_W l g M R Z cells slots ws (pc + 1) L (.long (f i.toNatClampNeg) :: st)) : aw_W l g M R Z cells slots ws pc L (.int i :: .ref a :: st) := fun p e s m args below meth c H locs ls hC hH hL => va_lald hC.1 hC.2.1 hC.2.2.2.2.2.2.2.1 hH.1 q0 1 ha rfl hin (hC.2.2.2.2.2.2.2.2.2.2.2.1 _ _ _ hd) (kk p e s m args below meth c H locs ls hC hH hL)
theorem aw_iast {a q0 n : Nat} {f : Nat → Int32} {i : Int32} {x : Int32} (hd : m_at M pc = some (.iastore, 1)) (ha : ws[q0]? = some (a, .inl (g_ca g 0, n, .inl f))) (hin : vp_in i n) (hw : ws.set q0 (a, .inl (g_ca g 0, n, .inl (upd f i.toNatClampNeg x))) = ws2) (kk : aw_W l g M R Z cells slots ws2 (pc + 1) L st) : aw_W l g M R Z cells slots ws pc L (.int x :: .int i :: .ref a :: st) := by
  subst hw
  exact fun p e s m args below meth c H locs ls hC hH hL => va_iast hC.1 hC.2.1 hC.2.2.2.2.2.2.2.1 hH.1 hH.2.1 hH.2.2 q0 0 ha rfl hin (hC.2.2.2.2.2.2.2.2.2.2.2.1 _ _ _ hd) (fun H1 locs1 h1 h2 h3 => kk p e s m args below meth c H1 locs1 ls hC ⟨h1, h2, h3⟩ hL)
theorem aw_bast {a q0 n : Nat} {f : Nat → Int32} {i : Int32} {x : Int32} (hd : m_at M pc = some (.bastore, 1)) (ha : ws[q0]? = some (a, .inl (g_ca g 2, n, .inl f))) (hin : vp_in i n) (hw : ws.set q0 (a, .inl (g_ca g 2, n, .inl (upd f i.toNatClampNeg (vp_nar .byte x)))) = ws2) (kk : aw_W l g M R Z cells slots ws2 (pc + 1) L st) : aw_W l g M R Z cells slots ws pc L (.int x :: .int i :: .ref a :: st) := by
  subst hw
  exact fun p e s m args below meth c H locs ls hC hH hL => va_bast hC.1 hC.2.1 hC.2.2.2.2.2.2.2.1 hH.1 hH.2.1 hH.2.2 q0 2 ha rfl hin (hC.2.2.2.2.2.2.2.2.2.2.2.1 _ _ _ hd) (fun H1 locs1 h1 h2 h3 => kk p e s m args below meth c H1 locs1 ls hC ⟨h1, h2, h3⟩ hL)
theorem aw_zast {a q0 n : Nat} {f : Nat → Int32} {i : Int32} {x : Int32} (hd : m_at M pc = some (.bastore, 1)) (ha : ws[q0]? = some (a, .inl (g_ca g 3, n, .inl f))) (hin : vp_in i n) (hw : ws.set q0 (a, .inl (g_ca g 3, n, .inl (upd f i.toNatClampNeg (vp_nar .boolean x)))) = ws2) (kk : aw_W l g M R Z cells slots ws2 (pc + 1) L st) : aw_W l g M R Z cells slots ws pc L (.int x :: .int i :: .ref a :: st) := by
  subst hw
  exact fun p e s m args below meth c H locs ls hC hH hL => va_zast hC.1 hC.2.1 hC.2.2.2.2.2.2.2.1 hH.1 hH.2.1 hH.2.2 q0 3 ha rfl hin (hC.2.2.2.2.2.2.2.2.2.2.2.1 _ _ _ hd) (fun H1 locs1 h1 h2 h3 => kk p e s m args below meth c H1 locs1 ls hC ⟨h1, h2, h3⟩ hL)
theorem aw_last {a q0 n : Nat} {f : Nat → Int64} {i : Int32} {x : Int64} (hd : m_at M pc = some (.lastore, 1)) (ha : ws[q0]? = some (a, .inl (g_ca g 1, n, .inr (.inl f)))) (hin : vp_in i n) (hw : ws.set q0 (a, .inl (g_ca g 1, n, .inr (.inl (vp_updL f i.toNatClampNeg x)))) = ws2) (kk : aw_W l g M R Z cells slots ws2 (pc + 1) L st) : aw_W l g M R Z cells slots ws pc L (.long x :: .int i :: .ref a :: st) := by
  subst hw
  exact fun p e s m args below meth c H locs ls hC hH hL => va_last hC.1 hC.2.1 hC.2.2.2.2.2.2.2.1 hH.1 hH.2.1 hH.2.2 q0 1 ha rfl hin (hC.2.2.2.2.2.2.2.2.2.2.2.1 _ _ _ hd) (fun H1 locs1 h1 h2 h3 => kk p e s m args below meth c H1 locs1 ls hC ⟨h1, h2, h3⟩ hL)
theorem aw_aald {a q0 n : Nat} {f : Nat → Option Nat} {i : Int32} (hd : m_at M pc = some (.aaload, 1)) (ha : ws[q0]? = some (a, .inl (g_ca g 4, n, .inr (.inr (.inr (.inr f)))))) (hin : vp_in i n) (kk : aw_W l g M R Z cells slots ws (pc + 1) L (va_rf (f i.toNatClampNeg) :: st)) : aw_W l g M R Z cells slots ws pc L (.int i :: .ref a :: st) := fun p e s m args below meth c H locs ls hC hH hL => va_aldq hC.1 hC.2.1 hC.2.2.2.2.2.2.2.1 hH.1 q0 4 ha rfl hin (hC.2.2.2.2.2.2.2.2.2.2.2.1 _ _ _ hd) (kk p e s m args below meth c H locs ls hC hH hL)
theorem aw_alen {a q0 : Nat} (t : Nat) {x : vp_A} {v : Int32} (hd : m_at M pc = some (.arraylength, 1)) (ht : t < 5) (ha : ws[q0]? = some (a, .inl (g_ca g t, x))) (hv : Int32.ofNat x.1 = v) (kk : aw_W l g M R Z cells slots ws (pc + 1) L (.int v :: st)) : aw_W l g M R Z cells slots ws pc L (.ref a :: st) := by
  intro p e s m args below meth c H locs ls hC hH hL
  have k9 := (kk p e s m args below meth c H locs ls hC hH hL)
  rcases t with _ | _ | _ | _ | _ | t
  · exact va_alen hC.1 hC.2.1 hC.2.2.2.2.2.2.2.1 hH.1 q0 0 ha rfl hv (hC.2.2.2.2.2.2.2.2.2.2.2.1 _ _ _ hd) k9
  · exact va_alen hC.1 hC.2.1 hC.2.2.2.2.2.2.2.1 hH.1 q0 1 ha rfl hv (hC.2.2.2.2.2.2.2.2.2.2.2.1 _ _ _ hd) k9
  · exact va_alen hC.1 hC.2.1 hC.2.2.2.2.2.2.2.1 hH.1 q0 2 ha rfl hv (hC.2.2.2.2.2.2.2.2.2.2.2.1 _ _ _ hd) k9
  · exact va_alen hC.1 hC.2.1 hC.2.2.2.2.2.2.2.1 hH.1 q0 3 ha rfl hv (hC.2.2.2.2.2.2.2.2.2.2.2.1 _ _ _ hd) k9
  · exact va_alen hC.1 hC.2.1 hC.2.2.2.2.2.2.2.1 hH.1 q0 4 ha rfl hv (hC.2.2.2.2.2.2.2.2.2.2.2.1 _ _ _ hd) k9
  · omega
theorem aw_ldc {index : Nat} {v : Int32} (hd : m_at M pc = some (.ldc index, 2)) (hc : Cond.constant (m_y M).cls index v ∈ aw_tbl) (kk : aw_W l g M R Z cells slots ws (pc + 2) L (.int v :: st)) : aw_W l g M R Z cells slots ws pc L st := fun p e s m args below meth c H locs ls hC hH hL => lv_ldc hC.1 hC.2.1 hC.2.2.2.1 (hC.2.2.2.2.1 _ hc) (hC.2.2.2.2.2.2.2.2.2.2.2.1 _ _ _ hd) (kk p e s m args below meth c H locs ls hC hH hL)
theorem aw_ldc2 {index : Nat} {v : Int64} (hd : m_at M pc = some (.ldc2_w index, 3)) (hc : Cond.constantLong (m_y M).cls index v ∈ aw_tbl) (kk : aw_W l g M R Z cells slots ws (pc + 3) L (.long v :: st)) : aw_W l g M R Z cells slots ws pc L st := fun p e s m args below meth c H locs ls hC hH hL => lv_ldc2 hC.1 hC.2.1 hC.2.2.2.1 (hC.2.2.2.2.1 _ hc) (hC.2.2.2.2.2.2.2.2.2.2.2.1 _ _ _ hd) (kk p e s m args below meth c H locs ls hC hH hL)
theorem aw_mmin {index : Nat} {x y : Int32} (hd : m_at M pc = some (.invokestatic index, 3)) (hl : Cond.methodLink (m_y M).cls index Lib.Math.min.name ∈ aw_tbl) (hs : Cond.static Lib.Math.min.name ∈ aw_tbl) (hi : Cond.initialized "java/lang/Math" ∈ aw_tbl) (hc : Cond.code Lib.Math.min.name Lib.Math.min.code 2 (some .int) ∈ aw_tbl) (hf : 1 ≤ R.frames) (hlo : (st.map fun v => v.category).sum + 13 ≤ R.locals) (h1 : cells ≤ R.cells) (h2 : slots ≤ R.slots) (kk : aw_W l g M R Z cells slots ws (pc + 3) L (.int (if y < x then y else x) :: st)) : aw_W l g M R Z cells slots ws pc L (.int y :: .int x :: st) := fun p e s m args below meth c H locs ls hC hH hL => va_mmin hC.1 hC.2.1 (hC.2.2.1.trans hL.1.symm) hC.2.2.2.1 (hC.2.2.2.2.1 _ hl) (hC.2.2.2.2.1 _ hs) (hC.2.2.2.2.1 _ hi) (hC.2.2.2.2.1 _ hc) hf hlo h1 h2 (hC.2.2.2.2.2.2.2.2.2.2.2.1 _ _ _ hd) (kk p e s m args below meth c H locs ls hC hH hL)
theorem aw_mmax {index : Nat} {x y : Int32} (hd : m_at M pc = some (.invokestatic index, 3)) (hl : Cond.methodLink (m_y M).cls index Lib.Math.max.name ∈ aw_tbl) (hs : Cond.static Lib.Math.max.name ∈ aw_tbl) (hi : Cond.initialized "java/lang/Math" ∈ aw_tbl) (hc : Cond.code Lib.Math.max.name Lib.Math.max.code 2 (some .int) ∈ aw_tbl) (hf : 1 ≤ R.frames) (hlo : (st.map fun v => v.category).sum + 13 ≤ R.locals) (h1 : cells ≤ R.cells) (h2 : slots ≤ R.slots) (kk : aw_W l g M R Z cells slots ws (pc + 3) L (.int (if x < y then y else x) :: st)) : aw_W l g M R Z cells slots ws pc L (.int y :: .int x :: st) := fun p e s m args below meth c H locs ls hC hH hL => va_mmax hC.1 hC.2.1 (hC.2.2.1.trans hL.1.symm) hC.2.2.2.1 (hC.2.2.2.2.1 _ hl) (hC.2.2.2.2.1 _ hs) (hC.2.2.2.2.1 _ hi) (hC.2.2.2.2.1 _ hc) hf hlo h1 h2 (hC.2.2.2.2.2.2.2.2.2.2.2.1 _ _ _ hd) (kk p e s m args below meth c H locs ls hC hH hL)
theorem aw_mabs {index : Nat} {x : Int32} (hd : m_at M pc = some (.invokestatic index, 3)) (hl : Cond.methodLink (m_y M).cls index Lib.Math.abs.name ∈ aw_tbl) (hs : Cond.static Lib.Math.abs.name ∈ aw_tbl) (hi : Cond.initialized "java/lang/Math" ∈ aw_tbl) (hc : Cond.code Lib.Math.abs.name Lib.Math.abs.code 1 (some .int) ∈ aw_tbl) (hf : 1 ≤ R.frames) (hlo : (st.map fun v => v.category).sum + 13 ≤ R.locals) (h1 : cells ≤ R.cells) (h2 : slots ≤ R.slots) (kk : aw_W l g M R Z cells slots ws (pc + 3) L (.int (if 0 ≤ x then x else 0 - x) :: st)) : aw_W l g M R Z cells slots ws pc L (.int x :: st) := fun p e s m args below meth c H locs ls hC hH hL => va_mabs hC.1 hC.2.1 (hC.2.2.1.trans hL.1.symm) hC.2.2.2.1 (hC.2.2.2.2.1 _ hl) (hC.2.2.2.2.1 _ hs) (hC.2.2.2.2.1 _ hi) (hC.2.2.2.2.1 _ hc) hf hlo h1 h2 (hC.2.2.2.2.2.2.2.2.2.2.2.1 _ _ _ hd) (kk p e s m args below meth c H locs ls hC hH hL)
theorem aw_mmax_long {index : Nat} {x y : Int64} (hd : m_at M pc = some (.invokestatic index, 3)) (hl : Cond.methodLink (m_y M).cls index Lib.MathLoose.max_long.x ∈ aw_tbl) (hs : Cond.static Lib.MathLoose.max_long.x ∈ aw_tbl) (hi : Cond.initialized "java/lang/Math" ∈ aw_tbl) (hc : Cond.code Lib.MathLoose.max_long.x Lib.MathLoose.max_long.code 4 (some .long) ∈ aw_tbl) (hf : 1 ≤ R.frames) (hlo : (st.map fun v => v.category).sum + 15 ≤ R.locals) (h1 : cells ≤ R.cells) (h2 : slots ≤ R.slots) (kk : aw_W l g M R Z cells slots ws (pc + 3) L (.long (if y < x then x else y) :: st)) : aw_W l g M R Z cells slots ws pc L (.long y :: .long x :: st) := fun p e s m args below meth c H locs ls hC hH hL => va_mmax_long hC.1 hC.2.1 (hC.2.2.1.trans hL.1.symm) hC.2.2.2.1 (hC.2.2.2.2.1 _ hl) (hC.2.2.2.2.1 _ hs) (hC.2.2.2.2.1 _ hi) (hC.2.2.2.2.1 _ hc) hf hlo h1 h2 (hC.2.2.2.2.2.2.2.2.2.2.2.1 _ _ _ hd) (kk p e s m args below meth c H locs ls hC hH hL)
theorem aw_mmin_long {index : Nat} {x y : Int64} (hd : m_at M pc = some (.invokestatic index, 3)) (hl : Cond.methodLink (m_y M).cls index Lib.MathLoose.min_long.x ∈ aw_tbl) (hs : Cond.static Lib.MathLoose.min_long.x ∈ aw_tbl) (hi : Cond.initialized "java/lang/Math" ∈ aw_tbl) (hc : Cond.code Lib.MathLoose.min_long.x Lib.MathLoose.min_long.code 4 (some .long) ∈ aw_tbl) (hf : 1 ≤ R.frames) (hlo : (st.map fun v => v.category).sum + 15 ≤ R.locals) (h1 : cells ≤ R.cells) (h2 : slots ≤ R.slots) (kk : aw_W l g M R Z cells slots ws (pc + 3) L (.long (if y < x then y else x) :: st)) : aw_W l g M R Z cells slots ws pc L (.long y :: .long x :: st) := fun p e s m args below meth c H locs ls hC hH hL => va_mmin_long hC.1 hC.2.1 (hC.2.2.1.trans hL.1.symm) hC.2.2.2.1 (hC.2.2.2.2.1 _ hl) (hC.2.2.2.2.1 _ hs) (hC.2.2.2.2.1 _ hi) (hC.2.2.2.2.1 _ hc) hf hlo h1 h2 (hC.2.2.2.2.2.2.2.2.2.2.2.1 _ _ _ hd) (kk p e s m args below meth c H locs ls hC hH hL)
theorem aw_copy {index q0 q1 a0 a n0 n1 : Nat} {f h : Nat → Int32} {sp dp n : Int32} (hd : m_at M pc = some (.invokestatic index, 3)) (hl : Cond.methodLink (m_y M).cls index arraycopyName ∈ aw_tbl) (hna : Cond.native arraycopyName ∈ aw_tbl) (hs : Cond.static arraycopyName ∈ aw_tbl) (hi : Cond.initialized "java/lang/System" ∈ aw_tbl) (ha0 : ws[q0]? = some (a0, .inl (g_ca g 0, n0, .inl f))) (ha1 : ws[q1]? = some (a, .inl (g_ca g 0, n1, .inl h))) (h1 : ¬ sp < 0) (h2 : ¬ dp < 0) (h3 : ¬ n < 0) (h4 : sp.toNatClampNeg + n.toNatClampNeg ≤ n0) (h5 : dp.toNatClampNeg + n.toNatClampNeg ≤ n1) (hf : 1 ≤ R.frames) (hlo : (st.map fun v => v.category).sum + (nativeFrameWords "java/lang/System" "arraycopy" 5 + 11) ≤ R.locals) (hw : ws.set q1 (a, .inl (g_ca g 0, n1, .inl (va_cpy f h sp.toNatClampNeg dp.toNatClampNeg n.toNatClampNeg))) = ws2) (kk : aw_W l g M R Z cells slots ws2 (pc + 3) L st) : aw_W l g M R Z cells slots ws pc L (.int n :: .int dp :: .ref a :: .int sp :: .ref a0 :: st) := by
  subst hw
  exact fun p e s m args below meth c H locs ls hC hH hL => va_copyi hC.1 hC.2.1 (hC.2.2.1.trans hL.1.symm) hC.2.2.2.1 (hC.2.2.2.2.1 _ hl) (hC.2.2.2.2.1 _ hna) (hC.2.2.2.2.1 _ hs) (hC.2.2.2.2.1 _ hi) hC.2.2.2.2.2.2.2.1 hH.1 hH.2.1 hH.2.2 q0 q1 0 0 ha0 ha1 rfl rfl rfl h1 h2 h3 h4 h5 (fun _ _ => rfl) hf hlo (hC.2.2.2.2.2.2.2.2.2.2.2.1 _ _ _ hd) (fun H1 locs1 h1 h2 h3 => kk p e s m args below meth c H1 locs1 ls hC ⟨h1, h2, h3⟩ hL)
theorem aw_tabIn {dflt lo hi off : Int} {offs : Array Int} {len tgt : Nat} {x : Int32} (hd : m_at M pc = some (.tableswitch dflt lo hi offs, len)) (h1 : ¬ x.toInt < lo) (h2 : ¬ hi < x.toInt) (ho : offs[(x.toInt - lo).toNat]? = some off) (ht : (pc : Int) + off = (tgt : Int)) (kk : aw_W l g M R Z cells slots ws tgt L st) : aw_W l g M R Z cells slots ws pc L (.int x :: st) := fun p e s m args below meth c H locs ls hC hH hL => lv_tableIn hC.1 hC.2.1 (hC.2.2.2.2.2.2.2.2.2.2.2.1 _ _ _ hd) h1 h2 ho ht (kk p e s m args below meth c H locs ls hC hH hL)
theorem aw_tabOut {dflt lo hi : Int} {offs : Array Int} {len tgt : Nat} {x : Int32} (hd : m_at M pc = some (.tableswitch dflt lo hi offs, len)) (h : x.toInt < lo ∨ hi < x.toInt) (ht : (pc : Int) + dflt = (tgt : Int)) (kk : aw_W l g M R Z cells slots ws tgt L st) : aw_W l g M R Z cells slots ws pc L (.int x :: st) := fun p e s m args below meth c H locs ls hC hH hL => lv_tableOut hC.1 hC.2.1 (hC.2.2.2.2.2.2.2.2.2.2.2.1 _ _ _ hd) h ht (kk p e s m args below meth c H locs ls hC hH hL)
theorem aw_look {dflt off : Int} {ps : Array (Int × Int)} {len tgt : Nat} {x : Int32} (hd : m_at M pc = some (.lookupswitch dflt ps, len)) (hp : (ps.toList.zip (ps.toList.drop 1)).all (fun (a, next) => a.1 < next.1) = true) (ho : Op.lookupswitch.offset ps.toList dflt x.toInt = off) (ht : (pc : Int) + off = (tgt : Int)) (kk : aw_W l g M R Z cells slots ws tgt L st) : aw_W l g M R Z cells slots ws pc L (.int x :: st) := fun p e s m args below meth c H locs ls hC hH hL => lv_lookup hC.1 hC.2.1 (hC.2.2.2.2.2.2.2.2.2.2.2.1 _ _ _ hd) hp ho ht (kk p e s m args below meth c H locs ls hC hH hL)
theorem aw_ifnull {x : Nat} {off : Int} (hd : m_at M pc = some (.ifnull off, 3)) (kk : aw_W l g M R Z cells slots ws (pc + 3) L st) : aw_W l g M R Z cells slots ws pc L (.ref x :: st) := fun p e s m args below meth c H locs ls hC hH hL => lv_ifnull hC.1 hC.2.1 (hC.2.2.2.2.2.2.2.2.2.2.2.1 _ _ _ hd) (kk p e s m args below meth c H locs ls hC hH hL)
theorem aw_ifnonnull {x tgt : Nat} {off : Int} (hd : m_at M pc = some (.ifnonnull off, 3)) (ht : (pc : Int) + off = (tgt : Int)) (kk : aw_W l g M R Z cells slots ws tgt L st) : aw_W l g M R Z cells slots ws pc L (.ref x :: st) := fun p e s m args below meth c H locs ls hC hH hL => lv_ifnonnull hC.1 hC.2.1 (hC.2.2.2.2.2.2.2.2.2.2.2.1 _ _ _ hd) ht (kk p e s m args below meth c H locs ls hC hH hL)
end AwHeap
end
section
section AwCalls
variable {l : Launch} {g : ag_G} {M : ag_M} {R : Room} {Z : ag_Z} {cells slots : Nat} {ws ws2 : va_W} {pc : Nat} {L : List (Option Value)} {st : List Value} {Q : Option Value → va_W → Prop}
theorem aw_end {s t : State} {args : Array Value} {H : Heap} {locs : List Loc} {r : Option Value} (hH : aw_H g ws s H locs) (hq : Q r ws) (ht : t.heap = H) : aw_Q g Q args s (.returned r) t :=
  ⟨⟨r, ws, rfl, hq, by rw [ht]; exact hH.1, hH.2.1⟩, hH.2.2.F ht⟩
theorem aw_iret {v : Int32} (hd : m_at M pc = some (.ireturn, 1)) (hr : m_r M = some .int) (hq : Q (some (.int v)) ws) : aw_W l g M R (aw_Z g Q cells slots) cells slots ws pc L [.int v] :=
  fun p e s m args below meth c H locs ls hC hH hL => W.iret hC.1 hC.2.1 (hC.2.2.2.2.2.1.trans hr) (fun t ht _ => aw_end hH hq ht) hH.2.2.2.2 (hC.2.2.2.2.2.2.2.2.2.2.2.1 _ _ _ hd) hC.2.2.2.2.2.2.1
theorem aw_zret {v : Int32} (hd : m_at M pc = some (.ireturn, 1)) (hr : m_r M = some .boolean) (hv : v = 0 ∨ v = 1) (hq : Q (some (.int v)) ws) : aw_W l g M R (aw_Z g Q cells slots) cells slots ws pc L [.int v] :=
  fun p e s m args below meth c H locs ls hC hH hL => W.zret (ty := .boolean) hC.1 hC.2.1 (hC.2.2.2.2.2.1.trans hr) (by rcases hv with rfl | rfl <;> rfl) (fun t ht _ => aw_end hH hq ht) hH.2.2.2.2 (hC.2.2.2.2.2.2.2.2.2.2.2.1 _ _ _ hd) hC.2.2.2.2.2.2.1
theorem aw_vret (hd : m_at M pc = some (.return_, 1)) (hr : m_r M = none) (hq : Q none ws) : aw_W l g M R (aw_Z g Q cells slots) cells slots ws pc L [] :=
  fun p e s m args below meth c H locs ls hC hH hL => W.vret hC.1 hC.2.1 (hC.2.2.2.2.2.1.trans hr) (fun t ht _ => aw_end hH hq ht) hH.2.2.2.2 (hC.2.2.2.2.2.2.2.2.2.2.2.1 _ _ _ hd) hC.2.2.2.2.2.2.1
theorem aw_aret {a : Nat} {t : FieldType} (hd : m_at M pc = some (.areturn, 1)) (hr : m_r M = some (.array t)) (hq : Q (some (.ref a)) ws) : aw_W l g M R (aw_Z g Q cells slots) cells slots ws pc L [.ref a] :=
  fun p e s m args below meth c H locs ls hC hH hL => W.aret hC.1 hC.2.1 (hC.2.2.2.2.2.1.trans hr) (Or.inr ⟨t, rfl⟩) (Or.inr ⟨a, rfl⟩) (fun t ht _ => aw_end hH hq ht) hH.2.2.2.2 (hC.2.2.2.2.2.2.2.2.2.2.2.1 _ _ _ hd) hC.2.2.2.2.2.2.1
theorem aw_sret {C : String} {a : Nat} (hd : m_at M pc = some (.areturn, 1)) (hr : m_r M = some (.object C)) (hq : Q (some (.ref a)) ws) : aw_W l g M R (aw_Z g Q cells slots) cells slots ws pc L [.ref a] :=
  fun p e s m args below meth c H locs ls hC hH hL => W.aret hC.1 hC.2.1 (hC.2.2.2.2.2.1.trans hr) (Or.inl ⟨C, rfl⟩) (Or.inr ⟨a, rfl⟩) (fun t ht _ => aw_end hH hq ht) hH.2.2.2.2 (hC.2.2.2.2.2.2.2.2.2.2.2.1 _ _ _ hd) hC.2.2.2.2.2.2.1
/-- a contract out of the walk of the body -/
theorem aw_M_of {n mc ms : Nat} {vs : List Value} (hok : aw_ok M) (hy : plainName (m_y M).cls = true) (hn : (lg_sl vs).length ≤ m_n M) (body : aw_W l g M (aw_rm n mc ms) (aw_Z g Q mc ms) 0 0 ws 0 (aw_arg vs) []) : aw_M l g M n mc ms vs ws Q := by
  refine Met.ofW (cc := m_c M) (maxL := m_n M) (ret := m_r M) hy rfl ?_
  intro p e s m args below meth c s₁ B hml hv
  obtain ⟨rfl, hb, hP, hD, hK, hX, hXM⟩ := hv
  have hts := atoms_spec (ws := aw_ws M) B.pre
  rw [lg_entry_eq]
  refine body p e s m _ below meth c s.heap [] _ ⟨B.exec, B.bytes, hml, findClass_of_methodNamed B.named, fun w hw => hts w (List.mem_cons_of_mem _ hw), B.returns, B.notSynchronized, hK, hX, hb, hXM, hok, (name_of_methodNamed B.named B.method).1⟩ ⟨hP, hD, va_S.rf⟩ ?_
  have hl := lv_entry vs hn
  exact ⟨hl.1, hl.2.1, fun i v hi => hl.2.2 (i, v) (by simpa using aw_arg_has vs i 0 v hi)⟩
theorem aw_blind {vs : List Value} : FrameBlind (aw_Pc g vs ws) := by
  intro a U f mk h
  obtain ⟨h1, h2, h3, h4, h5, h6, h7⟩ := h
  exact ⟨h1, h2, h3, h4, va_K.moved (u := U) (U := U.calling f mk a) (Vm.Alike.refl U.vm) h5, h7 U (U.calling f mk a) h6 (Vm.Alike.refl U.vm) (Nat.le_refl _) (fun _ _ _ => rfl), h7⟩
theorem aw_pre {s U : State} {H : Heap} {locs : List Loc} {p : Program} {m : MethodId} {args : Array Value} {meth : Method} {c : Code} {vs : List Value} (hC : aw_C g M p s m args meth c) (hH : aw_H g ws s H locs) (hU : U.heap = H) (hW : s.WarmedH U.vm) : aw_Pc g vs ws vs.toArray U := by
  obtain ⟨-, -, -, -, -, -, -, hK, hX, hb, hXM, -⟩ := hC
  obtain ⟨hP, hD, hS⟩ := hH
  refine ⟨rfl, by rw [hU]; exact Nat.le_trans hb hS.1, by rw [hU]; exact hP, hD, va_K.moved hW.alike hK, ?_, hXM⟩
  exact hXM s U hX hW.alike (by rw [hU]; exact hS.1) (fun q h1 h2 => by rw [hU]; exact hS.2.1 q h1 h2)
theorem aw_goes {p : Program} {e : Env} {s : State} {m : MethodId} {args : Array Value} {below : List Frame} {meth : Method} {c : Code} {H : Heap} {locs : List Loc} {ls : Array Slot} {mc ms : Nat} {rest st0 : List Value} {a : Array Value} {Q' : Option Value → va_W → Prop}
    (hC : aw_C g M p s m args meth c) (hH : aw_H g ws s H locs) (hL : aw_L ls (m_n M) L)
    (hr : va_Run p l e R s m args below meth c H locs cells slots mc ms (F0 m pc ls st0) rest (aw_Q g Q' a) (aw_A g))
    (kk : ∀ (r : Option Value) (ws' : va_W), Q' r ws' → aw_W l g M R Z (cells + mc) (slots + ms) ws' (pc + 3) L (r.toList ++ rest)) :
    W p l e R s m args below meth c H locs cells slots (Z below args s) (F0 m pc ls st0) := by
  intro T hT X
  obtain ⟨v, st₀, t, T', LL, h0, X', hLL, e1, e2, ⟨⟨r, ws', hv, hq, hP, hD⟩, hz, hk⟩, st⟩ := hr T hT X
  cases hv
  rw [h0] at hz hk
  have hS := hH.2.2
  obtain ⟨t2, a1, b1⟩ := kk v ws' hq p e s m args below meth c T'.heap (locs ++ LL) ls hC
    ⟨by rw [e1]; exact hP, hD, Nat.le_trans hS.1 (by rw [e1]; exact hz), fun q h1 h2 => by rw [e1, hk q (Nat.lt_of_lt_of_le h1 hS.1) h2]; exact hS.2.1 q h1 h2, fun q hq => by
      rcases List.mem_append.mp hq with h | h
      · exact hS.2.2 q h
      · exact hLL q h⟩ hL T' rfl X'
  exact ⟨t2, st t2 a1, b1⟩
/-- the words of a call -/
def aw_cV (own : String) (index : Nat) (N : ag_M) (k : Nat) : Prop := Cond.methodLink own index (m_y N) ∈ aw_tbl ∧ Cond.instanceMethod (m_y N) ∈ aw_tbl ∧ Cond.selects (m_y N).cls (m_y N) (m_y N) ∈ aw_tbl ∧ Cond.initialized (m_y N).cls ∈ aw_tbl ∧ Cond.code (m_y N) (m_c N) (m_n N) (m_r N) ∈ aw_tbl ∧ ((m_y N).cls ≠ "java/lang/invoke/MethodHandle" ∧ (m_y N).cls ≠ "java/lang/invoke/VarHandle" ∧ (parseMethodDescriptor (m_y N).desc).map (fun d => d.parameters.length) = some k)
def aw_cS (own : String) (index : Nat) (N : ag_M) (k : Nat) : Prop := Cond.methodLink own index (m_y N) ∈ aw_tbl ∧ Cond.static (m_y N) ∈ aw_tbl ∧ Cond.initialized (m_y N).cls ∈ aw_tbl ∧ Cond.code (m_y N) (m_c N) (m_n N) (m_r N) ∈ aw_tbl ∧ ((m_y N).cls ≠ "java/lang/invoke/MethodHandle" ∧ (m_y N).cls ≠ "java/lang/invoke/VarHandle" ∧ (parseMethodDescriptor (m_y N).desc).map (fun d => d.parameters.length) = some k)
theorem aw_wsGood {N : ag_M} (h : Cond.code (m_y N) (m_c N) (m_n N) (m_r N) ∈ aw_tbl) : GoodIn aw_tbl (aw_ws N) := fun w hw => by
  rcases List.mem_cons.mp hw with rfl | hw
  · exact aw_goodIn _ h
  · exact aw_goodIn _ hw
theorem aw_callV {N : ag_M} {index n mc ms k q0 ci b : Nat} {C : vw_C} {fs As rest st0 : List Value} {Q' : Option Value → va_W → Prop}
    (hd : m_at M pc = some (.invokevirtual index, 3)) (hw : aw_cV (m_y M).cls index N k) (hc : aw_cl[ci]? = some C) (hcn : C.1 = (m_y N).cls) (he : ws[q0]? = some (b, .inr (ci, fs)))
    (hM : aw_M l g N n mc ms (.ref b :: As) ws Q') (hk : As.length = k) (hst : st0 = As.reverse ++ .ref b :: rest) (hrest : (rest.map fun v => v.category).sum ≤ 8) (hf : n + 1 ≤ R.frames) (hlo : 8 + (m_n N + 11) + 100 * n ≤ R.locals) (h1 : cells + mc ≤ R.cells) (h2 : slots + ms ≤ R.slots)
    (kk : ∀ (r : Option Value) (ws' : va_W), Q' r ws' → aw_W l g M R Z (cells + mc) (slots + ms) ws' (pc + 3) L (r.toList ++ rest)) : aw_W l g M R Z cells slots ws pc L st0 := by
  intro p e s m args below meth c H locs ls hC hH hL
  obtain ⟨w1, w2, w3, w4, w5, w6⟩ := hw
  subst hst
  refine aw_goes hC hH hL (va_runV (nL := m_n M) (cc := m_c M) (As := As) (b := b) ⟨hC.1, hC.2.1, hC.2.2.1, hC.2.2.2.1, hC.2.2.2.2.1⟩ hM (cwV (C := (m_y N).cls) (bytes := m_c N) (maxL := m_n N) (ret := m_r N) k hC.2.2.2.2.1 ?_ rfl rfl rfl ⟨rfl, w6⟩ ⟨hf, hlo⟩) ⟨aw_blind, ?_, fun U hU hW => aw_pre hC hH hU hW⟩ rfl hk hL.1 rfl (lv_room hrest) (hC.2.2.2.2.2.2.2.2.2.2.2.1 _ _ _ hd) ⟨h1, h2⟩) kk
  · intro w hw
    rcases List.mem_append.mp hw with hw | hw
    · simp only [List.mem_cons, List.not_mem_nil, or_false] at hw
      rcases hw with rfl | rfl | rfl | rfl
      · exact aw_goodIn _ w1
      · exact aw_goodIn _ w2
      · exact aw_goodIn _ w3
      · exact aw_goodIn _ w4
    · exact aw_wsGood w5 w hw
  · rw [← hcn]; exact va_recv hC.2.2.2.2.2.2.2.1 hH.1 hc he
theorem aw_callS {N : ag_M} {index n mc ms k : Nat} {As rest st0 : List Value} {Q' : Option Value → va_W → Prop}
    (hd : m_at M pc = some (.invokestatic index, 3)) (hw : aw_cS (m_y M).cls index N k)
    (hM : aw_M l g N n mc ms As ws Q') (hk : As.length = k) (hst : st0 = As.reverse ++ rest) (hrest : (rest.map fun v => v.category).sum ≤ 8) (hf : n + 1 ≤ R.frames) (hlo : 8 + (m_n N + 11) + 100 * n ≤ R.locals) (h1 : cells + mc ≤ R.cells) (h2 : slots + ms ≤ R.slots)
    (kk : ∀ (r : Option Value) (ws' : va_W), Q' r ws' → aw_W l g M R Z (cells + mc) (slots + ms) ws' (pc + 3) L (r.toList ++ rest)) : aw_W l g M R Z cells slots ws pc L st0 := by
  intro p e s m args below meth c H locs ls hC hH hL
  obtain ⟨w1, w2, w3, w5, w6⟩ := hw
  subst hst
  refine aw_goes hC hH hL (va_runS (nL := m_n M) (cc := m_c M) (As := As) ⟨hC.1, hC.2.1, hC.2.2.1, hC.2.2.2.1, hC.2.2.2.2.1⟩ hM (va_cwS (bytes := m_c N) (maxL := m_n N) (ret := m_r N) k hC.2.2.2.2.1 ?_ rfl rfl rfl w6 ⟨hf, hlo⟩) ⟨aw_blind, fun U hU hW => aw_pre hC hH hU hW⟩ rfl hk hL.1 rfl (lv_room hrest) (hC.2.2.2.2.2.2.2.2.2.2.2.1 _ _ _ hd) ⟨h1, h2⟩) kk
  intro w hw
  rcases List.mem_append.mp hw with hw | hw
  · simp only [List.mem_cons, List.not_mem_nil, or_false] at hw
    rcases hw with rfl | rfl | rfl
    · exact aw_goodIn _ w1
    · exact aw_goodIn _ w2
    · exact aw_goodIn _ w3
  · exact aw_wsGood w5 w hw
end AwCalls
end
