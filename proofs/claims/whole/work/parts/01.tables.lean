-- ===== PART A: goes FIRST, ahead of the names: the tables' words, and 'selects' of the private methods out of them =====
/-- a private method of a class that the tables say can be made, by its rows of tables_1 -/
def lw_okq (q : MethodName × Nat) : Prop := (q.1.cls ≠ "java/lang/invoke/MethodHandle" ∧ q.1.cls ≠ "java/lang/invoke/VarHandle") ∧ Cond.instantiable q.1.cls q.2 ∈ tables_1 ∧ Cond.privateMethod q.1 ∈ tables_1 ∧ Cond.instanceMethod q.1 ∈ tables_1
theorem lw_p0 : lw_okq (⟨"WaxReign$KingdomReader", "setsWhatIsWithout", "(I)V"⟩, 3) := ⟨⟨by decide +kernel, by decide +kernel⟩, List.mem_of_getElem? (i := 58) (by decide +kernel), List.mem_of_getElem? (i := 356) (by decide +kernel), List.mem_of_getElem? (i := 357) (by decide +kernel)⟩
theorem lw_p1 : lw_okq (⟨"WaxReign$KingdomReader", "readsClause", "()Z"⟩, 3) := ⟨⟨by decide +kernel, by decide +kernel⟩, List.mem_of_getElem? (i := 58) (by decide +kernel), List.mem_of_getElem? (i := 371) (by decide +kernel), List.mem_of_getElem? (i := 372) (by decide +kernel)⟩
theorem lw_p2 : lw_okq (⟨"WaxReign$KingdomReader", "readsNumber", "(II)Z"⟩, 3) := ⟨⟨by decide +kernel, by decide +kernel⟩, List.mem_of_getElem? (i := 58) (by decide +kernel), List.mem_of_getElem? (i := 474) (by decide +kernel), List.mem_of_getElem? (i := 475) (by decide +kernel)⟩
theorem lw_p3 : lw_okq (⟨"WaxReign$KingdomReader", "isWhole", "()Z"⟩, 3) := ⟨⟨by decide +kernel, by decide +kernel⟩, List.mem_of_getElem? (i := 58) (by decide +kernel), List.mem_of_getElem? (i := 484) (by decide +kernel), List.mem_of_getElem? (i := 485) (by decide +kernel)⟩
theorem lw_p4 : lw_okq (⟨"WaxReign$LawReader", "readsClause", "()Z"⟩, 3) := ⟨⟨by decide +kernel, by decide +kernel⟩, List.mem_of_getElem? (i := 74) (by decide +kernel), List.mem_of_getElem? (i := 501) (by decide +kernel), List.mem_of_getElem? (i := 502) (by decide +kernel)⟩
theorem lw_p5 : lw_okq (⟨"WaxReign$LawReader", "readsSum", "(I)Z"⟩, 3) := ⟨⟨by decide +kernel, by decide +kernel⟩, List.mem_of_getElem? (i := 74) (by decide +kernel), List.mem_of_getElem? (i := 507) (by decide +kernel), List.mem_of_getElem? (i := 508) (by decide +kernel)⟩
theorem lw_p6 : lw_okq (⟨"WaxReign$LawReader", "readsAtom", "(I)Z"⟩, 3) := ⟨⟨by decide +kernel, by decide +kernel⟩, List.mem_of_getElem? (i := 74) (by decide +kernel), List.mem_of_getElem? (i := 511) (by decide +kernel), List.mem_of_getElem? (i := 512) (by decide +kernel)⟩
theorem lw_p7 : lw_okq (⟨"WaxReign$LawReader", "emits", "(I)V"⟩, 3) := ⟨⟨by decide +kernel, by decide +kernel⟩, List.mem_of_getElem? (i := 74) (by decide +kernel), List.mem_of_getElem? (i := 517) (by decide +kernel), List.mem_of_getElem? (i := 518) (by decide +kernel)⟩
theorem lw_p8 : lw_okq (⟨"WaxReign$LawReader", "readsCondition", "(IZ)Z"⟩, 3) := ⟨⟨by decide +kernel, by decide +kernel⟩, List.mem_of_getElem? (i := 74) (by decide +kernel), List.mem_of_getElem? (i := 532) (by decide +kernel), List.mem_of_getElem? (i := 533) (by decide +kernel)⟩
theorem lw_p9 : lw_okq (⟨"WaxReign$LawReader", "readsUnit", "(IZ)Z"⟩, 3) := ⟨⟨by decide +kernel, by decide +kernel⟩, List.mem_of_getElem? (i := 74) (by decide +kernel), List.mem_of_getElem? (i := 536) (by decide +kernel), List.mem_of_getElem? (i := 537) (by decide +kernel)⟩
theorem lw_p10 : lw_okq (⟨"WaxReign$ReignReader", "readsStep", "(I)Z"⟩, 3) := ⟨⟨by decide +kernel, by decide +kernel⟩, List.mem_of_getElem? (i := 90) (by decide +kernel), List.mem_of_getElem? (i := 544) (by decide +kernel), List.mem_of_getElem? (i := 545) (by decide +kernel)⟩
theorem lw_p11 : lw_okq (⟨"WaxReign", "beginsKingdom", "()V"⟩, 14) := ⟨⟨by decide +kernel, by decide +kernel⟩, List.mem_of_getElem? (i := 28) (by decide +kernel), List.mem_of_getElem? (i := 559) (by decide +kernel), List.mem_of_getElem? (i := 560) (by decide +kernel)⟩
theorem lw_p12 : lw_okq (⟨"WaxReign", "does", "(III)I"⟩, 14) := ⟨⟨by decide +kernel, by decide +kernel⟩, List.mem_of_getElem? (i := 28) (by decide +kernel), List.mem_of_getElem? (i := 630) (by decide +kernel), List.mem_of_getElem? (i := 631) (by decide +kernel)⟩
theorem lw_p13 : lw_okq (⟨"WaxReign", "goesBy", "()I"⟩, 14) := ⟨⟨by decide +kernel, by decide +kernel⟩, List.mem_of_getElem? (i := 28) (by decide +kernel), List.mem_of_getElem? (i := 639) (by decide +kernel), List.mem_of_getElem? (i := 640) (by decide +kernel)⟩
theorem lw_p14 : lw_okq (⟨"WaxReign$Laws", "letterOf", "(I)I"⟩, 5) := ⟨⟨by decide +kernel, by decide +kernel⟩, List.mem_of_getElem? (i := 106) (by decide +kernel), List.mem_of_getElem? (i := 678) (by decide +kernel), List.mem_of_getElem? (i := 679) (by decide +kernel)⟩
theorem lw_p15 : lw_okq (⟨"WaxReign$Realm", "setsWax", "(II)I"⟩, 9) := ⟨⟨by decide +kernel, by decide +kernel⟩, List.mem_of_getElem? (i := 134) (by decide +kernel), List.mem_of_getElem? (i := 703) (by decide +kernel), List.mem_of_getElem? (i := 704) (by decide +kernel)⟩
def lw_privs_1 : List (MethodName × Nat) := [(⟨"WaxReign$KingdomReader", "setsWhatIsWithout", "(I)V"⟩, 3), (⟨"WaxReign$KingdomReader", "readsClause", "()Z"⟩, 3), (⟨"WaxReign$KingdomReader", "readsNumber", "(II)Z"⟩, 3), (⟨"WaxReign$KingdomReader", "isWhole", "()Z"⟩, 3), (⟨"WaxReign$LawReader", "readsClause", "()Z"⟩, 3), (⟨"WaxReign$LawReader", "readsSum", "(I)Z"⟩, 3), (⟨"WaxReign$LawReader", "readsAtom", "(I)Z"⟩, 3), (⟨"WaxReign$LawReader", "emits", "(I)V"⟩, 3), (⟨"WaxReign$LawReader", "readsCondition", "(IZ)Z"⟩, 3), (⟨"WaxReign$LawReader", "readsUnit", "(IZ)Z"⟩, 3), (⟨"WaxReign$ReignReader", "readsStep", "(I)Z"⟩, 3), (⟨"WaxReign", "beginsKingdom", "()V"⟩, 14), (⟨"WaxReign", "does", "(III)I"⟩, 14), (⟨"WaxReign", "goesBy", "()I"⟩, 14), (⟨"WaxReign$Laws", "letterOf", "(I)I"⟩, 5), (⟨"WaxReign$Realm", "setsWax", "(II)I"⟩, 9)]
theorem lw_r1 : ∀ q ∈ lw_privs_1, lw_okq q := List.forall_mem_cons.mpr ⟨lw_p0, List.forall_mem_cons.mpr ⟨lw_p1, List.forall_mem_cons.mpr ⟨lw_p2, List.forall_mem_cons.mpr ⟨lw_p3, List.forall_mem_cons.mpr ⟨lw_p4, List.forall_mem_cons.mpr ⟨lw_p5, List.forall_mem_cons.mpr ⟨lw_p6, List.forall_mem_cons.mpr ⟨lw_p7, List.forall_mem_cons.mpr ⟨lw_p8, List.forall_mem_cons.mpr ⟨lw_p9, List.forall_mem_cons.mpr ⟨lw_p10, List.forall_mem_cons.mpr ⟨lw_p11, List.forall_mem_cons.mpr ⟨lw_p12, List.forall_mem_cons.mpr ⟨lw_p13, List.forall_mem_cons.mpr ⟨lw_p14, List.forall_mem_cons.mpr ⟨lw_p15, fun _ h => absurd h List.not_mem_nil⟩⟩⟩⟩⟩⟩⟩⟩⟩⟩⟩⟩⟩⟩⟩⟩
theorem lw_p16 : lw_okq (⟨"WaxReign$Realm", "opensOwn", "(I)I"⟩, 9) := ⟨⟨by decide +kernel, by decide +kernel⟩, List.mem_of_getElem? (i := 134) (by decide +kernel), List.mem_of_getElem? (i := 716) (by decide +kernel), List.mem_of_getElem? (i := 717) (by decide +kernel)⟩
theorem lw_p17 : lw_okq (⟨"WaxReign$Realm", "carries", "(II)I"⟩, 9) := ⟨⟨by decide +kernel, by decide +kernel⟩, List.mem_of_getElem? (i := 134) (by decide +kernel), List.mem_of_getElem? (i := 720) (by decide +kernel), List.mem_of_getElem? (i := 721) (by decide +kernel)⟩
theorem lw_p18 : lw_okq (⟨"WaxReign$Realm", "setsHeat", "(I)I"⟩, 9) := ⟨⟨by decide +kernel, by decide +kernel⟩, List.mem_of_getElem? (i := 134) (by decide +kernel), List.mem_of_getElem? (i := 724) (by decide +kernel), List.mem_of_getElem? (i := 725) (by decide +kernel)⟩
theorem lw_p19 : lw_okq (⟨"WaxReign", "drawsAhead", "()V"⟩, 14) := ⟨⟨by decide +kernel, by decide +kernel⟩, List.mem_of_getElem? (i := 28) (by decide +kernel), List.mem_of_getElem? (i := 763) (by decide +kernel), List.mem_of_getElem? (i := 764) (by decide +kernel)⟩
theorem lw_p20 : lw_okq (⟨"WaxReign", "isReign", "(I)Z"⟩, 14) := ⟨⟨by decide +kernel, by decide +kernel⟩, List.mem_of_getElem? (i := 28) (by decide +kernel), List.mem_of_getElem? (i := 802) (by decide +kernel), List.mem_of_getElem? (i := 803) (by decide +kernel)⟩
theorem lw_p21 : lw_okq (⟨"WaxReign", "stepsOf", "(I)I"⟩, 14) := ⟨⟨by decide +kernel, by decide +kernel⟩, List.mem_of_getElem? (i := 28) (by decide +kernel), List.mem_of_getElem? (i := 806) (by decide +kernel), List.mem_of_getElem? (i := 807) (by decide +kernel)⟩
theorem lw_p22 : lw_okq (⟨"WaxReign", "part", "(III)I"⟩, 14) := ⟨⟨by decide +kernel, by decide +kernel⟩, List.mem_of_getElem? (i := 28) (by decide +kernel), List.mem_of_getElem? (i := 811) (by decide +kernel), List.mem_of_getElem? (i := 812) (by decide +kernel)⟩
theorem lw_p23 : lw_okq (⟨"WaxReign$Forecast", "meltsUnder", "(IIII)I"⟩, 5) := ⟨⟨by decide +kernel, by decide +kernel⟩, List.mem_of_getElem? (i := 217) (by decide +kernel), List.mem_of_getElem? (i := 847) (by decide +kernel), List.mem_of_getElem? (i := 848) (by decide +kernel)⟩
theorem lw_p24 : lw_okq (⟨"WaxReign$Forecast", "waxNeeded", "(II)I"⟩, 5) := ⟨⟨by decide +kernel, by decide +kernel⟩, List.mem_of_getElem? (i := 217) (by decide +kernel), List.mem_of_getElem? (i := 866) (by decide +kernel), List.mem_of_getElem? (i := 867) (by decide +kernel)⟩
theorem lw_p25 : lw_okq (⟨"WaxReign", "isAskedAhead", "(II)Z"⟩, 14) := ⟨⟨by decide +kernel, by decide +kernel⟩, List.mem_of_getElem? (i := 28) (by decide +kernel), List.mem_of_getElem? (i := 875) (by decide +kernel), List.mem_of_getElem? (i := 876) (by decide +kernel)⟩
theorem lw_p26 : lw_okq (⟨"WaxReign$Forecast", "depthKept", "(I)I"⟩, 5) := ⟨⟨by decide +kernel, by decide +kernel⟩, List.mem_of_getElem? (i := 217) (by decide +kernel), List.mem_of_getElem? (i := 887) (by decide +kernel), List.mem_of_getElem? (i := 888) (by decide +kernel)⟩
theorem lw_p27 : lw_okq (⟨"WaxReign$Forecast", "sortsSuns", "()V"⟩, 5) := ⟨⟨by decide +kernel, by decide +kernel⟩, List.mem_of_getElem? (i := 217) (by decide +kernel), List.mem_of_getElem? (i := 907) (by decide +kernel), List.mem_of_getElem? (i := 908) (by decide +kernel)⟩
theorem lw_p28 : lw_okq (⟨"WaxReign$Forecast", "setsPrices", "(II)V"⟩, 5) := ⟨⟨by decide +kernel, by decide +kernel⟩, List.mem_of_getElem? (i := 217) (by decide +kernel), List.mem_of_getElem? (i := 911) (by decide +kernel), List.mem_of_getElem? (i := 912) (by decide +kernel)⟩
theorem lw_p29 : lw_okq (⟨"WaxReign$Forecast", "nextInRow", "(I)I"⟩, 5) := ⟨⟨by decide +kernel, by decide +kernel⟩, List.mem_of_getElem? (i := 217) (by decide +kernel), List.mem_of_getElem? (i := 915) (by decide +kernel), List.mem_of_getElem? (i := 916) (by decide +kernel)⟩
theorem lw_p30 : lw_okq (⟨"WaxReign$Forecast", "priceBehind", "(II)I"⟩, 5) := ⟨⟨by decide +kernel, by decide +kernel⟩, List.mem_of_getElem? (i := 217) (by decide +kernel), List.mem_of_getElem? (i := 919) (by decide +kernel), List.mem_of_getElem? (i := 920) (by decide +kernel)⟩
theorem lw_p31 : lw_okq (⟨"WaxReign$Forecast", "leastRow", "()I"⟩, 5) := ⟨⟨by decide +kernel, by decide +kernel⟩, List.mem_of_getElem? (i := 217) (by decide +kernel), List.mem_of_getElem? (i := 925) (by decide +kernel), List.mem_of_getElem? (i := 926) (by decide +kernel)⟩
def lw_privs_2 : List (MethodName × Nat) := [(⟨"WaxReign$Realm", "opensOwn", "(I)I"⟩, 9), (⟨"WaxReign$Realm", "carries", "(II)I"⟩, 9), (⟨"WaxReign$Realm", "setsHeat", "(I)I"⟩, 9), (⟨"WaxReign", "drawsAhead", "()V"⟩, 14), (⟨"WaxReign", "isReign", "(I)Z"⟩, 14), (⟨"WaxReign", "stepsOf", "(I)I"⟩, 14), (⟨"WaxReign", "part", "(III)I"⟩, 14), (⟨"WaxReign$Forecast", "meltsUnder", "(IIII)I"⟩, 5), (⟨"WaxReign$Forecast", "waxNeeded", "(II)I"⟩, 5), (⟨"WaxReign", "isAskedAhead", "(II)Z"⟩, 14), (⟨"WaxReign$Forecast", "depthKept", "(I)I"⟩, 5), (⟨"WaxReign$Forecast", "sortsSuns", "()V"⟩, 5), (⟨"WaxReign$Forecast", "setsPrices", "(II)V"⟩, 5), (⟨"WaxReign$Forecast", "nextInRow", "(I)I"⟩, 5), (⟨"WaxReign$Forecast", "priceBehind", "(II)I"⟩, 5), (⟨"WaxReign$Forecast", "leastRow", "()I"⟩, 5)]
theorem lw_r2 : ∀ q ∈ lw_privs_2, lw_okq q := List.forall_mem_cons.mpr ⟨lw_p16, List.forall_mem_cons.mpr ⟨lw_p17, List.forall_mem_cons.mpr ⟨lw_p18, List.forall_mem_cons.mpr ⟨lw_p19, List.forall_mem_cons.mpr ⟨lw_p20, List.forall_mem_cons.mpr ⟨lw_p21, List.forall_mem_cons.mpr ⟨lw_p22, List.forall_mem_cons.mpr ⟨lw_p23, List.forall_mem_cons.mpr ⟨lw_p24, List.forall_mem_cons.mpr ⟨lw_p25, List.forall_mem_cons.mpr ⟨lw_p26, List.forall_mem_cons.mpr ⟨lw_p27, List.forall_mem_cons.mpr ⟨lw_p28, List.forall_mem_cons.mpr ⟨lw_p29, List.forall_mem_cons.mpr ⟨lw_p30, List.forall_mem_cons.mpr ⟨lw_p31, fun _ h => absurd h List.not_mem_nil⟩⟩⟩⟩⟩⟩⟩⟩⟩⟩⟩⟩⟩⟩⟩⟩
theorem lw_p32 : lw_okq (⟨"WaxReign$Notes", "findsFitting", "()I"⟩, 6) := ⟨⟨by decide +kernel, by decide +kernel⟩, List.mem_of_getElem? (i := 239) (by decide +kernel), List.mem_of_getElem? (i := 945) (by decide +kernel), List.mem_of_getElem? (i := 946) (by decide +kernel)⟩
theorem lw_p33 : lw_okq (⟨"WaxReign$Notes", "allIsSo", "(I)Z"⟩, 6) := ⟨⟨by decide +kernel, by decide +kernel⟩, List.mem_of_getElem? (i := 239) (by decide +kernel), List.mem_of_getElem? (i := 953) (by decide +kernel), List.mem_of_getElem? (i := 954) (by decide +kernel)⟩
theorem lw_p34 : lw_okq (⟨"WaxReign$Notes", "wouldKnow", "(III)Z"⟩, 6) := ⟨⟨by decide +kernel, by decide +kernel⟩, List.mem_of_getElem? (i := 239) (by decide +kernel), List.mem_of_getElem? (i := 957) (by decide +kernel), List.mem_of_getElem? (i := 958) (by decide +kernel)⟩
theorem lw_p35 : lw_okq (⟨"WaxReign$Notes", "apartBy", "(III)I"⟩, 6) := ⟨⟨by decide +kernel, by decide +kernel⟩, List.mem_of_getElem? (i := 239) (by decide +kernel), List.mem_of_getElem? (i := 969) (by decide +kernel), List.mem_of_getElem? (i := 970) (by decide +kernel)⟩
theorem lw_p36 : lw_okq (⟨"WaxReign$Duel", "gain", "(IIZ)I"⟩, 1) := ⟨⟨by decide +kernel, by decide +kernel⟩, List.mem_of_getElem? (i := 266) (by decide +kernel), List.mem_of_getElem? (i := 994) (by decide +kernel), List.mem_of_getElem? (i := 995) (by decide +kernel)⟩
theorem lw_p37 : lw_okq (⟨"WaxReign$Duel", "rest", "(IIIII)Z"⟩, 1) := ⟨⟨by decide +kernel, by decide +kernel⟩, List.mem_of_getElem? (i := 266) (by decide +kernel), List.mem_of_getElem? (i := 1010) (by decide +kernel), List.mem_of_getElem? (i := 1011) (by decide +kernel)⟩
theorem lw_p38 : lw_okq (⟨"java/lang/Throwable", "fillInStackTrace", "(I)Ljava/lang/Throwable;"⟩, 6) := ⟨⟨by decide +kernel, by decide +kernel⟩, List.mem_of_getElem? (i := 1153) (by decide +kernel), List.mem_of_getElem? (i := 1151) (by decide +kernel), List.mem_of_getElem? (i := 1152) (by decide +kernel)⟩
theorem lw_p39 : lw_okq (⟨"WaxReignModel", "put", "(I)V"⟩, 50) := ⟨⟨by decide +kernel, by decide +kernel⟩, List.mem_of_getElem? (i := 1183) (by decide +kernel), List.mem_of_getElem? (i := 1354) (by decide +kernel), List.mem_of_getElem? (i := 1355) (by decide +kernel)⟩
theorem lw_p40 : lw_okq (⟨"WaxReignModel", "readKingdom", "()V"⟩, 50) := ⟨⟨by decide +kernel, by decide +kernel⟩, List.mem_of_getElem? (i := 1183) (by decide +kernel), List.mem_of_getElem? (i := 1370) (by decide +kernel), List.mem_of_getElem? (i := 1371) (by decide +kernel)⟩
theorem lw_p41 : lw_okq (⟨"WaxReignModel", "starts", "([BII)V"⟩, 50) := ⟨⟨by decide +kernel, by decide +kernel⟩, List.mem_of_getElem? (i := 1183) (by decide +kernel), List.mem_of_getElem? (i := 1374) (by decide +kernel), List.mem_of_getElem? (i := 1375) (by decide +kernel)⟩
theorem lw_p42 : lw_okq (⟨"WaxReignModel", "readClause", "()V"⟩, 50) := ⟨⟨by decide +kernel, by decide +kernel⟩, List.mem_of_getElem? (i := 1183) (by decide +kernel), List.mem_of_getElem? (i := 1381) (by decide +kernel), List.mem_of_getElem? (i := 1382) (by decide +kernel)⟩
theorem lw_p43 : lw_okq (⟨"WaxReignModel", "look", "()I"⟩, 50) := ⟨⟨by decide +kernel, by decide +kernel⟩, List.mem_of_getElem? (i := 1183) (by decide +kernel), List.mem_of_getElem? (i := 1385) (by decide +kernel), List.mem_of_getElem? (i := 1386) (by decide +kernel)⟩
theorem lw_p44 : lw_okq (⟨"WaxReignModel", "fails", "()Z"⟩, 50) := ⟨⟨by decide +kernel, by decide +kernel⟩, List.mem_of_getElem? (i := 1183) (by decide +kernel), List.mem_of_getElem? (i := 1389) (by decide +kernel), List.mem_of_getElem? (i := 1390) (by decide +kernel)⟩
theorem lw_p45 : lw_okq (⟨"WaxReignModel", "readItems", "(I[IILjava/lang/String;)V"⟩, 50) := ⟨⟨by decide +kernel, by decide +kernel⟩, List.mem_of_getElem? (i := 1183) (by decide +kernel), List.mem_of_getElem? (i := 1394) (by decide +kernel), List.mem_of_getElem? (i := 1395) (by decide +kernel)⟩
theorem lw_p46 : lw_okq (⟨"WaxReignModel", "number", "(II)I"⟩, 50) := ⟨⟨by decide +kernel, by decide +kernel⟩, List.mem_of_getElem? (i := 1183) (by decide +kernel), List.mem_of_getElem? (i := 1428) (by decide +kernel), List.mem_of_getElem? (i := 1429) (by decide +kernel)⟩
theorem lw_p47 : lw_okq (⟨"WaxReignModel", "isDigit", "()Z"⟩, 50) := ⟨⟨by decide +kernel, by decide +kernel⟩, List.mem_of_getElem? (i := 1183) (by decide +kernel), List.mem_of_getElem? (i := 1432) (by decide +kernel), List.mem_of_getElem? (i := 1433) (by decide +kernel)⟩
def lw_privs_3 : List (MethodName × Nat) := [(⟨"WaxReign$Notes", "findsFitting", "()I"⟩, 6), (⟨"WaxReign$Notes", "allIsSo", "(I)Z"⟩, 6), (⟨"WaxReign$Notes", "wouldKnow", "(III)Z"⟩, 6), (⟨"WaxReign$Notes", "apartBy", "(III)I"⟩, 6), (⟨"WaxReign$Duel", "gain", "(IIZ)I"⟩, 1), (⟨"WaxReign$Duel", "rest", "(IIIII)Z"⟩, 1), (⟨"java/lang/Throwable", "fillInStackTrace", "(I)Ljava/lang/Throwable;"⟩, 6), (⟨"WaxReignModel", "put", "(I)V"⟩, 50), (⟨"WaxReignModel", "readKingdom", "()V"⟩, 50), (⟨"WaxReignModel", "starts", "([BII)V"⟩, 50), (⟨"WaxReignModel", "readClause", "()V"⟩, 50), (⟨"WaxReignModel", "look", "()I"⟩, 50), (⟨"WaxReignModel", "fails", "()Z"⟩, 50), (⟨"WaxReignModel", "readItems", "(I[IILjava/lang/String;)V"⟩, 50), (⟨"WaxReignModel", "number", "(II)I"⟩, 50), (⟨"WaxReignModel", "isDigit", "()Z"⟩, 50)]
theorem lw_r3 : ∀ q ∈ lw_privs_3, lw_okq q := List.forall_mem_cons.mpr ⟨lw_p32, List.forall_mem_cons.mpr ⟨lw_p33, List.forall_mem_cons.mpr ⟨lw_p34, List.forall_mem_cons.mpr ⟨lw_p35, List.forall_mem_cons.mpr ⟨lw_p36, List.forall_mem_cons.mpr ⟨lw_p37, List.forall_mem_cons.mpr ⟨lw_p38, List.forall_mem_cons.mpr ⟨lw_p39, List.forall_mem_cons.mpr ⟨lw_p40, List.forall_mem_cons.mpr ⟨lw_p41, List.forall_mem_cons.mpr ⟨lw_p42, List.forall_mem_cons.mpr ⟨lw_p43, List.forall_mem_cons.mpr ⟨lw_p44, List.forall_mem_cons.mpr ⟨lw_p45, List.forall_mem_cons.mpr ⟨lw_p46, List.forall_mem_cons.mpr ⟨lw_p47, fun _ h => absurd h List.not_mem_nil⟩⟩⟩⟩⟩⟩⟩⟩⟩⟩⟩⟩⟩⟩⟩⟩
theorem lw_p48 : lw_okq (⟨"WaxReignModel", "here", "()I"⟩, 50) := ⟨⟨by decide +kernel, by decide +kernel⟩, List.mem_of_getElem? (i := 1183) (by decide +kernel), List.mem_of_getElem? (i := 1436) (by decide +kernel), List.mem_of_getElem? (i := 1437) (by decide +kernel)⟩
theorem lw_p49 : lw_okq (⟨"WaxReignModel", "isWhole", "()Z"⟩, 50) := ⟨⟨by decide +kernel, by decide +kernel⟩, List.mem_of_getElem? (i := 1183) (by decide +kernel), List.mem_of_getElem? (i := 1442) (by decide +kernel), List.mem_of_getElem? (i := 1443) (by decide +kernel)⟩
theorem lw_p50 : lw_okq (⟨"WaxReignModel", "goThrough", "([BII)V"⟩, 50) := ⟨⟨by decide +kernel, by decide +kernel⟩, List.mem_of_getElem? (i := 1183) (by decide +kernel), List.mem_of_getElem? (i := 1446) (by decide +kernel), List.mem_of_getElem? (i := 1447) (by decide +kernel)⟩
theorem lw_p51 : lw_okq (⟨"WaxReignModel", "clause", "()V"⟩, 50) := ⟨⟨by decide +kernel, by decide +kernel⟩, List.mem_of_getElem? (i := 1183) (by decide +kernel), List.mem_of_getElem? (i := 1450) (by decide +kernel), List.mem_of_getElem? (i := 1451) (by decide +kernel)⟩
theorem lw_p52 : lw_okq (⟨"WaxReignModel", "takes", "(I)Z"⟩, 50) := ⟨⟨by decide +kernel, by decide +kernel⟩, List.mem_of_getElem? (i := 1183) (by decide +kernel), List.mem_of_getElem? (i := 1457) (by decide +kernel), List.mem_of_getElem? (i := 1458) (by decide +kernel)⟩
theorem lw_p53 : lw_okq (⟨"WaxReignModel", "condition", "(ZI)Z"⟩, 50) := ⟨⟨by decide +kernel, by decide +kernel⟩, List.mem_of_getElem? (i := 1183) (by decide +kernel), List.mem_of_getElem? (i := 1461) (by decide +kernel), List.mem_of_getElem? (i := 1462) (by decide +kernel)⟩
theorem lw_p54 : lw_okq (⟨"WaxReignModel", "part", "(ZI)Z"⟩, 50) := ⟨⟨by decide +kernel, by decide +kernel⟩, List.mem_of_getElem? (i := 1183) (by decide +kernel), List.mem_of_getElem? (i := 1465) (by decide +kernel), List.mem_of_getElem? (i := 1466) (by decide +kernel)⟩
theorem lw_p55 : lw_okq (⟨"WaxReignModel", "compares", "(ZI)Z"⟩, 50) := ⟨⟨by decide +kernel, by decide +kernel⟩, List.mem_of_getElem? (i := 1183) (by decide +kernel), List.mem_of_getElem? (i := 1469) (by decide +kernel), List.mem_of_getElem? (i := 1470) (by decide +kernel)⟩
theorem lw_p56 : lw_okq (⟨"WaxReignModel", "sum", "()I"⟩, 50) := ⟨⟨by decide +kernel, by decide +kernel⟩, List.mem_of_getElem? (i := 1183) (by decide +kernel), List.mem_of_getElem? (i := 1473) (by decide +kernel), List.mem_of_getElem? (i := 1474) (by decide +kernel)⟩
theorem lw_p57 : lw_okq (⟨"WaxReignModel", "term", "()I"⟩, 50) := ⟨⟨by decide +kernel, by decide +kernel⟩, List.mem_of_getElem? (i := 1183) (by decide +kernel), List.mem_of_getElem? (i := 1477) (by decide +kernel), List.mem_of_getElem? (i := 1478) (by decide +kernel)⟩
theorem lw_p58 : lw_okq (⟨"WaxReignModel", "atom", "()I"⟩, 50) := ⟨⟨by decide +kernel, by decide +kernel⟩, List.mem_of_getElem? (i := 1183) (by decide +kernel), List.mem_of_getElem? (i := 1481) (by decide +kernel), List.mem_of_getElem? (i := 1482) (by decide +kernel)⟩
theorem lw_p59 : lw_okq (⟨"WaxReignModel", "goesIn", "()Z"⟩, 50) := ⟨⟨by decide +kernel, by decide +kernel⟩, List.mem_of_getElem? (i := 1183) (by decide +kernel), List.mem_of_getElem? (i := 1485) (by decide +kernel), List.mem_of_getElem? (i := 1486) (by decide +kernel)⟩
theorem lw_p60 : lw_okq (⟨"WaxReignModel", "unit", "()Z"⟩, 50) := ⟨⟨by decide +kernel, by decide +kernel⟩, List.mem_of_getElem? (i := 1183) (by decide +kernel), List.mem_of_getElem? (i := 1503) (by decide +kernel), List.mem_of_getElem? (i := 1504) (by decide +kernel)⟩
theorem lw_p61 : lw_okq (⟨"WaxReignModel", "readReign", "()V"⟩, 50) := ⟨⟨by decide +kernel, by decide +kernel⟩, List.mem_of_getElem? (i := 1183) (by decide +kernel), List.mem_of_getElem? (i := 1507) (by decide +kernel), List.mem_of_getElem? (i := 1508) (by decide +kernel)⟩
theorem lw_p62 : lw_okq (⟨"WaxReignModel", "readStep", "(I)V"⟩, 50) := ⟨⟨by decide +kernel, by decide +kernel⟩, List.mem_of_getElem? (i := 1183) (by decide +kernel), List.mem_of_getElem? (i := 1511) (by decide +kernel), List.mem_of_getElem? (i := 1512) (by decide +kernel)⟩
theorem lw_p63 : lw_okq (⟨"WaxReignModel", "digit", "()I"⟩, 50) := ⟨⟨by decide +kernel, by decide +kernel⟩, List.mem_of_getElem? (i := 1183) (by decide +kernel), List.mem_of_getElem? (i := 1516) (by decide +kernel), List.mem_of_getElem? (i := 1517) (by decide +kernel)⟩
def lw_privs_4 : List (MethodName × Nat) := [(⟨"WaxReignModel", "here", "()I"⟩, 50), (⟨"WaxReignModel", "isWhole", "()Z"⟩, 50), (⟨"WaxReignModel", "goThrough", "([BII)V"⟩, 50), (⟨"WaxReignModel", "clause", "()V"⟩, 50), (⟨"WaxReignModel", "takes", "(I)Z"⟩, 50), (⟨"WaxReignModel", "condition", "(ZI)Z"⟩, 50), (⟨"WaxReignModel", "part", "(ZI)Z"⟩, 50), (⟨"WaxReignModel", "compares", "(ZI)Z"⟩, 50), (⟨"WaxReignModel", "sum", "()I"⟩, 50), (⟨"WaxReignModel", "term", "()I"⟩, 50), (⟨"WaxReignModel", "atom", "()I"⟩, 50), (⟨"WaxReignModel", "goesIn", "()Z"⟩, 50), (⟨"WaxReignModel", "unit", "()Z"⟩, 50), (⟨"WaxReignModel", "readReign", "()V"⟩, 50), (⟨"WaxReignModel", "readStep", "(I)V"⟩, 50), (⟨"WaxReignModel", "digit", "()I"⟩, 50)]
theorem lw_r4 : ∀ q ∈ lw_privs_4, lw_okq q := List.forall_mem_cons.mpr ⟨lw_p48, List.forall_mem_cons.mpr ⟨lw_p49, List.forall_mem_cons.mpr ⟨lw_p50, List.forall_mem_cons.mpr ⟨lw_p51, List.forall_mem_cons.mpr ⟨lw_p52, List.forall_mem_cons.mpr ⟨lw_p53, List.forall_mem_cons.mpr ⟨lw_p54, List.forall_mem_cons.mpr ⟨lw_p55, List.forall_mem_cons.mpr ⟨lw_p56, List.forall_mem_cons.mpr ⟨lw_p57, List.forall_mem_cons.mpr ⟨lw_p58, List.forall_mem_cons.mpr ⟨lw_p59, List.forall_mem_cons.mpr ⟨lw_p60, List.forall_mem_cons.mpr ⟨lw_p61, List.forall_mem_cons.mpr ⟨lw_p62, List.forall_mem_cons.mpr ⟨lw_p63, fun _ h => absurd h List.not_mem_nil⟩⟩⟩⟩⟩⟩⟩⟩⟩⟩⟩⟩⟩⟩⟩⟩
theorem lw_p64 : lw_okq (⟨"WaxReignModel", "begins0", "()V"⟩, 50) := ⟨⟨by decide +kernel, by decide +kernel⟩, List.mem_of_getElem? (i := 1183) (by decide +kernel), List.mem_of_getElem? (i := 1525) (by decide +kernel), List.mem_of_getElem? (i := 1526) (by decide +kernel)⟩
theorem lw_p65 : lw_okq (⟨"WaxReignModel", "isThing", "(I)Z"⟩, 50) := ⟨⟨by decide +kernel, by decide +kernel⟩, List.mem_of_getElem? (i := 1183) (by decide +kernel), List.mem_of_getElem? (i := 1537) (by decide +kernel), List.mem_of_getElem? (i := 1538) (by decide +kernel)⟩
theorem lw_p66 : lw_okq (⟨"WaxReignModel", "holds", "([II)I"⟩, 50) := ⟨⟨by decide +kernel, by decide +kernel⟩, List.mem_of_getElem? (i := 1183) (by decide +kernel), List.mem_of_getElem? (i := 1542) (by decide +kernel), List.mem_of_getElem? (i := 1543) (by decide +kernel)⟩
theorem lw_p67 : lw_okq (⟨"WaxReignModel", "of", "(II)I"⟩, 50) := ⟨⟨by decide +kernel, by decide +kernel⟩, List.mem_of_getElem? (i := 1183) (by decide +kernel), List.mem_of_getElem? (i := 1546) (by decide +kernel), List.mem_of_getElem? (i := 1547) (by decide +kernel)⟩
theorem lw_p68 : lw_okq (⟨"WaxReignModel", "worthOf", "(IIIIII)I"⟩, 50) := ⟨⟨by decide +kernel, by decide +kernel⟩, List.mem_of_getElem? (i := 1183) (by decide +kernel), List.mem_of_getElem? (i := 1550) (by decide +kernel), List.mem_of_getElem? (i := 1551) (by decide +kernel)⟩
theorem lw_p69 : lw_okq (⟨"WaxReignModel", "isRing", "(I)Z"⟩, 50) := ⟨⟨by decide +kernel, by decide +kernel⟩, List.mem_of_getElem? (i := 1183) (by decide +kernel), List.mem_of_getElem? (i := 1564) (by decide +kernel), List.mem_of_getElem? (i := 1565) (by decide +kernel)⟩
theorem lw_p70 : lw_okq (⟨"WaxReignModel", "remember", "()V"⟩, 50) := ⟨⟨by decide +kernel, by decide +kernel⟩, List.mem_of_getElem? (i := 1183) (by decide +kernel), List.mem_of_getElem? (i := 1581) (by decide +kernel), List.mem_of_getElem? (i := 1582) (by decide +kernel)⟩
theorem lw_p71 : lw_okq (⟨"WaxReignModel", "goMonth", "([I)I"⟩, 50) := ⟨⟨by decide +kernel, by decide +kernel⟩, List.mem_of_getElem? (i := 1183) (by decide +kernel), List.mem_of_getElem? (i := 1585) (by decide +kernel), List.mem_of_getElem? (i := 1586) (by decide +kernel)⟩
theorem lw_p72 : lw_okq (⟨"WaxReignModel", "canSeal", "([III)Z"⟩, 50) := ⟨⟨by decide +kernel, by decide +kernel⟩, List.mem_of_getElem? (i := 1183) (by decide +kernel), List.mem_of_getElem? (i := 1600) (by decide +kernel), List.mem_of_getElem? (i := 1601) (by decide +kernel)⟩
theorem lw_p73 : lw_okq (⟨"WaxReignModel", "isShut", "([II)Z"⟩, 50) := ⟨⟨by decide +kernel, by decide +kernel⟩, List.mem_of_getElem? (i := 1183) (by decide +kernel), List.mem_of_getElem? (i := 1611) (by decide +kernel), List.mem_of_getElem? (i := 1612) (by decide +kernel)⟩
theorem lw_p74 : lw_okq (⟨"WaxReignModel", "canPry", "([III)Z"⟩, 50) := ⟨⟨by decide +kernel, by decide +kernel⟩, List.mem_of_getElem? (i := 1183) (by decide +kernel), List.mem_of_getElem? (i := 1622) (by decide +kernel), List.mem_of_getElem? (i := 1623) (by decide +kernel)⟩
theorem lw_p75 : lw_okq (⟨"WaxReignModel", "draw", "(I)I"⟩, 50) := ⟨⟨by decide +kernel, by decide +kernel⟩, List.mem_of_getElem? (i := 1183) (by decide +kernel), List.mem_of_getElem? (i := 1646) (by decide +kernel), List.mem_of_getElem? (i := 1647) (by decide +kernel)⟩
theorem lw_p76 : lw_okq (⟨"WaxReignModel", "isPlan", "(I)Z"⟩, 50) := ⟨⟨by decide +kernel, by decide +kernel⟩, List.mem_of_getElem? (i := 1183) (by decide +kernel), List.mem_of_getElem? (i := 1664) (by decide +kernel), List.mem_of_getElem? (i := 1665) (by decide +kernel)⟩
theorem lw_p77 : lw_okq (⟨"WaxReignModel", "canStep", "([II)Z"⟩, 50) := ⟨⟨by decide +kernel, by decide +kernel⟩, List.mem_of_getElem? (i := 1183) (by decide +kernel), List.mem_of_getElem? (i := 1676) (by decide +kernel), List.mem_of_getElem? (i := 1677) (by decide +kernel)⟩
theorem lw_p78 : lw_okq (⟨"WaxReignModel", "goStep", "([II)V"⟩, 50) := ⟨⟨by decide +kernel, by decide +kernel⟩, List.mem_of_getElem? (i := 1183) (by decide +kernel), List.mem_of_getElem? (i := 1680) (by decide +kernel), List.mem_of_getElem? (i := 1681) (by decide +kernel)⟩
theorem lw_p79 : lw_okq (⟨"WaxReignModel", "meltsNow", "(II)I"⟩, 50) := ⟨⟨by decide +kernel, by decide +kernel⟩, List.mem_of_getElem? (i := 1183) (by decide +kernel), List.mem_of_getElem? (i := 1696) (by decide +kernel), List.mem_of_getElem? (i := 1697) (by decide +kernel)⟩
def lw_privs_5 : List (MethodName × Nat) := [(⟨"WaxReignModel", "begins0", "()V"⟩, 50), (⟨"WaxReignModel", "isThing", "(I)Z"⟩, 50), (⟨"WaxReignModel", "holds", "([II)I"⟩, 50), (⟨"WaxReignModel", "of", "(II)I"⟩, 50), (⟨"WaxReignModel", "worthOf", "(IIIIII)I"⟩, 50), (⟨"WaxReignModel", "isRing", "(I)Z"⟩, 50), (⟨"WaxReignModel", "remember", "()V"⟩, 50), (⟨"WaxReignModel", "goMonth", "([I)I"⟩, 50), (⟨"WaxReignModel", "canSeal", "([III)Z"⟩, 50), (⟨"WaxReignModel", "isShut", "([II)Z"⟩, 50), (⟨"WaxReignModel", "canPry", "([III)Z"⟩, 50), (⟨"WaxReignModel", "draw", "(I)I"⟩, 50), (⟨"WaxReignModel", "isPlan", "(I)Z"⟩, 50), (⟨"WaxReignModel", "canStep", "([II)Z"⟩, 50), (⟨"WaxReignModel", "goStep", "([II)V"⟩, 50), (⟨"WaxReignModel", "meltsNow", "(II)I"⟩, 50)]
theorem lw_r5 : ∀ q ∈ lw_privs_5, lw_okq q := List.forall_mem_cons.mpr ⟨lw_p64, List.forall_mem_cons.mpr ⟨lw_p65, List.forall_mem_cons.mpr ⟨lw_p66, List.forall_mem_cons.mpr ⟨lw_p67, List.forall_mem_cons.mpr ⟨lw_p68, List.forall_mem_cons.mpr ⟨lw_p69, List.forall_mem_cons.mpr ⟨lw_p70, List.forall_mem_cons.mpr ⟨lw_p71, List.forall_mem_cons.mpr ⟨lw_p72, List.forall_mem_cons.mpr ⟨lw_p73, List.forall_mem_cons.mpr ⟨lw_p74, List.forall_mem_cons.mpr ⟨lw_p75, List.forall_mem_cons.mpr ⟨lw_p76, List.forall_mem_cons.mpr ⟨lw_p77, List.forall_mem_cons.mpr ⟨lw_p78, List.forall_mem_cons.mpr ⟨lw_p79, fun _ h => absurd h List.not_mem_nil⟩⟩⟩⟩⟩⟩⟩⟩⟩⟩⟩⟩⟩⟩⟩⟩
theorem lw_p80 : lw_okq (⟨"WaxReignModel", "meltsIn", "(IIIII)I"⟩, 50) := ⟨⟨by decide +kernel, by decide +kernel⟩, List.mem_of_getElem? (i := 1183) (by decide +kernel), List.mem_of_getElem? (i := 1700) (by decide +kernel), List.mem_of_getElem? (i := 1701) (by decide +kernel)⟩
theorem lw_p81 : lw_okq (⟨"WaxReignModel", "holdsBy", "(IIIII)I"⟩, 50) := ⟨⟨by decide +kernel, by decide +kernel⟩, List.mem_of_getElem? (i := 1183) (by decide +kernel), List.mem_of_getElem? (i := 1704) (by decide +kernel), List.mem_of_getElem? (i := 1705) (by decide +kernel)⟩
theorem lw_p82 : lw_okq (⟨"WaxReignModel", "needs", "(II)I"⟩, 50) := ⟨⟨by decide +kernel, by decide +kernel⟩, List.mem_of_getElem? (i := 1183) (by decide +kernel), List.mem_of_getElem? (i := 1716) (by decide +kernel), List.mem_of_getElem? (i := 1717) (by decide +kernel)⟩
theorem lw_p83 : lw_okq (⟨"WaxReignModel", "goDealt", "(IIII)V"⟩, 50) := ⟨⟨by decide +kernel, by decide +kernel⟩, List.mem_of_getElem? (i := 1183) (by decide +kernel), List.mem_of_getElem? (i := 1732) (by decide +kernel), List.mem_of_getElem? (i := 1733) (by decide +kernel)⟩
theorem lw_p84 : lw_okq (⟨"WaxReignModel", "fits", "(I)Z"⟩, 50) := ⟨⟨by decide +kernel, by decide +kernel⟩, List.mem_of_getElem? (i := 1183) (by decide +kernel), List.mem_of_getElem? (i := 1744) (by decide +kernel), List.mem_of_getElem? (i := 1745) (by decide +kernel)⟩
theorem lw_p85 : lw_okq (⟨"WaxReignModel", "isCode", "(I)Z"⟩, 50) := ⟨⟨by decide +kernel, by decide +kernel⟩, List.mem_of_getElem? (i := 1183) (by decide +kernel), List.mem_of_getElem? (i := 1748) (by decide +kernel), List.mem_of_getElem? (i := 1749) (by decide +kernel)⟩
theorem lw_p86 : lw_okq (⟨"WaxReignModel", "knowsBy", "(III)Z"⟩, 50) := ⟨⟨by decide +kernel, by decide +kernel⟩, List.mem_of_getElem? (i := 1183) (by decide +kernel), List.mem_of_getElem? (i := 1752) (by decide +kernel), List.mem_of_getElem? (i := 1753) (by decide +kernel)⟩
theorem lw_p87 : lw_okq (⟨"WaxReignModel", "isGame", "(III)Z"⟩, 50) := ⟨⟨by decide +kernel, by decide +kernel⟩, List.mem_of_getElem? (i := 1183) (by decide +kernel), List.mem_of_getElem? (i := 1765) (by decide +kernel), List.mem_of_getElem? (i := 1766) (by decide +kernel)⟩
theorem lw_p88 : lw_okq (⟨"WaxReignModel", "gameOf", "(IIIIII)I"⟩, 50) := ⟨⟨by decide +kernel, by decide +kernel⟩, List.mem_of_getElem? (i := 1183) (by decide +kernel), List.mem_of_getElem? (i := 1769) (by decide +kernel), List.mem_of_getElem? (i := 1770) (by decide +kernel)⟩
theorem lw_p89 : lw_okq (⟨"WaxReignModel", "greatest", "(I)I"⟩, 50) := ⟨⟨by decide +kernel, by decide +kernel⟩, List.mem_of_getElem? (i := 1183) (by decide +kernel), List.mem_of_getElem? (i := 1786) (by decide +kernel), List.mem_of_getElem? (i := 1787) (by decide +kernel)⟩
theorem lw_p90 : lw_okq (⟨"WaxReignModel", "valueOf", "(II)I"⟩, 50) := ⟨⟨by decide +kernel, by decide +kernel⟩, List.mem_of_getElem? (i := 1183) (by decide +kernel), List.mem_of_getElem? (i := 1790) (by decide +kernel), List.mem_of_getElem? (i := 1791) (by decide +kernel)⟩
theorem lw_p91 : lw_okq (⟨"WaxReignModel", "greatestRing", "(I)I"⟩, 50) := ⟨⟨by decide +kernel, by decide +kernel⟩, List.mem_of_getElem? (i := 1183) (by decide +kernel), List.mem_of_getElem? (i := 1794) (by decide +kernel), List.mem_of_getElem? (i := 1795) (by decide +kernel)⟩
def lw_privs_6 : List (MethodName × Nat) := [(⟨"WaxReignModel", "meltsIn", "(IIIII)I"⟩, 50), (⟨"WaxReignModel", "holdsBy", "(IIIII)I"⟩, 50), (⟨"WaxReignModel", "needs", "(II)I"⟩, 50), (⟨"WaxReignModel", "goDealt", "(IIII)V"⟩, 50), (⟨"WaxReignModel", "fits", "(I)Z"⟩, 50), (⟨"WaxReignModel", "isCode", "(I)Z"⟩, 50), (⟨"WaxReignModel", "knowsBy", "(III)Z"⟩, 50), (⟨"WaxReignModel", "isGame", "(III)Z"⟩, 50), (⟨"WaxReignModel", "gameOf", "(IIIIII)I"⟩, 50), (⟨"WaxReignModel", "greatest", "(I)I"⟩, 50), (⟨"WaxReignModel", "valueOf", "(II)I"⟩, 50), (⟨"WaxReignModel", "greatestRing", "(I)I"⟩, 50)]
theorem lw_r6 : ∀ q ∈ lw_privs_6, lw_okq q := List.forall_mem_cons.mpr ⟨lw_p80, List.forall_mem_cons.mpr ⟨lw_p81, List.forall_mem_cons.mpr ⟨lw_p82, List.forall_mem_cons.mpr ⟨lw_p83, List.forall_mem_cons.mpr ⟨lw_p84, List.forall_mem_cons.mpr ⟨lw_p85, List.forall_mem_cons.mpr ⟨lw_p86, List.forall_mem_cons.mpr ⟨lw_p87, List.forall_mem_cons.mpr ⟨lw_p88, List.forall_mem_cons.mpr ⟨lw_p89, List.forall_mem_cons.mpr ⟨lw_p90, List.forall_mem_cons.mpr ⟨lw_p91, fun _ h => absurd h List.not_mem_nil⟩⟩⟩⟩⟩⟩⟩⟩⟩⟩⟩⟩
def lw_privs : List (MethodName × Nat) := lw_privs_1 ++ (lw_privs_2 ++ (lw_privs_3 ++ (lw_privs_4 ++ (lw_privs_5 ++ (lw_privs_6)))))
def lw_tbl : List Cond := k2_sels lw_privs ++ tables_1
theorem lw_privs_ok : ∀ q ∈ lw_privs, lw_okq q := by
  show ∀ q ∈ lw_privs_1 ++ (lw_privs_2 ++ (lw_privs_3 ++ (lw_privs_4 ++ (lw_privs_5 ++ (lw_privs_6))))), lw_okq q
  exact List.forall_mem_append.mpr ⟨lw_r1, List.forall_mem_append.mpr ⟨lw_r2, List.forall_mem_append.mpr ⟨lw_r3, List.forall_mem_append.mpr ⟨lw_r4, List.forall_mem_append.mpr ⟨lw_r5, lw_r6⟩⟩⟩⟩⟩
/-- the words that stay good at every later state -/
def aw_tbl : List Cond := lw_tbl.filter goodWord
theorem aw_in {w : Cond} (i : Nat) (h : lw_tbl[i]? = some w) (hg : goodWord w = true) : w ∈ aw_tbl := List.mem_filter.mpr ⟨List.mem_of_getElem? h, hg⟩
theorem aw_goodIn : GoodIn aw_tbl aw_tbl := fun w hw => ⟨hw, good_of_word (List.mem_filter.mp hw).2⟩
theorem aw_sub {w : Cond} (h : w ∈ aw_tbl) : w ∈ lw_tbl := (List.mem_filter.mp h).1
def kR0 : String := "WaxReign$Chronicle"
def kT0 : u_T := fun k => match k with
  | 0 => ("WaxReign$Chronicle", "entries", "[I", true)
  | 1 => ("WaxReign$Chronicle", "before", "[I", true)
  | 2 => ("WaxReign$Chronicle", "undoable", "[I", true)
  | 3 => ("WaxReign$Chronicle", "next", "I", false)
  | 4 => ("WaxReign$Chronicle", "acts", "I", false)
  | 5 => ("WaxReign$Chronicle", "imaged", "[I", true)
  | 6 => ("WaxReign$Chronicle", "imagedEntries", "[I", true)
  | _ => ("WaxReign$Chronicle", "drawn", "Z", false)
def kY0 : Nat → FieldType := fun k => match k with
  | 0 => (.array .int)
  | 1 => (.array .int)
  | 2 => (.array .int)
  | 3 => .int
  | 4 => .int
  | 5 => (.array .int)
  | 6 => (.array .int)
  | _ => .boolean
theorem kN0 : ∀ a, a < 8 → ∀ b, b < 8 → a ≠ b → (kT0 a).2.1 ≠ (kT0 b).2.1 := by decide +kernel
theorem kO0 : ∀ k, k < 8 → parseFieldDescriptor (kT0 k).2.2.1 = some (kY0 k) := by decide +kernel
theorem kI0 : ∀ w ∈ u_ws kR0 kT0 8, w ∈ aw_tbl := by decide +kernel
def kR1 : String := "WaxReign$Draws"
def kT1 : u_T := fun k => match k with
  | _ => ("WaxReign$Draws", "drawn", "J", false)
def kY1 : Nat → FieldType := fun k => match k with
  | _ => .long
theorem kN1 : ∀ a, a < 1 → ∀ b, b < 1 → a ≠ b → (kT1 a).2.1 ≠ (kT1 b).2.1 := by decide +kernel
theorem kO1 : ∀ k, k < 1 → parseFieldDescriptor (kT1 k).2.2.1 = some (kY1 k) := by decide +kernel
theorem kI1 : ∀ w ∈ u_ws kR1 kT1 1, w ∈ aw_tbl := by decide +kernel
def kR2 : String := "WaxReign$Duel"
def kT2 : u_T := fun k => match k with
  | _ => ("WaxReign$Duel", "realm", "LWaxReign$Realm;", true)
def kY2 : Nat → FieldType := fun k => match k with
  | _ => (.object "WaxReign$Realm")
theorem kN2 : ∀ a, a < 1 → ∀ b, b < 1 → a ≠ b → (kT2 a).2.1 ≠ (kT2 b).2.1 := by decide +kernel
theorem kO2 : ∀ k, k < 1 → parseFieldDescriptor (kT2 k).2.2.1 = some (kY2 k) := by decide +kernel
theorem kI2 : ∀ w ∈ u_ws kR2 kT2 1, w ∈ aw_tbl := by decide +kernel
def kR3 : String := "WaxReign$Forecast"
def kT3 : u_T := fun k => match k with
  | 0 => ("WaxReign$Forecast", "realm", "LWaxReign$Realm;", true)
  | 1 => ("WaxReign$Forecast", "needs", "[I", true)
  | 2 => ("WaxReign$Forecast", "suns", "[I", true)
  | 3 => ("WaxReign$Forecast", "prices", "[I", true)
  | _ => ("WaxReign$Forecast", "leastPrice", "[I", true)
def kY3 : Nat → FieldType := fun k => match k with
  | 0 => (.object "WaxReign$Realm")
  | 1 => (.array .int)
  | 2 => (.array .int)
  | 3 => (.array .int)
  | _ => (.array .int)
theorem kN3 : ∀ a, a < 5 → ∀ b, b < 5 → a ≠ b → (kT3 a).2.1 ≠ (kT3 b).2.1 := by decide +kernel
theorem kO3 : ∀ k, k < 5 → parseFieldDescriptor (kT3 k).2.2.1 = some (kY3 k) := by decide +kernel
theorem kI3 : ∀ w ∈ u_ws kR3 kT3 5, w ∈ aw_tbl := by decide +kernel
def kR4 : String := "WaxReign$KingdomReader"
def kT4 : u_T := fun k => match k with
  | 0 => ("WaxReign$KingdomReader", "tape", "LWaxReign$Tape;", true)
  | 1 => ("WaxReign$KingdomReader", "rows", "[I", true)
  | _ => ("WaxReign$KingdomReader", "clauses", "[I", true)
def kY4 : Nat → FieldType := fun k => match k with
  | 0 => (.object "WaxReign$Tape")
  | 1 => (.array .int)
  | _ => (.array .int)
theorem kN4 : ∀ a, a < 3 → ∀ b, b < 3 → a ≠ b → (kT4 a).2.1 ≠ (kT4 b).2.1 := by decide +kernel
theorem kO4 : ∀ k, k < 3 → parseFieldDescriptor (kT4 k).2.2.1 = some (kY4 k) := by decide +kernel
theorem kI4 : ∀ w ∈ u_ws kR4 kT4 3, w ∈ aw_tbl := by decide +kernel
def kR5 : String := "WaxReign$LawReader"
def kT5 : u_T := fun k => match k with
  | 0 => ("WaxReign$LawReader", "tape", "LWaxReign$Tape;", true)
  | 1 => ("WaxReign$LawReader", "code", "[I", true)
  | _ => ("WaxReign$LawReader", "length", "I", false)
def kY5 : Nat → FieldType := fun k => match k with
  | 0 => (.object "WaxReign$Tape")
  | 1 => (.array .int)
  | _ => .int
theorem kN5 : ∀ a, a < 3 → ∀ b, b < 3 → a ≠ b → (kT5 a).2.1 ≠ (kT5 b).2.1 := by decide +kernel
theorem kO5 : ∀ k, k < 3 → parseFieldDescriptor (kT5 k).2.2.1 = some (kY5 k) := by decide +kernel
theorem kI5 : ∀ w ∈ u_ws kR5 kT5 3, w ∈ aw_tbl := by decide +kernel
def kR6 : String := "WaxReign$Laws"
def kT6 : u_T := fun k => match k with
  | 0 => ("WaxReign$Laws", "codes", "[[I", true)
  | 1 => ("WaxReign$Laws", "stack", "[I", true)
  | 2 => ("WaxReign$Laws", "letters", "[I", true)
  | 3 => ("WaxReign$Laws", "told", "I", false)
  | _ => ("WaxReign$Laws", "inForce", "I", false)
def kY6 : Nat → FieldType := fun k => match k with
  | 0 => (.array (.array .int))
  | 1 => (.array .int)
  | 2 => (.array .int)
  | 3 => .int
  | _ => .int
theorem kN6 : ∀ a, a < 5 → ∀ b, b < 5 → a ≠ b → (kT6 a).2.1 ≠ (kT6 b).2.1 := by decide +kernel
theorem kO6 : ∀ k, k < 5 → parseFieldDescriptor (kT6 k).2.2.1 = some (kY6 k) := by decide +kernel
theorem kI6 : ∀ w ∈ u_ws kR6 kT6 5, w ∈ aw_tbl := by decide +kernel
def kR7 : String := "WaxReign$Notes"
def kT7 : u_T := fun k => match k with
  | 0 => ("WaxReign$Notes", "realm", "LWaxReign$Realm;", true)
  | 1 => ("WaxReign$Notes", "ringOf", "[I", true)
  | 2 => ("WaxReign$Notes", "thingOf", "[I", true)
  | 3 => ("WaxReign$Notes", "knownBy", "[Z", true)
  | 4 => ("WaxReign$Notes", "told", "I", false)
  | _ => ("WaxReign$Notes", "fits", "[I", true)
def kY7 : Nat → FieldType := fun k => match k with
  | 0 => (.object "WaxReign$Realm")
  | 1 => (.array .int)
  | 2 => (.array .int)
  | 3 => (.array .boolean)
  | 4 => .int
  | _ => (.array .int)
theorem kN7 : ∀ a, a < 6 → ∀ b, b < 6 → a ≠ b → (kT7 a).2.1 ≠ (kT7 b).2.1 := by decide +kernel
theorem kO7 : ∀ k, k < 6 → parseFieldDescriptor (kT7 k).2.2.1 = some (kY7 k) := by decide +kernel
theorem kI7 : ∀ w ∈ u_ws kR7 kT7 6, w ∈ aw_tbl := by decide +kernel
def kR8 : String := "WaxReign$Realm"
def kT8 : u_T := fun k => match k with
  | 0 => ("WaxReign$Realm", "laws", "LWaxReign$Laws;", true)
  | 1 => ("WaxReign$Realm", "now", "[I", true)
  | 2 => ("WaxReign$Realm", "aside", "[I", true)
  | 3 => ("WaxReign$Realm", "owner", "[I", true)
  | 4 => ("WaxReign$Realm", "hard", "[I", true)
  | 5 => ("WaxReign$Realm", "deep", "[I", true)
  | 6 => ("WaxReign$Realm", "things", "I", false)
  | 7 => ("WaxReign$Realm", "rings", "I", false)
  | _ => ("WaxReign$Realm", "bees", "I", false)
def kY8 : Nat → FieldType := fun k => match k with
  | 0 => (.object "WaxReign$Laws")
  | 1 => (.array .int)
  | 2 => (.array .int)
  | 3 => (.array .int)
  | 4 => (.array .int)
  | 5 => (.array .int)
  | 6 => .int
  | 7 => .int
  | _ => .int
theorem kN8 : ∀ a, a < 9 → ∀ b, b < 9 → a ≠ b → (kT8 a).2.1 ≠ (kT8 b).2.1 := by decide +kernel
theorem kO8 : ∀ k, k < 9 → parseFieldDescriptor (kT8 k).2.2.1 = some (kY8 k) := by decide +kernel
theorem kI8 : ∀ w ∈ u_ws kR8 kT8 9, w ∈ aw_tbl := by decide +kernel
def kR9 : String := "WaxReign$ReignReader"
def kT9 : u_T := fun k => match k with
  | 0 => ("WaxReign$ReignReader", "tape", "LWaxReign$Tape;", true)
  | 1 => ("WaxReign$ReignReader", "steps", "[I", true)
  | _ => ("WaxReign$ReignReader", "told", "I", false)
def kY9 : Nat → FieldType := fun k => match k with
  | 0 => (.object "WaxReign$Tape")
  | 1 => (.array .int)
  | _ => .int
theorem kN9 : ∀ a, a < 3 → ∀ b, b < 3 → a ≠ b → (kT9 a).2.1 ≠ (kT9 b).2.1 := by decide +kernel
theorem kO9 : ∀ k, k < 3 → parseFieldDescriptor (kT9 k).2.2.1 = some (kY9 k) := by decide +kernel
theorem kI9 : ∀ w ∈ u_ws kR9 kT9 3, w ∈ aw_tbl := by decide +kernel
def kR10 : String := "WaxReign$Tape"
def kT10 : u_T := fun k => match k with
  | 0 => ("WaxReign$Tape", "bytes", "[I", true)
  | 1 => ("WaxReign$Tape", "length", "I", false)
  | _ => ("WaxReign$Tape", "at", "I", false)
def kY10 : Nat → FieldType := fun k => match k with
  | 0 => (.array .int)
  | 1 => .int
  | _ => .int
theorem kN10 : ∀ a, a < 3 → ∀ b, b < 3 → a ≠ b → (kT10 a).2.1 ≠ (kT10 b).2.1 := by decide +kernel
theorem kO10 : ∀ k, k < 3 → parseFieldDescriptor (kT10 k).2.2.1 = some (kY10 k) := by decide +kernel
theorem kI10 : ∀ w ∈ u_ws kR10 kT10 3, w ∈ aw_tbl := by decide +kernel
def kR11 : String := "WaxReign"
def kT11 : u_T := fun k => match k with
  | 0 => ("WaxReign", "tape", "LWaxReign$Tape;", true)
  | 1 => ("WaxReign", "kingdomReader", "LWaxReign$KingdomReader;", true)
  | 2 => ("WaxReign", "lawReader", "LWaxReign$LawReader;", true)
  | 3 => ("WaxReign", "reignReader", "LWaxReign$ReignReader;", true)
  | 4 => ("WaxReign", "laws", "LWaxReign$Laws;", true)
  | 5 => ("WaxReign", "reigns", "[[I", true)
  | 6 => ("WaxReign", "reignsTold", "I", false)
  | 7 => ("WaxReign", "knivesNow", "I", false)
  | 8 => ("WaxReign", "realm", "LWaxReign$Realm;", true)
  | 9 => ("WaxReign", "chronicle", "LWaxReign$Chronicle;", true)
  | 10 => ("WaxReign", "forecast", "LWaxReign$Forecast;", true)
  | 11 => ("WaxReign", "notes", "LWaxReign$Notes;", true)
  | 12 => ("WaxReign", "duel", "LWaxReign$Duel;", true)
  | _ => ("WaxReign", "draws", "LWaxReign$Draws;", true)
def kY11 : Nat → FieldType := fun k => match k with
  | 0 => (.object "WaxReign$Tape")
  | 1 => (.object "WaxReign$KingdomReader")
  | 2 => (.object "WaxReign$LawReader")
  | 3 => (.object "WaxReign$ReignReader")
  | 4 => (.object "WaxReign$Laws")
  | 5 => (.array (.array .int))
  | 6 => .int
  | 7 => .int
  | 8 => (.object "WaxReign$Realm")
  | 9 => (.object "WaxReign$Chronicle")
  | 10 => (.object "WaxReign$Forecast")
  | 11 => (.object "WaxReign$Notes")
  | 12 => (.object "WaxReign$Duel")
  | _ => (.object "WaxReign$Draws")
theorem kN11 : ∀ a, a < 14 → ∀ b, b < 14 → a ≠ b → (kT11 a).2.1 ≠ (kT11 b).2.1 := by decide +kernel
theorem kO11 : ∀ k, k < 14 → parseFieldDescriptor (kT11 k).2.2.1 = some (kY11 k) := by decide +kernel
theorem kI11 : ∀ w ∈ u_ws kR11 kT11 14, w ∈ aw_tbl := by decide +kernel
def kR12 : String := "WaxReignModel"
def kT12 : u_T := fun k => match k with
  | 0 => ("WaxReignModel", "thrown", "I", false)
  | 1 => ("WaxReignModel", "tape", "[B", true)
  | 2 => ("WaxReignModel", "texts", "[B", true)
  | 3 => ("WaxReignModel", "textLong", "[I", true)
  | 4 => ("WaxReignModel", "letters", "[I", true)
  | 5 => ("WaxReignModel", "text", "[B", false)
  | 6 => ("WaxReignModel", "length", "I", false)
  | 7 => ("WaxReignModel", "lawMany", "I", false)
  | 8 => ("WaxReignModel", "begins", "I", false)
  | 9 => ("WaxReignModel", "ends", "I", false)
  | 10 => ("WaxReignModel", "at", "I", false)
  | 11 => ("WaxReignModel", "fault", "I", false)
  | 12 => ("WaxReignModel", "deep", "I", false)
  | 13 => ("WaxReignModel", "label", "I", false)
  | 14 => ("WaxReignModel", "found", "I", false)
  | 15 => ("WaxReignModel", "labels", "Ljava/lang/String;", true)
  | 16 => ("WaxReignModel", "allowed", "Ljava/lang/String;", true)
  | 17 => ("WaxReignModel", "hasFound", "Z", false)
  | 18 => ("WaxReignModel", "rule", "[I", true)
  | 19 => ("WaxReignModel", "ruleRead", "[I", true)
  | 20 => ("WaxReignModel", "told", "[I", true)
  | 21 => ("WaxReignModel", "toldRead", "[I", true)
  | 22 => ("WaxReignModel", "skill", "[I", true)
  | 23 => ("WaxReignModel", "skillRead", "[I", true)
  | 24 => ("WaxReignModel", "plan", "[I", true)
  | 25 => ("WaxReignModel", "planLong", "[I", true)
  | 26 => ("WaxReignModel", "things", "I", false)
  | 27 => ("WaxReignModel", "rings", "I", false)
  | 28 => ("WaxReignModel", "thingsRead", "I", false)
  | 29 => ("WaxReignModel", "ringsRead", "I", false)
  | 30 => ("WaxReignModel", "plans", "I", false)
  | 31 => ("WaxReignModel", "hasRules", "Z", false)
  | 32 => ("WaxReignModel", "now", "[I", true)
  | 33 => ("WaxReignModel", "trial", "[I", true)
  | 34 => ("WaxReignModel", "law", "I", false)
  | 35 => ("WaxReignModel", "knifed", "I", false)
  | 36 => ("WaxReignModel", "memoKey", "[J", true)
  | 37 => ("WaxReignModel", "memoWorth", "[I", true)
  | 38 => ("WaxReignModel", "undoRow", "[I", true)
  | 39 => ("WaxReignModel", "acts", "I", false)
  | 40 => ("WaxReignModel", "x", "J", false)
  | 41 => ("WaxReignModel", "costs", "[I", true)
  | 42 => ("WaxReignModel", "suns", "[I", true)
  | 43 => ("WaxReignModel", "melts", "[I", true)
  | 44 => ("WaxReignModel", "dealtRow", "I", false)
  | 45 => ("WaxReignModel", "dealtWorth", "I", false)
  | 46 => ("WaxReignModel", "note", "[I", true)
  | 47 => ("WaxReignModel", "notes", "I", false)
  | 48 => ("WaxReignModel", "imageRow", "[I", true)
  | _ => ("WaxReignModel", "hasImage", "Z", false)
def kY12 : Nat → FieldType := fun k => match k with
  | 0 => .int
  | 1 => (.array .byte)
  | 2 => (.array .byte)
  | 3 => (.array .int)
  | 4 => (.array .int)
  | 5 => (.array .byte)
  | 6 => .int
  | 7 => .int
  | 8 => .int
  | 9 => .int
  | 10 => .int
  | 11 => .int
  | 12 => .int
  | 13 => .int
  | 14 => .int
  | 15 => (.object "java/lang/String")
  | 16 => (.object "java/lang/String")
  | 17 => .boolean
  | 18 => (.array .int)
  | 19 => (.array .int)
  | 20 => (.array .int)
  | 21 => (.array .int)
  | 22 => (.array .int)
  | 23 => (.array .int)
  | 24 => (.array .int)
  | 25 => (.array .int)
  | 26 => .int
  | 27 => .int
  | 28 => .int
  | 29 => .int
  | 30 => .int
  | 31 => .boolean
  | 32 => (.array .int)
  | 33 => (.array .int)
  | 34 => .int
  | 35 => .int
  | 36 => (.array .long)
  | 37 => (.array .int)
  | 38 => (.array .int)
  | 39 => .int
  | 40 => .long
  | 41 => (.array .int)
  | 42 => (.array .int)
  | 43 => (.array .int)
  | 44 => .int
  | 45 => .int
  | 46 => (.array .int)
  | 47 => .int
  | 48 => (.array .int)
  | _ => .boolean
theorem kN12 : ∀ a, a < 50 → ∀ b, b < 50 → a ≠ b → (kT12 a).2.1 ≠ (kT12 b).2.1 := by decide +kernel
theorem kO12 : ∀ k, k < 50 → parseFieldDescriptor (kT12 k).2.2.1 = some (kY12 k) := by decide +kernel
theorem kI12 : ∀ w ∈ u_ws kR12 kT12 50, w ∈ aw_tbl := by decide +kernel
abbrev aw_cl : List vw_C := [(kR0, kT0, 8), (kR1, kT1, 1), (kR2, kT2, 1), (kR3, kT3, 5), (kR4, kT4, 3), (kR5, kT5, 3), (kR6, kT6, 5), (kR7, kT7, 6), (kR8, kT8, 9), (kR9, kT9, 3), (kR10, kT10, 3), (kR11, kT11, 14), (kR12, kT12, 50)]
