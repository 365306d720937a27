-- ===== PART A: goes FIRST, ahead of the names: the tables' words, and 'selects' of the private methods out of them =====
/-- a private method of a class that the tables say can be made, by its rows of tables_1 -/
def lw_okq (q : MethodName × Nat) : Prop := (q.1.cls ≠ "java/lang/invoke/MethodHandle" ∧ q.1.cls ≠ "java/lang/invoke/VarHandle") ∧ Cond.instantiable q.1.cls q.2 ∈ tables_1 ∧ Cond.privateMethod q.1 ∈ tables_1 ∧ Cond.instanceMethod q.1 ∈ tables_1
theorem lw_p0 : lw_okq (⟨"TemperingLine$Line", "exists", "()Z"⟩, 15) := ⟨⟨by decide +kernel, by decide +kernel⟩, List.mem_of_getElem? (i := 176) (by decide +kernel), List.mem_of_getElem? (i := 283) (by decide +kernel), List.mem_of_getElem? (i := 284) (by decide +kernel)⟩
theorem lw_p1 : lw_okq (⟨"TemperingLine", "doneWith", "(I)I"⟩, 4) := ⟨⟨by decide +kernel, by decide +kernel⟩, List.mem_of_getElem? (i := 29) (by decide +kernel), List.mem_of_getElem? (i := 287) (by decide +kernel), List.mem_of_getElem? (i := 288) (by decide +kernel)⟩
theorem lw_p2 : lw_okq (⟨"TemperingLine$Line", "copyFrom", "(LTemperingLine$Line;)V"⟩, 15) := ⟨⟨by decide +kernel, by decide +kernel⟩, List.mem_of_getElem? (i := 176) (by decide +kernel), List.mem_of_getElem? (i := 291) (by decide +kernel), List.mem_of_getElem? (i := 292) (by decide +kernel)⟩
theorem lw_p3 : lw_okq (⟨"TemperingLine$Line", "ticksToFinish", "(I)I"⟩, 15) := ⟨⟨by decide +kernel, by decide +kernel⟩, List.mem_of_getElem? (i := 176) (by decide +kernel), List.mem_of_getElem? (i := 296) (by decide +kernel), List.mem_of_getElem? (i := 297) (by decide +kernel)⟩
theorem lw_p4 : lw_okq (⟨"TemperingLine$Line", "isFinished", "()Z"⟩, 15) := ⟨⟨by decide +kernel, by decide +kernel⟩, List.mem_of_getElem? (i := 176) (by decide +kernel), List.mem_of_getElem? (i := 300) (by decide +kernel), List.mem_of_getElem? (i := 301) (by decide +kernel)⟩
theorem lw_p5 : lw_okq (⟨"TemperingLine$Line", "tick", "()V"⟩, 15) := ⟨⟨by decide +kernel, by decide +kernel⟩, List.mem_of_getElem? (i := 176) (by decide +kernel), List.mem_of_getElem? (i := 304) (by decide +kernel), List.mem_of_getElem? (i := 305) (by decide +kernel)⟩
theorem lw_p6 : lw_okq (⟨"TemperingLine$Line", "heatZones", "()V"⟩, 15) := ⟨⟨by decide +kernel, by decide +kernel⟩, List.mem_of_getElem? (i := 176) (by decide +kernel), List.mem_of_getElem? (i := 308) (by decide +kernel), List.mem_of_getElem? (i := 309) (by decide +kernel)⟩
theorem lw_p7 : lw_okq (⟨"TemperingLine$Line", "heatSheetIn", "(I)V"⟩, 15) := ⟨⟨by decide +kernel, by decide +kernel⟩, List.mem_of_getElem? (i := 176) (by decide +kernel), List.mem_of_getElem? (i := 315) (by decide +kernel), List.mem_of_getElem? (i := 316) (by decide +kernel)⟩
theorem lw_p8 : lw_okq (⟨"TemperingLine$Line", "isSheet", "(I)Z"⟩, 15) := ⟨⟨by decide +kernel, by decide +kernel⟩, List.mem_of_getElem? (i := 176) (by decide +kernel), List.mem_of_getElem? (i := 319) (by decide +kernel), List.mem_of_getElem? (i := 320) (by decide +kernel)⟩
theorem lw_p9 : lw_okq (⟨"TemperingLine$Heat", "valueFor", "(III)I"⟩, 2) := ⟨⟨by decide +kernel, by decide +kernel⟩, List.mem_of_getElem? (i := 43) (by decide +kernel), List.mem_of_getElem? (i := 323) (by decide +kernel), List.mem_of_getElem? (i := 324) (by decide +kernel)⟩
theorem lw_p10 : lw_okq (⟨"TemperingLine$Line", "quench", "()I"⟩, 15) := ⟨⟨by decide +kernel, by decide +kernel⟩, List.mem_of_getElem? (i := 176) (by decide +kernel), List.mem_of_getElem? (i := 338) (by decide +kernel), List.mem_of_getElem? (i := 339) (by decide +kernel)⟩
theorem lw_p11 : lw_okq (⟨"TemperingLine$Line", "judge", "(I)V"⟩, 15) := ⟨⟨by decide +kernel, by decide +kernel⟩, List.mem_of_getElem? (i := 176) (by decide +kernel), List.mem_of_getElem? (i := 342) (by decide +kernel), List.mem_of_getElem? (i := 343) (by decide +kernel)⟩
theorem lw_p12 : lw_okq (⟨"TemperingLine$Line", "learn", "(II)V"⟩, 15) := ⟨⟨by decide +kernel, by decide +kernel⟩, List.mem_of_getElem? (i := 176) (by decide +kernel), List.mem_of_getElem? (i := 352) (by decide +kernel), List.mem_of_getElem? (i := 353) (by decide +kernel)⟩
theorem lw_p13 : lw_okq (⟨"TemperingLine$Line", "moveSheetFrom", "(I)V"⟩, 15) := ⟨⟨by decide +kernel, by decide +kernel⟩, List.mem_of_getElem? (i := 176) (by decide +kernel), List.mem_of_getElem? (i := 356) (by decide +kernel), List.mem_of_getElem? (i := 357) (by decide +kernel)⟩
theorem lw_p14 : lw_okq (⟨"TemperingLine$Line", "correctionFor", "(I)I"⟩, 15) := ⟨⟨by decide +kernel, by decide +kernel⟩, List.mem_of_getElem? (i := 176) (by decide +kernel), List.mem_of_getElem? (i := 360) (by decide +kernel), List.mem_of_getElem? (i := 361) (by decide +kernel)⟩
theorem lw_p15 : lw_okq (⟨"TemperingLine$Line", "spoil", "(I)V"⟩, 15) := ⟨⟨by decide +kernel, by decide +kernel⟩, List.mem_of_getElem? (i := 176) (by decide +kernel), List.mem_of_getElem? (i := 364) (by decide +kernel), List.mem_of_getElem? (i := 365) (by decide +kernel)⟩
def lw_privs_1 : List (MethodName × Nat) := [(⟨"TemperingLine$Line", "exists", "()Z"⟩, 15), (⟨"TemperingLine", "doneWith", "(I)I"⟩, 4), (⟨"TemperingLine$Line", "copyFrom", "(LTemperingLine$Line;)V"⟩, 15), (⟨"TemperingLine$Line", "ticksToFinish", "(I)I"⟩, 15), (⟨"TemperingLine$Line", "isFinished", "()Z"⟩, 15), (⟨"TemperingLine$Line", "tick", "()V"⟩, 15), (⟨"TemperingLine$Line", "heatZones", "()V"⟩, 15), (⟨"TemperingLine$Line", "heatSheetIn", "(I)V"⟩, 15), (⟨"TemperingLine$Line", "isSheet", "(I)Z"⟩, 15), (⟨"TemperingLine$Heat", "valueFor", "(III)I"⟩, 2), (⟨"TemperingLine$Line", "quench", "()I"⟩, 15), (⟨"TemperingLine$Line", "judge", "(I)V"⟩, 15), (⟨"TemperingLine$Line", "learn", "(II)V"⟩, 15), (⟨"TemperingLine$Line", "moveSheetFrom", "(I)V"⟩, 15), (⟨"TemperingLine$Line", "correctionFor", "(I)I"⟩, 15), (⟨"TemperingLine$Line", "spoil", "(I)V"⟩, 15)]
theorem lw_r1 : ∀ q ∈ lw_privs_1, lw_okq q := List.forall_mem_cons.mpr ⟨lw_p0, List.forall_mem_cons.mpr ⟨lw_p1, List.forall_mem_cons.mpr ⟨lw_p2, List.forall_mem_cons.mpr ⟨lw_p3, List.forall_mem_cons.mpr ⟨lw_p4, List.forall_mem_cons.mpr ⟨lw_p5, List.forall_mem_cons.mpr ⟨lw_p6, List.forall_mem_cons.mpr ⟨lw_p7, List.forall_mem_cons.mpr ⟨lw_p8, List.forall_mem_cons.mpr ⟨lw_p9, List.forall_mem_cons.mpr ⟨lw_p10, List.forall_mem_cons.mpr ⟨lw_p11, List.forall_mem_cons.mpr ⟨lw_p12, List.forall_mem_cons.mpr ⟨lw_p13, List.forall_mem_cons.mpr ⟨lw_p14, List.forall_mem_cons.mpr ⟨lw_p15, fun _ h => absurd h List.not_mem_nil⟩⟩⟩⟩⟩⟩⟩⟩⟩⟩⟩⟩⟩⟩⟩⟩
theorem lw_p16 : lw_okq (⟨"TemperingLine$Line", "moveToQuench", "(II)V"⟩, 15) := ⟨⟨by decide +kernel, by decide +kernel⟩, List.mem_of_getElem? (i := 176) (by decide +kernel), List.mem_of_getElem? (i := 368) (by decide +kernel), List.mem_of_getElem? (i := 369) (by decide +kernel)⟩
theorem lw_p17 : lw_okq (⟨"TemperingLine$Line", "moveToNext", "(II)V"⟩, 15) := ⟨⟨by decide +kernel, by decide +kernel⟩, List.mem_of_getElem? (i := 176) (by decide +kernel), List.mem_of_getElem? (i := 372) (by decide +kernel), List.mem_of_getElem? (i := 373) (by decide +kernel)⟩
theorem lw_p18 : lw_okq (⟨"TemperingLine$Line", "fillFirstZone", "()V"⟩, 15) := ⟨⟨by decide +kernel, by decide +kernel⟩, List.mem_of_getElem? (i := 176) (by decide +kernel), List.mem_of_getElem? (i := 376) (by decide +kernel), List.mem_of_getElem? (i := 377) (by decide +kernel)⟩
theorem lw_p19 : lw_okq (⟨"TemperingLine$Line", "sheetsIn", "(I)I"⟩, 15) := ⟨⟨by decide +kernel, by decide +kernel⟩, List.mem_of_getElem? (i := 176) (by decide +kernel), List.mem_of_getElem? (i := 381) (by decide +kernel), List.mem_of_getElem? (i := 382) (by decide +kernel)⟩
theorem lw_p20 : lw_okq (⟨"TemperingLine$History", "restoreLatest", "(LTemperingLine$Line;)I"⟩, 3) := ⟨⟨by decide +kernel, by decide +kernel⟩, List.mem_of_getElem? (i := 243) (by decide +kernel), List.mem_of_getElem? (i := 389) (by decide +kernel), List.mem_of_getElem? (i := 390) (by decide +kernel)⟩
theorem lw_p21 : lw_okq (⟨"java/lang/Throwable", "fillInStackTrace", "(I)Ljava/lang/Throwable;"⟩, 6) := ⟨⟨by decide +kernel, by decide +kernel⟩, List.mem_of_getElem? (i := 608) (by decide +kernel), List.mem_of_getElem? (i := 606) (by decide +kernel), List.mem_of_getElem? (i := 607) (by decide +kernel)⟩
theorem lw_p22 : lw_okq (⟨"TemperingLine$SetupReader", "begin", "(I)V"⟩, 13) := ⟨⟨by decide +kernel, by decide +kernel⟩, List.mem_of_getElem? (i := 123) (by decide +kernel), List.mem_of_getElem? (i := 637) (by decide +kernel), List.mem_of_getElem? (i := 638) (by decide +kernel)⟩
theorem lw_p23 : lw_okq (⟨"TemperingLine$SetupReader", "readToken", "()V"⟩, 13) := ⟨⟨by decide +kernel, by decide +kernel⟩, List.mem_of_getElem? (i := 123) (by decide +kernel), List.mem_of_getElem? (i := 642) (by decide +kernel), List.mem_of_getElem? (i := 643) (by decide +kernel)⟩
theorem lw_p24 : lw_okq (⟨"TemperingLine$SetupReader", "readHeader", "()Z"⟩, 13) := ⟨⟨by decide +kernel, by decide +kernel⟩, List.mem_of_getElem? (i := 123) (by decide +kernel), List.mem_of_getElem? (i := 652) (by decide +kernel), List.mem_of_getElem? (i := 653) (by decide +kernel)⟩
theorem lw_p25 : lw_okq (⟨"TemperingLine$SetupReader", "wordIs", "(Ljava/lang/String;)Z"⟩, 13) := ⟨⟨by decide +kernel, by decide +kernel⟩, List.mem_of_getElem? (i := 123) (by decide +kernel), List.mem_of_getElem? (i := 657) (by decide +kernel), List.mem_of_getElem? (i := 658) (by decide +kernel)⟩
theorem lw_p26 : lw_okq (⟨"TemperingLine$SetupReader", "fail", "(I)Z"⟩, 13) := ⟨⟨by decide +kernel, by decide +kernel⟩, List.mem_of_getElem? (i := 123) (by decide +kernel), List.mem_of_getElem? (i := 709) (by decide +kernel), List.mem_of_getElem? (i := 710) (by decide +kernel)⟩
theorem lw_p27 : lw_okq (⟨"TemperingLine$SetupReader", "takeNumber", "(II)Z"⟩, 13) := ⟨⟨by decide +kernel, by decide +kernel⟩, List.mem_of_getElem? (i := 123) (by decide +kernel), List.mem_of_getElem? (i := 713) (by decide +kernel), List.mem_of_getElem? (i := 714) (by decide +kernel)⟩
theorem lw_p28 : lw_okq (⟨"TemperingLine$SetupReader", "takeSign", "(C)Z"⟩, 13) := ⟨⟨by decide +kernel, by decide +kernel⟩, List.mem_of_getElem? (i := 123) (by decide +kernel), List.mem_of_getElem? (i := 720) (by decide +kernel), List.mem_of_getElem? (i := 721) (by decide +kernel)⟩
theorem lw_p29 : lw_okq (⟨"TemperingLine$SetupReader", "signIs", "(C)Z"⟩, 13) := ⟨⟨by decide +kernel, by decide +kernel⟩, List.mem_of_getElem? (i := 123) (by decide +kernel), List.mem_of_getElem? (i := 724) (by decide +kernel), List.mem_of_getElem? (i := 725) (by decide +kernel)⟩
theorem lw_p30 : lw_okq (⟨"TemperingLine$SetupReader", "readStatements", "()Z"⟩, 13) := ⟨⟨by decide +kernel, by decide +kernel⟩, List.mem_of_getElem? (i := 123) (by decide +kernel), List.mem_of_getElem? (i := 728) (by decide +kernel), List.mem_of_getElem? (i := 729) (by decide +kernel)⟩
theorem lw_p31 : lw_okq (⟨"TemperingLine$SetupReader", "readZone", "()Z"⟩, 13) := ⟨⟨by decide +kernel, by decide +kernel⟩, List.mem_of_getElem? (i := 123) (by decide +kernel), List.mem_of_getElem? (i := 733) (by decide +kernel), List.mem_of_getElem? (i := 734) (by decide +kernel)⟩
def lw_privs_2 : List (MethodName × Nat) := [(⟨"TemperingLine$Line", "moveToQuench", "(II)V"⟩, 15), (⟨"TemperingLine$Line", "moveToNext", "(II)V"⟩, 15), (⟨"TemperingLine$Line", "fillFirstZone", "()V"⟩, 15), (⟨"TemperingLine$Line", "sheetsIn", "(I)I"⟩, 15), (⟨"TemperingLine$History", "restoreLatest", "(LTemperingLine$Line;)I"⟩, 3), (⟨"java/lang/Throwable", "fillInStackTrace", "(I)Ljava/lang/Throwable;"⟩, 6), (⟨"TemperingLine$SetupReader", "begin", "(I)V"⟩, 13), (⟨"TemperingLine$SetupReader", "readToken", "()V"⟩, 13), (⟨"TemperingLine$SetupReader", "readHeader", "()Z"⟩, 13), (⟨"TemperingLine$SetupReader", "wordIs", "(Ljava/lang/String;)Z"⟩, 13), (⟨"TemperingLine$SetupReader", "fail", "(I)Z"⟩, 13), (⟨"TemperingLine$SetupReader", "takeNumber", "(II)Z"⟩, 13), (⟨"TemperingLine$SetupReader", "takeSign", "(C)Z"⟩, 13), (⟨"TemperingLine$SetupReader", "signIs", "(C)Z"⟩, 13), (⟨"TemperingLine$SetupReader", "readStatements", "()Z"⟩, 13), (⟨"TemperingLine$SetupReader", "readZone", "()Z"⟩, 13)]
theorem lw_r2 : ∀ q ∈ lw_privs_2, lw_okq q := List.forall_mem_cons.mpr ⟨lw_p16, List.forall_mem_cons.mpr ⟨lw_p17, List.forall_mem_cons.mpr ⟨lw_p18, List.forall_mem_cons.mpr ⟨lw_p19, List.forall_mem_cons.mpr ⟨lw_p20, List.forall_mem_cons.mpr ⟨lw_p21, List.forall_mem_cons.mpr ⟨lw_p22, List.forall_mem_cons.mpr ⟨lw_p23, List.forall_mem_cons.mpr ⟨lw_p24, List.forall_mem_cons.mpr ⟨lw_p25, List.forall_mem_cons.mpr ⟨lw_p26, List.forall_mem_cons.mpr ⟨lw_p27, List.forall_mem_cons.mpr ⟨lw_p28, List.forall_mem_cons.mpr ⟨lw_p29, List.forall_mem_cons.mpr ⟨lw_p30, List.forall_mem_cons.mpr ⟨lw_p31, fun _ h => absurd h List.not_mem_nil⟩⟩⟩⟩⟩⟩⟩⟩⟩⟩⟩⟩⟩⟩⟩⟩
theorem lw_p32 : lw_okq (⟨"TemperingLine$SetupReader", "readBand", "()Z"⟩, 13) := ⟨⟨by decide +kernel, by decide +kernel⟩, List.mem_of_getElem? (i := 123) (by decide +kernel), List.mem_of_getElem? (i := 738) (by decide +kernel), List.mem_of_getElem? (i := 739) (by decide +kernel)⟩
theorem lw_p33 : lw_okq (⟨"TemperingLine$SetupReader", "readHeat", "()Z"⟩, 13) := ⟨⟨by decide +kernel, by decide +kernel⟩, List.mem_of_getElem? (i := 123) (by decide +kernel), List.mem_of_getElem? (i := 743) (by decide +kernel), List.mem_of_getElem? (i := 744) (by decide +kernel)⟩
theorem lw_p34 : lw_okq (⟨"TemperingLine$SetupReader", "readSum", "(I)Z"⟩, 13) := ⟨⟨by decide +kernel, by decide +kernel⟩, List.mem_of_getElem? (i := 123) (by decide +kernel), List.mem_of_getElem? (i := 747) (by decide +kernel), List.mem_of_getElem? (i := 748) (by decide +kernel)⟩
theorem lw_p35 : lw_okq (⟨"TemperingLine$SetupReader", "readTerm", "(I)Z"⟩, 13) := ⟨⟨by decide +kernel, by decide +kernel⟩, List.mem_of_getElem? (i := 123) (by decide +kernel), List.mem_of_getElem? (i := 751) (by decide +kernel), List.mem_of_getElem? (i := 752) (by decide +kernel)⟩
theorem lw_p36 : lw_okq (⟨"TemperingLine$SetupReader", "readFactor", "(I)Z"⟩, 13) := ⟨⟨by decide +kernel, by decide +kernel⟩, List.mem_of_getElem? (i := 123) (by decide +kernel), List.mem_of_getElem? (i := 755) (by decide +kernel), List.mem_of_getElem? (i := 756) (by decide +kernel)⟩
theorem lw_p37 : lw_okq (⟨"TemperingLine$SetupReader", "putStep", "(I)V"⟩, 13) := ⟨⟨by decide +kernel, by decide +kernel⟩, List.mem_of_getElem? (i := 123) (by decide +kernel), List.mem_of_getElem? (i := 759) (by decide +kernel), List.mem_of_getElem? (i := 760) (by decide +kernel)⟩
theorem lw_p38 : lw_okq (⟨"TemperingLine$History", "remember", "(LTemperingLine$Line;)V"⟩, 3) := ⟨⟨by decide +kernel, by decide +kernel⟩, List.mem_of_getElem? (i := 243) (by decide +kernel), List.mem_of_getElem? (i := 767) (by decide +kernel), List.mem_of_getElem? (i := 768) (by decide +kernel)⟩
theorem lw_p39 : lw_okq (⟨"TemperingLine$Line", "startWith", "(LTemperingLine$Setup;)V"⟩, 15) := ⟨⟨by decide +kernel, by decide +kernel⟩, List.mem_of_getElem? (i := 176) (by decide +kernel), List.mem_of_getElem? (i := 772) (by decide +kernel), List.mem_of_getElem? (i := 773) (by decide +kernel)⟩
theorem lw_p40 : lw_okq (⟨"TemperingLine$Line", "standReady", "()V"⟩, 15) := ⟨⟨by decide +kernel, by decide +kernel⟩, List.mem_of_getElem? (i := 176) (by decide +kernel), List.mem_of_getElem? (i := 776) (by decide +kernel), List.mem_of_getElem? (i := 777) (by decide +kernel)⟩
theorem lw_p41 : lw_okq (⟨"TemperingLine$Line", "holdOnly", "(I)V"⟩, 15) := ⟨⟨by decide +kernel, by decide +kernel⟩, List.mem_of_getElem? (i := 176) (by decide +kernel), List.mem_of_getElem? (i := 832) (by decide +kernel), List.mem_of_getElem? (i := 833) (by decide +kernel)⟩
theorem lw_p42 : lw_okq (⟨"TemperingLine$Line", "putSheet", "(I)I"⟩, 15) := ⟨⟨by decide +kernel, by decide +kernel⟩, List.mem_of_getElem? (i := 176) (by decide +kernel), List.mem_of_getElem? (i := 836) (by decide +kernel), List.mem_of_getElem? (i := 837) (by decide +kernel)⟩
theorem lw_p43 : lw_okq (⟨"TemperingLine", "requireLine", "()V"⟩, 4) := ⟨⟨by decide +kernel, by decide +kernel⟩, List.mem_of_getElem? (i := 29) (by decide +kernel), List.mem_of_getElem? (i := 865) (by decide +kernel), List.mem_of_getElem? (i := 866) (by decide +kernel)⟩
theorem lw_p44 : lw_okq (⟨"TemperingLine$SetupReader", "putWord", "(I)V"⟩, 13) := ⟨⟨by decide +kernel, by decide +kernel⟩, List.mem_of_getElem? (i := 123) (by decide +kernel), List.mem_of_getElem? (i := 943) (by decide +kernel), List.mem_of_getElem? (i := 944) (by decide +kernel)⟩
theorem lw_p45 : lw_okq (⟨"TemperingLine$Line", "digest", "()J"⟩, 15) := ⟨⟨by decide +kernel, by decide +kernel⟩, List.mem_of_getElem? (i := 176) (by decide +kernel), List.mem_of_getElem? (i := 1243) (by decide +kernel), List.mem_of_getElem? (i := 1244) (by decide +kernel)⟩
def lw_privs_3 : List (MethodName × Nat) := [(⟨"TemperingLine$SetupReader", "readBand", "()Z"⟩, 13), (⟨"TemperingLine$SetupReader", "readHeat", "()Z"⟩, 13), (⟨"TemperingLine$SetupReader", "readSum", "(I)Z"⟩, 13), (⟨"TemperingLine$SetupReader", "readTerm", "(I)Z"⟩, 13), (⟨"TemperingLine$SetupReader", "readFactor", "(I)Z"⟩, 13), (⟨"TemperingLine$SetupReader", "putStep", "(I)V"⟩, 13), (⟨"TemperingLine$History", "remember", "(LTemperingLine$Line;)V"⟩, 3), (⟨"TemperingLine$Line", "startWith", "(LTemperingLine$Setup;)V"⟩, 15), (⟨"TemperingLine$Line", "standReady", "()V"⟩, 15), (⟨"TemperingLine$Line", "holdOnly", "(I)V"⟩, 15), (⟨"TemperingLine$Line", "putSheet", "(I)I"⟩, 15), (⟨"TemperingLine", "requireLine", "()V"⟩, 4), (⟨"TemperingLine$SetupReader", "putWord", "(I)V"⟩, 13), (⟨"TemperingLine$Line", "digest", "()J"⟩, 15)]
theorem lw_r3 : ∀ q ∈ lw_privs_3, lw_okq q := List.forall_mem_cons.mpr ⟨lw_p32, List.forall_mem_cons.mpr ⟨lw_p33, List.forall_mem_cons.mpr ⟨lw_p34, List.forall_mem_cons.mpr ⟨lw_p35, List.forall_mem_cons.mpr ⟨lw_p36, List.forall_mem_cons.mpr ⟨lw_p37, List.forall_mem_cons.mpr ⟨lw_p38, List.forall_mem_cons.mpr ⟨lw_p39, List.forall_mem_cons.mpr ⟨lw_p40, List.forall_mem_cons.mpr ⟨lw_p41, List.forall_mem_cons.mpr ⟨lw_p42, List.forall_mem_cons.mpr ⟨lw_p43, List.forall_mem_cons.mpr ⟨lw_p44, List.forall_mem_cons.mpr ⟨lw_p45, fun _ h => absurd h List.not_mem_nil⟩⟩⟩⟩⟩⟩⟩⟩⟩⟩⟩⟩⟩⟩
def lw_privs : List (MethodName × Nat) := lw_privs_1 ++ (lw_privs_2 ++ (lw_privs_3))
/-- the private methods of the class above the string builder: what a string builder selects -/
def am_privs : List MethodName := [⟨"java/lang/AbstractStringBuilder", "ensureCapacityInternal", "(I)V"⟩, ⟨"java/lang/AbstractStringBuilder", "newCapacity", "(I)I"⟩, ⟨"java/lang/AbstractStringBuilder", "inflateIfNeededFor", "(Ljava/lang/String;)V"⟩, ⟨"java/lang/AbstractStringBuilder", "putStringAt", "(ILjava/lang/String;)V"⟩]
def am_sels : List Cond := am_privs.map fun y => Cond.selects "java/lang/StringBuilder" y y
def lw_tbl : List Cond := k2_sels lw_privs ++ (tables_1 ++ am_sels)
theorem lw_privs_ok : ∀ q ∈ lw_privs, lw_okq q := by
  show ∀ q ∈ lw_privs_1 ++ (lw_privs_2 ++ (lw_privs_3)), lw_okq q
  exact List.forall_mem_append.mpr ⟨lw_r1, List.forall_mem_append.mpr ⟨lw_r2, lw_r3⟩⟩
-- ===== end of PART A; then your names; then what follows =====
def RX0 : String := "TemperingLine$Heat"
def TX0 : u_T := fun k => match k with
  | 0 => ("TemperingLine$Heat", "steps", "[I", true)
  | _ => ("TemperingLine$Heat", "stack", "[I", true)
def tyX0 : Nat → FieldType := fun k => match k with
  | 0 => .array .int
  | _ => .array .int
abbrev wsX00 : List Cond := u_ws RX0 TX0 2
theorem nmX0 : ∀ a, a < 2 → ∀ b, b < 2 → a ≠ b → (TX0 a).2.1 ≠ (TX0 b).2.1 := by decide +kernel
theorem tyX0_ok : ∀ k, k < 2 → parseFieldDescriptor (TX0 k).2.2.1 = some (tyX0 k) := by decide +kernel
abbrev cX0_init : ByteArray := prog_2_method_1_code
def yX0_init : MethodName := ⟨RX0, "<init>", "([II)V"⟩
abbrev cX0_valueFor : ByteArray := prog_2_method_2_code
def yX0_valueFor : MethodName := ⟨RX0, "valueFor", "(III)I"⟩
abbrev cX0_result : ByteArray := prog_2_method_3_code
def yX0_result : MethodName := ⟨RX0, "result", "(III)I"⟩
def RX1 : String := "TemperingLine$History"
def TX1 : u_T := fun k => match k with
  | 0 => ("TemperingLine$History", "rows", "[LTemperingLine$Line;", true)
  | 1 => ("TemperingLine$History", "next", "I", false)
  | _ => ("TemperingLine$History", "kept", "I", false)
def tyX1 : Nat → FieldType := fun k => match k with
  | 0 => .array (.object "TemperingLine$Line")
  | 1 => .int
  | _ => .int
abbrev wsX10 : List Cond := u_ws RX1 TX1 3
theorem nmX1 : ∀ a, a < 3 → ∀ b, b < 3 → a ≠ b → (TX1 a).2.1 ≠ (TX1 b).2.1 := by decide +kernel
theorem tyX1_ok : ∀ k, k < 3 → parseFieldDescriptor (TX1 k).2.2.1 = some (tyX1 k) := by decide +kernel
abbrev cX1_init : ByteArray := prog_3_method_1_code
def yX1_init : MethodName := ⟨RX1, "<init>", "(LTemperingLine$Setup;)V"⟩
abbrev cX1_remember : ByteArray := prog_3_method_2_code
def yX1_remember : MethodName := ⟨RX1, "remember", "(LTemperingLine$Line;)V"⟩
abbrev cX1_restoreLatest : ByteArray := prog_3_method_3_code
def yX1_restoreLatest : MethodName := ⟨RX1, "restoreLatest", "(LTemperingLine$Line;)I"⟩
def RX2 : String := "TemperingLine$Line"
def TX2 : u_T := fun k => match k with
  | 0 => ("TemperingLine$Line", "setup", "LTemperingLine$Setup;", false)
  | 1 => ("TemperingLine$Line", "time", "I", false)
  | 2 => ("TemperingLine$Line", "sheets", "I", false)
  | 3 => ("TemperingLine$Line", "quenchSheet", "I", false)
  | 4 => ("TemperingLine$Line", "quenchTicks", "I", false)
  | 5 => ("TemperingLine$Line", "setpoints", "[I", true)
  | 6 => ("TemperingLine$Line", "zoneTemperatures", "[I", true)
  | 7 => ("TemperingLine$Line", "holders", "[I", true)
  | 8 => ("TemperingLine$Line", "thicknesses", "[I", true)
  | 9 => ("TemperingLine$Line", "sheetTemperatures", "[I", true)
  | 10 => ("TemperingLine$Line", "states", "[I", true)
  | 11 => ("TemperingLine$Line", "passed", "[I", true)
  | 12 => ("TemperingLine$Line", "coldBreaks", "[I", true)
  | 13 => ("TemperingLine$Line", "hotBreaks", "[I", true)
  | _ => ("TemperingLine$Line", "corrections", "[I", true)
def tyX2 : Nat → FieldType := fun k => match k with
  | 0 => .object "TemperingLine$Setup"
  | 1 => .int
  | 2 => .int
  | 3 => .int
  | 4 => .int
  | 5 => .array .int
  | 6 => .array .int
  | 7 => .array .int
  | 8 => .array .int
  | 9 => .array .int
  | 10 => .array .int
  | 11 => .array .int
  | 12 => .array .int
  | 13 => .array .int
  | _ => .array .int
abbrev wsX20 : List Cond := u_ws RX2 TX2 15
theorem nmX2 : ∀ a, a < 15 → ∀ b, b < 15 → a ≠ b → (TX2 a).2.1 ≠ (TX2 b).2.1 := by decide +kernel
theorem tyX2_ok : ∀ k, k < 15 → parseFieldDescriptor (TX2 k).2.2.1 = some (tyX2 k) := by decide +kernel
abbrev cX2_init : ByteArray := prog_4_method_1_code
def yX2_init : MethodName := ⟨RX2, "<init>", "(LTemperingLine$Setup;)V"⟩
abbrev cX2_exists : ByteArray := prog_4_method_2_code
def yX2_exists : MethodName := ⟨RX2, "exists", "()Z"⟩
abbrev cX2_isSheet : ByteArray := prog_4_method_3_code
def yX2_isSheet : MethodName := ⟨RX2, "isSheet", "(I)Z"⟩
abbrev cX2_startWith : ByteArray := prog_4_method_4_code
def yX2_startWith : MethodName := ⟨RX2, "startWith", "(LTemperingLine$Setup;)V"⟩
abbrev cX2_standReady : ByteArray := prog_4_method_5_code
def yX2_standReady : MethodName := ⟨RX2, "standReady", "()V"⟩
abbrev cX2_holdOnly : ByteArray := prog_4_method_6_code
def yX2_holdOnly : MethodName := ⟨RX2, "holdOnly", "(I)V"⟩
abbrev cX2_putSheet : ByteArray := prog_4_method_7_code
def yX2_putSheet : MethodName := ⟨RX2, "putSheet", "(I)I"⟩
abbrev cX2_copyFrom : ByteArray := prog_4_method_8_code
def yX2_copyFrom : MethodName := ⟨RX2, "copyFrom", "(LTemperingLine$Line;)V"⟩
abbrev cX2_sheetsIn : ByteArray := prog_4_method_9_code
def yX2_sheetsIn : MethodName := ⟨RX2, "sheetsIn", "(I)I"⟩
abbrev cX2_isFinished : ByteArray := prog_4_method_10_code
def yX2_isFinished : MethodName := ⟨RX2, "isFinished", "()Z"⟩
abbrev cX2_ticksToFinish : ByteArray := prog_4_method_11_code
def yX2_ticksToFinish : MethodName := ⟨RX2, "ticksToFinish", "(I)I"⟩
abbrev cX2_tick : ByteArray := prog_4_method_12_code
def yX2_tick : MethodName := ⟨RX2, "tick", "()V"⟩
abbrev cX2_heatZones : ByteArray := prog_4_method_13_code
def yX2_heatZones : MethodName := ⟨RX2, "heatZones", "()V"⟩
abbrev cX2_heatSheetIn : ByteArray := prog_4_method_14_code
def yX2_heatSheetIn : MethodName := ⟨RX2, "heatSheetIn", "(I)V"⟩
abbrev cX2_quench : ByteArray := prog_4_method_15_code
def yX2_quench : MethodName := ⟨RX2, "quench", "()I"⟩
abbrev cX2_judge : ByteArray := prog_4_method_16_code
def yX2_judge : MethodName := ⟨RX2, "judge", "(I)V"⟩
abbrev cX2_learn : ByteArray := prog_4_method_17_code
def yX2_learn : MethodName := ⟨RX2, "learn", "(II)V"⟩
abbrev cX2_moveSheetFrom : ByteArray := prog_4_method_18_code
def yX2_moveSheetFrom : MethodName := ⟨RX2, "moveSheetFrom", "(I)V"⟩
abbrev cX2_correctionFor : ByteArray := prog_4_method_19_code
def yX2_correctionFor : MethodName := ⟨RX2, "correctionFor", "(I)I"⟩
abbrev cX2_moveToQuench : ByteArray := prog_4_method_20_code
def yX2_moveToQuench : MethodName := ⟨RX2, "moveToQuench", "(II)V"⟩
abbrev cX2_moveToNext : ByteArray := prog_4_method_21_code
def yX2_moveToNext : MethodName := ⟨RX2, "moveToNext", "(II)V"⟩
abbrev cX2_fillFirstZone : ByteArray := prog_4_method_22_code
def yX2_fillFirstZone : MethodName := ⟨RX2, "fillFirstZone", "()V"⟩
abbrev cX2_spoil : ByteArray := prog_4_method_23_code
def yX2_spoil : MethodName := ⟨RX2, "spoil", "(I)V"⟩
abbrev cX2_digest : ByteArray := prog_4_method_24_code
def yX2_digest : MethodName := ⟨RX2, "digest", "()J"⟩
def RX3 : String := "TemperingLine$Setup"
def TX3 : u_T := fun k => match k with
  | 0 => ("TemperingLine$Setup", "zones", "I", false)
  | 1 => ("TemperingLine$Setup", "quenchTime", "I", false)
  | 2 => ("TemperingLine$Setup", "learningStep", "I", false)
  | 3 => ("TemperingLine$Setup", "setpoints", "[I", true)
  | 4 => ("TemperingLine$Setup", "powers", "[I", true)
  | 5 => ("TemperingLine$Setup", "capacities", "[I", true)
  | 6 => ("TemperingLine$Setup", "lowers", "[I", true)
  | 7 => ("TemperingLine$Setup", "uppers", "[I", true)
  | 8 => ("TemperingLine$Setup", "bandLows", "[I", true)
  | 9 => ("TemperingLine$Setup", "bandHighs", "[I", true)
  | _ => ("TemperingLine$Setup", "heat", "LTemperingLine$Heat;", false)
def tyX3 : Nat → FieldType := fun k => match k with
  | 0 => .int
  | 1 => .int
  | 2 => .int
  | 3 => .array .int
  | 4 => .array .int
  | 5 => .array .int
  | 6 => .array .int
  | 7 => .array .int
  | 8 => .array .int
  | 9 => .array .int
  | _ => .object "TemperingLine$Heat"
abbrev wsX30 : List Cond := u_ws RX3 TX3 11
theorem nmX3 : ∀ a, a < 11 → ∀ b, b < 11 → a ≠ b → (TX3 a).2.1 ≠ (TX3 b).2.1 := by decide +kernel
theorem tyX3_ok : ∀ k, k < 11 → parseFieldDescriptor (TX3 k).2.2.1 = some (tyX3 k) := by decide +kernel
abbrev cX3_init : ByteArray := prog_5_method_1_code
def yX3_init : MethodName := ⟨RX3, "<init>", "()V"⟩
def RX4 : String := "TemperingLine$SetupReader"
def TX4 : u_T := fun k => match k with
  | 0 => ("TemperingLine$SetupReader", "bytes", "[B", true)
  | 1 => ("TemperingLine$SetupReader", "filled", "I", false)
  | 2 => ("TemperingLine$SetupReader", "length", "I", false)
  | 3 => ("TemperingLine$SetupReader", "kind", "I", false)
  | 4 => ("TemperingLine$SetupReader", "start", "I", false)
  | 5 => ("TemperingLine$SetupReader", "end", "I", false)
  | 6 => ("TemperingLine$SetupReader", "number", "I", false)
  | 7 => ("TemperingLine$SetupReader", "errorCode", "I", false)
  | 8 => ("TemperingLine$SetupReader", "errorStart", "I", false)
  | 9 => ("TemperingLine$SetupReader", "setup", "LTemperingLine$Setup;", false)
  | 10 => ("TemperingLine$SetupReader", "heatSeen", "Z", false)
  | 11 => ("TemperingLine$SetupReader", "steps", "[I", true)
  | _ => ("TemperingLine$SetupReader", "stepCount", "I", false)
def tyX4 : Nat → FieldType := fun k => match k with
  | 0 => .array .byte
  | 1 => .int
  | 2 => .int
  | 3 => .int
  | 4 => .int
  | 5 => .int
  | 6 => .int
  | 7 => .int
  | 8 => .int
  | 9 => .object "TemperingLine$Setup"
  | 10 => .boolean
  | 11 => .array .int
  | _ => .int
abbrev wsX40 : List Cond := u_ws RX4 TX4 13
theorem nmX4 : ∀ a, a < 13 → ∀ b, b < 13 → a ≠ b → (TX4 a).2.1 ≠ (TX4 b).2.1 := by decide +kernel
theorem tyX4_ok : ∀ k, k < 13 → parseFieldDescriptor (TX4 k).2.2.1 = some (tyX4 k) := by decide +kernel
abbrev cX4_init : ByteArray := prog_6_method_1_code
def yX4_init : MethodName := ⟨RX4, "<init>", "()V"⟩
abbrev cX4_putWord : ByteArray := prog_6_method_2_code
def yX4_putWord : MethodName := ⟨RX4, "putWord", "(I)V"⟩
abbrev cX4_begin : ByteArray := prog_6_method_3_code
def yX4_begin : MethodName := ⟨RX4, "begin", "(I)V"⟩
abbrev cX4_fail : ByteArray := prog_6_method_4_code
def yX4_fail : MethodName := ⟨RX4, "fail", "(I)Z"⟩
abbrev cX4_readHeader : ByteArray := prog_6_method_5_code
def yX4_readHeader : MethodName := ⟨RX4, "readHeader", "()Z"⟩
abbrev cX4_readStatements : ByteArray := prog_6_method_6_code
def yX4_readStatements : MethodName := ⟨RX4, "readStatements", "()Z"⟩
abbrev cX4_readZone : ByteArray := prog_6_method_7_code
def yX4_readZone : MethodName := ⟨RX4, "readZone", "()Z"⟩
abbrev cX4_readBand : ByteArray := prog_6_method_8_code
def yX4_readBand : MethodName := ⟨RX4, "readBand", "()Z"⟩
abbrev cX4_readHeat : ByteArray := prog_6_method_9_code
def yX4_readHeat : MethodName := ⟨RX4, "readHeat", "()Z"⟩
abbrev cX4_readSum : ByteArray := prog_6_method_10_code
def yX4_readSum : MethodName := ⟨RX4, "readSum", "(I)Z"⟩
abbrev cX4_readTerm : ByteArray := prog_6_method_11_code
def yX4_readTerm : MethodName := ⟨RX4, "readTerm", "(I)Z"⟩
abbrev cX4_readFactor : ByteArray := prog_6_method_12_code
def yX4_readFactor : MethodName := ⟨RX4, "readFactor", "(I)Z"⟩
abbrev cX4_putStep : ByteArray := prog_6_method_13_code
def yX4_putStep : MethodName := ⟨RX4, "putStep", "(I)V"⟩
abbrev cX4_takeNumber : ByteArray := prog_6_method_14_code
def yX4_takeNumber : MethodName := ⟨RX4, "takeNumber", "(II)Z"⟩
abbrev cX4_takeSign : ByteArray := prog_6_method_15_code
def yX4_takeSign : MethodName := ⟨RX4, "takeSign", "(C)Z"⟩
abbrev cX4_signIs : ByteArray := prog_6_method_16_code
def yX4_signIs : MethodName := ⟨RX4, "signIs", "(C)Z"⟩
abbrev cX4_wordIs : ByteArray := prog_6_method_17_code
def yX4_wordIs : MethodName := ⟨RX4, "wordIs", "(Ljava/lang/String;)Z"⟩
abbrev cX4_readToken : ByteArray := prog_6_method_18_code
def yX4_readToken : MethodName := ⟨RX4, "readToken", "()V"⟩
abbrev cX4_isDigit : ByteArray := prog_6_method_19_code
def yX4_isDigit : MethodName := ⟨RX4, "isDigit", "(I)Z"⟩
abbrev cX4_isLetter : ByteArray := prog_6_method_20_code
def yX4_isLetter : MethodName := ⟨RX4, "isLetter", "(I)Z"⟩
def RX5 : String := "TemperingLine"
def TX5 : u_T := fun k => match k with
  | 0 => ("TemperingLine", "reader", "LTemperingLine$SetupReader;", true)
  | 1 => ("TemperingLine", "line", "LTemperingLine$Line;", true)
  | 2 => ("TemperingLine", "trial", "LTemperingLine$Line;", true)
  | _ => ("TemperingLine", "history", "LTemperingLine$History;", true)
def tyX5 : Nat → FieldType := fun k => match k with
  | 0 => .object "TemperingLine$SetupReader"
  | 1 => .object "TemperingLine$Line"
  | 2 => .object "TemperingLine$Line"
  | _ => .object "TemperingLine$History"
abbrev wsX50 : List Cond := u_ws RX5 TX5 4
theorem nmX5 : ∀ a, a < 4 → ∀ b, b < 4 → a ≠ b → (TX5 a).2.1 ≠ (TX5 b).2.1 := by decide +kernel
theorem tyX5_ok : ∀ k, k < 4 → parseFieldDescriptor (TX5 k).2.2.1 = some (tyX5 k) := by decide +kernel
abbrev cX5_init : ByteArray := prog_1_method_1_code
def yX5_init : MethodName := ⟨RX5, "<init>", "()V"⟩
abbrev cX5_append : ByteArray := prog_1_method_2_code
def yX5_append : MethodName := ⟨RX5, "append", "(IIIII)I"⟩
abbrev cX5_load : ByteArray := prog_1_method_3_code
def yX5_load : MethodName := ⟨RX5, "load", "(I)I"⟩
abbrev cX5_errorOffset : ByteArray := prog_1_method_4_code
def yX5_errorOffset : MethodName := ⟨RX5, "errorOffset", "()I"⟩
abbrev cX5_zoneCount : ByteArray := prog_1_method_5_code
def yX5_zoneCount : MethodName := ⟨RX5, "zoneCount", "()I"⟩
abbrev cX5_sheetCount : ByteArray := prog_1_method_6_code
def yX5_sheetCount : MethodName := ⟨RX5, "sheetCount", "()I"⟩
abbrev cX5_clock : ByteArray := prog_1_method_7_code
def yX5_clock : MethodName := ⟨RX5, "clock", "()I"⟩
abbrev cX5_zone : ByteArray := prog_1_method_8_code
def yX5_zone : MethodName := ⟨RX5, "zone", "(II)I"⟩
abbrev cX5_thickness : ByteArray := prog_1_method_9_code
def yX5_thickness : MethodName := ⟨RX5, "thickness", "(I)I"⟩
abbrev cX5_temperature : ByteArray := prog_1_method_10_code
def yX5_temperature : MethodName := ⟨RX5, "temperature", "(I)I"⟩
abbrev cX5_state : ByteArray := prog_1_method_11_code
def yX5_state : MethodName := ⟨RX5, "state", "(I)I"⟩
abbrev cX5_quenched : ByteArray := prog_1_method_12_code
def yX5_quenched : MethodName := ⟨RX5, "quenched", "()I"⟩
abbrev cX5_quenchLeft : ByteArray := prog_1_method_13_code
def yX5_quenchLeft : MethodName := ⟨RX5, "quenchLeft", "()I"⟩
abbrev cX5_count : ByteArray := prog_1_method_14_code
def yX5_count : MethodName := ⟨RX5, "count", "(I)I"⟩
abbrev cX5_learned : ByteArray := prog_1_method_15_code
def yX5_learned : MethodName := ⟨RX5, "learned", "(II)I"⟩
abbrev cX5_guard : ByteArray := prog_1_method_18_code
def yX5_guard : MethodName := ⟨RX5, "guard", "(I)I"⟩
abbrev cX5_finishTime : ByteArray := prog_1_method_19_code
def yX5_finishTime : MethodName := ⟨RX5, "finishTime", "(I)I"⟩
abbrev cX5_stateAfter : ByteArray := prog_1_method_20_code
def yX5_stateAfter : MethodName := ⟨RX5, "stateAfter", "(II)I"⟩
abbrev cX5_bestSetpoint : ByteArray := prog_1_method_21_code
def yX5_bestSetpoint : MethodName := ⟨RX5, "bestSetpoint", "()I"⟩
abbrev cX5_add : ByteArray := prog_1_method_22_code
def yX5_add : MethodName := ⟨RX5, "add", "(II)I"⟩
abbrev cX5_run : ByteArray := prog_1_method_23_code
def yX5_run : MethodName := ⟨RX5, "run", "(I)I"⟩
abbrev cX5_setPoint : ByteArray := prog_1_method_24_code
def yX5_setPoint : MethodName := ⟨RX5, "setPoint", "(II)I"⟩
abbrev cX5_setCorrection : ByteArray := prog_1_method_25_code
def yX5_setCorrection : MethodName := ⟨RX5, "setCorrection", "(II)I"⟩
abbrev cX5_scrap : ByteArray := prog_1_method_26_code
def yX5_scrap : MethodName := ⟨RX5, "scrap", "(I)I"⟩
abbrev cX5_undo : ByteArray := prog_1_method_27_code
def yX5_undo : MethodName := ⟨RX5, "undo", "()I"⟩
abbrev cX5_checksum : ByteArray := prog_1_method_28_code
def yX5_checksum : MethodName := ⟨RX5, "checksum", "()J"⟩
abbrev cX5_doneWith : ByteArray := prog_1_method_29_code
def yX5_doneWith : MethodName := ⟨RX5, "doneWith", "(I)I"⟩
abbrev cX5_requireLine : ByteArray := prog_1_method_30_code
def yX5_requireLine : MethodName := ⟨RX5, "requireLine", "()V"⟩
abbrev cX5_requireArgument : ByteArray := prog_1_method_31_code
def yX5_requireArgument : MethodName := ⟨RX5, "requireArgument", "(III)V"⟩
abbrev cX5_requireIndex : ByteArray := prog_1_method_32_code
def yX5_requireIndex : MethodName := ⟨RX5, "requireIndex", "(II)V"⟩
abbrev cX5_isWithin : ByteArray := prog_1_method_33_code
def yX5_isWithin : MethodName := ⟨RX5, "isWithin", "(III)Z"⟩
abbrev cX5_isThickness : ByteArray := prog_1_method_34_code
def yX5_isThickness : MethodName := ⟨RX5, "isThickness", "(I)Z"⟩
abbrev cX5_limit : ByteArray := prog_1_method_35_code
def yX5_limit : MethodName := ⟨RX5, "limit", "(III)I"⟩
abbrev cX5_thicknessOf : ByteArray := prog_1_method_36_code
def yX5_thicknessOf : MethodName := ⟨RX5, "thicknessOf", "(II)I"⟩
def RX6 : String := "TemperingLineLaw$Line"
def TX6 : u_T := fun k => match k with
  | 0 => ("TemperingLineLaw$Line", "clock", "I", false)
  | 1 => ("TemperingLineLaw$Line", "quenchTime", "I", false)
  | 2 => ("TemperingLineLaw$Line", "learning", "I", false)
  | 3 => ("TemperingLineLaw$Line", "left", "I", false)
  | 4 => ("TemperingLineLaw$Line", "term", "LTemperingLineLaw$Node;", false)
  | 5 => ("TemperingLineLaw$Line", "zones", "[[I", false)
  | 6 => ("TemperingLineLaw$Line", "heats", "[I", false)
  | 7 => ("TemperingLineLaw$Line", "sheets", "[LTemperingLineLaw$Sheet;", false)
  | 8 => ("TemperingLineLaw$Line", "bands", "[[I", false)
  | _ => ("TemperingLineLaw$Line", "learned", "[[I", false)
def tyX6 : Nat → FieldType := fun k => match k with
  | 0 => .int
  | 1 => .int
  | 2 => .int
  | 3 => .int
  | 4 => .object "TemperingLineLaw$Node"
  | 5 => .array (.array .int)
  | 6 => .array .int
  | 7 => .array (.object "TemperingLineLaw$Sheet")
  | 8 => .array (.array .int)
  | _ => .array (.array .int)
abbrev wsX60 : List Cond := u_ws RX6 TX6 10
theorem nmX6 : ∀ a, a < 10 → ∀ b, b < 10 → a ≠ b → (TX6 a).2.1 ≠ (TX6 b).2.1 := by decide +kernel
theorem tyX6_ok : ∀ k, k < 10 → parseFieldDescriptor (TX6 k).2.2.1 = some (tyX6 k) := by decide +kernel
abbrev cX6_init : ByteArray := prog_8_method_1_code
def yX6_init : MethodName := ⟨RX6, "<init>", "()V"⟩
abbrev cX6_copy : ByteArray := prog_8_method_2_code
def yX6_copy : MethodName := ⟨RX6, "copy", "()LTemperingLineLaw$Line;"⟩
abbrev cX6_at : ByteArray := prog_8_method_3_code
def yX6_at : MethodName := ⟨RX6, "at", "(I)I"⟩
abbrev cX6_share : ByteArray := prog_8_method_4_code
def yX6_share : MethodName := ⟨RX6, "share", "(III)I"⟩
abbrev cX6_out : ByteArray := prog_8_method_5_code
def yX6_out : MethodName := ⟨RX6, "out", "(LTemperingLineLaw$Sheet;I)V"⟩
abbrev cX6_cool : ByteArray := prog_8_method_6_code
def yX6_cool : MethodName := ⟨RX6, "cool", "()V"⟩
abbrev cX6_step : ByteArray := prog_8_method_7_code
def yX6_step : MethodName := ⟨RX6, "step", "(I)V"⟩
abbrev cX6_tick : ByteArray := prog_8_method_8_code
def yX6_tick : MethodName := ⟨RX6, "tick", "()V"⟩
abbrev cX6_count : ByteArray := prog_8_method_9_code
def yX6_count : MethodName := ⟨RX6, "count", "(I)I"⟩
abbrev cX6_recognised : ByteArray := prog_8_method_14_code
def yX6_recognised : MethodName := ⟨RX6, "recognised", "(II)I"⟩
abbrev cX6_add : ByteArray := prog_8_method_15_code
def yX6_add : MethodName := ⟨RX6, "add", "(I)V"⟩
abbrev cX6_sum : ByteArray := prog_8_method_16_code
def yX6_sum : MethodName := ⟨RX6, "sum", "()J"⟩
def RX7 : String := "TemperingLineLaw$Node"
def TX7 : u_T := fun k => match k with
  | 0 => ("TemperingLineLaw$Node", "kind", "I", false)
  | 1 => ("TemperingLineLaw$Node", "number", "I", false)
  | 2 => ("TemperingLineLaw$Node", "left", "LTemperingLineLaw$Node;", false)
  | _ => ("TemperingLineLaw$Node", "right", "LTemperingLineLaw$Node;", false)
def tyX7 : Nat → FieldType := fun k => match k with
  | 0 => .int
  | 1 => .int
  | 2 => .object "TemperingLineLaw$Node"
  | _ => .object "TemperingLineLaw$Node"
abbrev wsX70 : List Cond := u_ws RX7 TX7 4
theorem nmX7 : ∀ a, a < 4 → ∀ b, b < 4 → a ≠ b → (TX7 a).2.1 ≠ (TX7 b).2.1 := by decide +kernel
theorem tyX7_ok : ∀ k, k < 4 → parseFieldDescriptor (TX7 k).2.2.1 = some (tyX7 k) := by decide +kernel
abbrev cX7_init : ByteArray := prog_9_method_1_code
def yX7_init : MethodName := ⟨RX7, "<init>", "()V"⟩
abbrev cX7_random : ByteArray := prog_9_method_2_code
def yX7_random : MethodName := ⟨RX7, "random", "(LTemperingLineLaw$Random;I)LTemperingLineLaw$Node;"⟩
abbrev cX7_text : ByteArray := prog_9_method_3_code
def yX7_text : MethodName := ⟨RX7, "text", "(I)Ljava/lang/String;"⟩
abbrev cX7_value : ByteArray := prog_9_method_4_code
def yX7_value : MethodName := ⟨RX7, "value", "([J)J"⟩
def RX8 : String := "TemperingLineLaw$Random"
def TX8 : u_T := fun k => match k with
  | _ => ("TemperingLineLaw$Random", "seed", "I", false)
def tyX8 : Nat → FieldType := fun k => match k with
  | _ => .int
abbrev wsX80 : List Cond := u_ws RX8 TX8 1
theorem nmX8 : ∀ a, a < 1 → ∀ b, b < 1 → a ≠ b → (TX8 a).2.1 ≠ (TX8 b).2.1 := by decide +kernel
theorem tyX8_ok : ∀ k, k < 1 → parseFieldDescriptor (TX8 k).2.2.1 = some (tyX8 k) := by decide +kernel
abbrev cX8_init : ByteArray := prog_10_method_1_code
def yX8_init : MethodName := ⟨RX8, "<init>", "(I)V"⟩
abbrev cX8_below : ByteArray := prog_10_method_2_code
def yX8_below : MethodName := ⟨RX8, "below", "(I)I"⟩
def RX9 : String := "TemperingLineLaw$Sheet"
def TX9 : u_T := fun k => match k with
  | 0 => ("TemperingLineLaw$Sheet", "thickness", "I", false)
  | 1 => ("TemperingLineLaw$Sheet", "heat", "I", false)
  | 2 => ("TemperingLineLaw$Sheet", "state", "I", false)
  | _ => ("TemperingLineLaw$Sheet", "place", "I", false)
def tyX9 : Nat → FieldType := fun k => match k with
  | 0 => .int
  | 1 => .int
  | 2 => .int
  | _ => .int
abbrev wsX90 : List Cond := u_ws RX9 TX9 4
theorem nmX9 : ∀ a, a < 4 → ∀ b, b < 4 → a ≠ b → (TX9 a).2.1 ≠ (TX9 b).2.1 := by decide +kernel
theorem tyX9_ok : ∀ k, k < 4 → parseFieldDescriptor (TX9 k).2.2.1 = some (tyX9 k) := by decide +kernel
abbrev cX9_init : ByteArray := prog_11_method_1_code
def yX9_init : MethodName := ⟨RX9, "<init>", "(I)V"⟩
abbrev cX9_copy : ByteArray := prog_11_method_2_code
def yX9_copy : MethodName := ⟨RX9, "copy", "()LTemperingLineLaw$Sheet;"⟩
def RX10 : String := "TemperingLineModel"
def TX10 : u_T := fun k => match k with
  | _ => ("", "", "", false)
def tyX10 : Nat → FieldType := fun k => match k with
  | _ => .int
theorem nmX10 : ∀ a, a < 0 → ∀ b, b < 0 → a ≠ b → (TX10 a).2.1 ≠ (TX10 b).2.1 := by decide +kernel
theorem tyX10_ok : ∀ k, k < 0 → parseFieldDescriptor (TX10 k).2.2.1 = some (tyX10 k) := by decide +kernel
def RJ5 : String := "java/lang/AbstractStringBuilder"
def TJ5 : u_T := fun k => match k with
  | _ => ("", "", "", false)
def tyJ5 : Nat → FieldType := fun k => match k with
  | _ => .int
abbrev wsJ50 : List Cond := u_ws RJ5 TJ5 0
theorem nmJ5 : ∀ a, a < 0 → ∀ b, b < 0 → a ≠ b → (TJ5 a).2.1 ≠ (TJ5 b).2.1 := by decide +kernel
theorem tyJ5_ok : ∀ k, k < 0 → parseFieldDescriptor (TJ5 k).2.2.1 = some (tyJ5 k) := by decide +kernel
abbrev cJ5_init_d00df : ByteArray := prog_13_method_2_code
def yJ5_init_d00df : MethodName := ⟨RJ5, "<init>", "(I)V"⟩
abbrev cJ5_length_8abf5 : ByteArray := prog_13_method_6_code
def yJ5_length_8abf5 : MethodName := ⟨RJ5, "length", "()I"⟩
abbrev cJ5_ensureCapacityInternal_d00df : ByteArray := prog_13_method_9_code
def yJ5_ensureCapacityInternal_d00df : MethodName := ⟨RJ5, "ensureCapacityInternal", "(I)V"⟩
abbrev cJ5_newCapacity_0f7a4 : ByteArray := prog_13_method_10_code
def yJ5_newCapacity_0f7a4 : MethodName := ⟨RJ5, "newCapacity", "(I)I"⟩
abbrev cJ5_inflate_da8c8 : ByteArray := prog_13_method_11_code
def yJ5_inflate_da8c8 : MethodName := ⟨RJ5, "inflate", "()V"⟩
abbrev cJ5_append_cf1ce : ByteArray := prog_13_method_22_code
def yJ5_append_cf1ce : MethodName := ⟨RJ5, "append", "(Ljava/lang/String;)Ljava/lang/AbstractStringBuilder;"⟩
abbrev cJ5_appendNull_278bc : ByteArray := prog_13_method_26_code
def yJ5_appendNull_278bc : MethodName := ⟨RJ5, "appendNull", "()Ljava/lang/AbstractStringBuilder;"⟩
abbrev cJ5_append_c97b9 : ByteArray := prog_13_method_32_code
def yJ5_append_c97b9 : MethodName := ⟨RJ5, "append", "(I)Ljava/lang/AbstractStringBuilder;"⟩
abbrev cJ5_getValue_6d5f1 : ByteArray := prog_13_method_64_code
def yJ5_getValue_6d5f1 : MethodName := ⟨RJ5, "getValue", "()[B"⟩
abbrev cJ5_isLatin1_aae02 : ByteArray := prog_13_method_68_code
def yJ5_isLatin1_aae02 : MethodName := ⟨RJ5, "isLatin1", "()Z"⟩
abbrev cJ5_inflateIfNeededFor_a7421 : ByteArray := prog_13_method_71_code
def yJ5_inflateIfNeededFor_a7421 : MethodName := ⟨RJ5, "inflateIfNeededFor", "(Ljava/lang/String;)V"⟩
abbrev cJ5_putStringAt_47b60 : ByteArray := prog_13_method_73_code
def yJ5_putStringAt_47b60 : MethodName := ⟨RJ5, "putStringAt", "(ILjava/lang/String;)V"⟩
def RJ6 : String := "java/lang/Integer"
def TJ6 : u_T := fun k => match k with
  | _ => ("", "", "", false)
def tyJ6 : Nat → FieldType := fun k => match k with
  | _ => .int
abbrev wsJ60 : List Cond := u_ws RJ6 TJ6 0
theorem nmJ6 : ∀ a, a < 0 → ∀ b, b < 0 → a ≠ b → (TJ6 a).2.1 ≠ (TJ6 b).2.1 := by decide +kernel
theorem tyJ6_ok : ∀ k, k < 0 → parseFieldDescriptor (TJ6 k).2.2.1 = some (tyJ6 k) := by decide +kernel
abbrev cJ6_getChars_ba4f3 : ByteArray := prog_19_method_12_code
def yJ6_getChars_ba4f3 : MethodName := ⟨RJ6, "getChars", "(II[B)I"⟩
abbrev cJ6_stringSize_0f7a4 : ByteArray := prog_19_method_13_code
def yJ6_stringSize_0f7a4 : MethodName := ⟨RJ6, "stringSize", "(I)I"⟩
def RJ9 : String := "java/lang/Math"
def TJ9 : u_T := fun k => match k with
  | _ => ("", "", "", false)
def tyJ9 : Nat → FieldType := fun k => match k with
  | _ => .int
abbrev wsJ90 : List Cond := u_ws RJ9 TJ9 0
theorem nmJ9 : ∀ a, a < 0 → ∀ b, b < 0 → a ≠ b → (TJ9 a).2.1 ≠ (TJ9 b).2.1 := by decide +kernel
theorem tyJ9_ok : ∀ k, k < 0 → parseFieldDescriptor (TJ9 k).2.2.1 = some (tyJ9 k) := by decide +kernel
abbrev cJ9_max_7cf53 : ByteArray := prog_20_method_65_code
def yJ9_max_7cf53 : MethodName := ⟨RJ9, "max", "(II)I"⟩
abbrev cJ9_max_f86c9 : ByteArray := prog_20_method_66_code
def yJ9_max_f86c9 : MethodName := ⟨RJ9, "max", "(JJ)J"⟩
abbrev cJ9_min_7cf53 : ByteArray := prog_20_method_69_code
def yJ9_min_7cf53 : MethodName := ⟨RJ9, "min", "(II)I"⟩
abbrev cJ9_min_f86c9 : ByteArray := prog_20_method_70_code
def yJ9_min_f86c9 : MethodName := ⟨RJ9, "min", "(JJ)J"⟩
def RJ0 : String := "java/lang/String"
def TJ0 : u_T := fun k => match k with
  | 0 => ("java/lang/String", "value", "[B", true)
  | 1 => ("java/lang/String", "coder", "B", true)
  | 2 => ("java/lang/String", "hash", "I", false)
  | _ => ("java/lang/String", "hashIsZero", "Z", false)
def tyJ0 : Nat → FieldType := fun k => match k with
  | 0 => .array .byte
  | 1 => .byte
  | 2 => .int
  | _ => .boolean
abbrev wsJ00 : List Cond := u_ws RJ0 TJ0 4
theorem nmJ0 : ∀ a, a < 4 → ∀ b, b < 4 → a ≠ b → (TJ0 a).2.1 ≠ (TJ0 b).2.1 := by decide +kernel
theorem tyJ0_ok : ∀ k, k < 4 → parseFieldDescriptor (TJ0 k).2.2.1 = some (tyJ0 k) := by decide +kernel
abbrev cJ0_init_81219 : ByteArray := prog_22_method_53_code
def yJ0_init_81219 : MethodName := ⟨RJ0, "<init>", "(Ljava/lang/StringBuilder;)V"⟩
abbrev cJ0_length_8abf5 : ByteArray := prog_22_method_54_code
def yJ0_length_8abf5 : MethodName := ⟨RJ0, "length", "()I"⟩
abbrev cJ0_charAt_5068e : ByteArray := prog_22_method_56_code
def yJ0_charAt_5068e : MethodName := ⟨RJ0, "charAt", "(I)C"⟩
abbrev cJ0_getBytes_840e7 : ByteArray := prog_22_method_147_code
def yJ0_getBytes_840e7 : MethodName := ⟨RJ0, "getBytes", "([BIB)V"⟩
abbrev cJ0_init_db425 : ByteArray := prog_22_method_150_code
def yJ0_init_db425 : MethodName := ⟨RJ0, "<init>", "(Ljava/lang/AbstractStringBuilder;Ljava/lang/Void;)V"⟩
abbrev cJ0_coder_7d493 : ByteArray := prog_22_method_152_code
def yJ0_coder_7d493 : MethodName := ⟨RJ0, "coder", "()B"⟩
abbrev cJ0_isLatin1_aae02 : ByteArray := prog_22_method_154_code
def yJ0_isLatin1_aae02 : MethodName := ⟨RJ0, "isLatin1", "()Z"⟩
abbrev cJ0_checkIndex_df160 : ByteArray := prog_22_method_155_code
def yJ0_checkIndex_df160 : MethodName := ⟨RJ0, "checkIndex", "(II)V"⟩
abbrev cJ0_checkBoundsOffCount_cabcc : ByteArray := prog_22_method_157_code
def yJ0_checkBoundsOffCount_cabcc : MethodName := ⟨RJ0, "checkBoundsOffCount", "(III)I"⟩
abbrev cJ0_checkBoundsBeginEnd_23922 : ByteArray := prog_22_method_158_code
def yJ0_checkBoundsBeginEnd_23922 : MethodName := ⟨RJ0, "checkBoundsBeginEnd", "(III)V"⟩
def RJ4 : String := "java/lang/StringBuilder"
def TJ4 : u_T := fun k => match k with
  | 0 => ("java/lang/AbstractStringBuilder", "value", "[B", false)
  | 1 => ("java/lang/AbstractStringBuilder", "coder", "B", false)
  | 2 => ("java/lang/AbstractStringBuilder", "maybeLatin1", "Z", false)
  | _ => ("java/lang/AbstractStringBuilder", "count", "I", false)
def tyJ4 : Nat → FieldType := fun k => match k with
  | 0 => .array .byte
  | 1 => .byte
  | 2 => .boolean
  | _ => .int
abbrev wsJ40 : List Cond := u_ws RJ4 TJ4 4
theorem nmJ4 : ∀ a, a < 4 → ∀ b, b < 4 → a ≠ b → (TJ4 a).2.1 ≠ (TJ4 b).2.1 := by decide +kernel
theorem tyJ4_ok : ∀ k, k < 4 → parseFieldDescriptor (TJ4 k).2.2.1 = some (tyJ4 k) := by decide +kernel
abbrev cJ4_init_da8c8 : ByteArray := prog_23_method_1_code
def yJ4_init_da8c8 : MethodName := ⟨RJ4, "<init>", "()V"⟩
abbrev cJ4_append_15ec4 : ByteArray := prog_23_method_7_code
def yJ4_append_15ec4 : MethodName := ⟨RJ4, "append", "(Ljava/lang/String;)Ljava/lang/StringBuilder;"⟩
abbrev cJ4_append_bf812 : ByteArray := prog_23_method_15_code
def yJ4_append_bf812 : MethodName := ⟨RJ4, "append", "(I)Ljava/lang/StringBuilder;"⟩
abbrev cJ4_toString_0e30d : ByteArray := prog_23_method_42_code
def yJ4_toString_0e30d : MethodName := ⟨RJ4, "toString", "()Ljava/lang/String;"⟩
abbrev cJ4_length_8abf5 : ByteArray := prog_23_method_93_code
def yJ4_length_8abf5 : MethodName := ⟨RJ4, "length", "()I"⟩
def RJ1 : String := "java/lang/StringLatin1"
def TJ1 : u_T := fun k => match k with
  | _ => ("", "", "", false)
def tyJ1 : Nat → FieldType := fun k => match k with
  | _ => .int
abbrev wsJ10 : List Cond := u_ws RJ1 TJ1 0
theorem nmJ1 : ∀ a, a < 0 → ∀ b, b < 0 → a ≠ b → (TJ1 a).2.1 ≠ (TJ1 b).2.1 := by decide +kernel
theorem tyJ1_ok : ∀ k, k < 0 → parseFieldDescriptor (TJ1 k).2.2.1 = some (tyJ1 k) := by decide +kernel
abbrev cJ1_charAt_3b067 : ByteArray := prog_24_method_2_code
def yJ1_charAt_3b067 : MethodName := ⟨RJ1, "charAt", "([BI)C"⟩
abbrev cJ1_inflate_0e8fd : ByteArray := prog_24_method_50_code
def yJ1_inflate_0e8fd : MethodName := ⟨RJ1, "inflate", "([BI[BII)V"⟩
def RJ2 : String := "java/lang/StringUTF16"
def TJ2 : u_T := fun k => match k with
  | _ => ("", "", "", false)
def tyJ2 : Nat → FieldType := fun k => match k with
  | _ => .int
abbrev wsJ20 : List Cond := u_ws RJ2 TJ2 0
theorem nmJ2 : ∀ a, a < 0 → ∀ b, b < 0 → a ≠ b → (TJ2 a).2.1 ≠ (TJ2 b).2.1 := by decide +kernel
theorem tyJ2_ok : ∀ k, k < 0 → parseFieldDescriptor (TJ2 k).2.2.1 = some (tyJ2 k) := by decide +kernel
abbrev cJ2_newBytesFor_77867 : ByteArray := prog_25_method_2_code
def yJ2_newBytesFor_77867 : MethodName := ⟨RJ2, "newBytesFor", "(I)[B"⟩
abbrev cJ2_newBytesLength_0f7a4 : ByteArray := prog_25_method_3_code
def yJ2_newBytesLength_0f7a4 : MethodName := ⟨RJ2, "newBytesLength", "(I)I"⟩
abbrev cJ2_putChar_b72d1 : ByteArray := prog_25_method_4_code
def yJ2_putChar_b72d1 : MethodName := ⟨RJ2, "putChar", "([BII)V"⟩
abbrev cJ2_getChar_3b067 : ByteArray := prog_25_method_5_code
def yJ2_getChar_3b067 : MethodName := ⟨RJ2, "getChar", "([BI)C"⟩
abbrev cJ2_length_9d52b : ByteArray := prog_25_method_6_code
def yJ2_length_9d52b : MethodName := ⟨RJ2, "length", "([B)I"⟩
abbrev cJ2_coderFromArrayLen_85cad : ByteArray := prog_25_method_15_code
def yJ2_coderFromArrayLen_85cad : MethodName := ⟨RJ2, "coderFromArrayLen", "([BI)B"⟩
abbrev cJ2_compress_39247 : ByteArray := prog_25_method_17_code
def yJ2_compress_39247 : MethodName := ⟨RJ2, "compress", "([BII)[B"⟩
abbrev cJ2_compress_5af95 : ByteArray := prog_25_method_22_code
def yJ2_compress_5af95 : MethodName := ⟨RJ2, "compress", "([BI[BII)I"⟩
abbrev cJ2_getChars_46870 : ByteArray := prog_25_method_77_code
def yJ2_getChars_46870 : MethodName := ⟨RJ2, "getChars", "(III[B)I"⟩
abbrev cJ2_putCharsAt_cd4e5 : ByteArray := prog_25_method_81_code
def yJ2_putCharsAt_cd4e5 : MethodName := ⟨RJ2, "putCharsAt", "([BICCCC)I"⟩
abbrev cJ2_charAt_3b067 : ByteArray := prog_25_method_83_code
def yJ2_charAt_3b067 : MethodName := ⟨RJ2, "charAt", "([BI)C"⟩
abbrev cJ2_inflate_0e8fd : ByteArray := prog_25_method_86_code
def yJ2_inflate_0e8fd : MethodName := ⟨RJ2, "inflate", "([BI[BII)V"⟩
abbrev cJ2_getChars_ba4f3 : ByteArray := prog_25_method_89_code
def yJ2_getChars_ba4f3 : MethodName := ⟨RJ2, "getChars", "(II[B)I"⟩
abbrev cJ2_checkIndex_2214a : ByteArray := prog_25_method_91_code
def yJ2_checkIndex_2214a : MethodName := ⟨RJ2, "checkIndex", "(I[B)V"⟩
abbrev cJ2_checkBoundsBeginEnd_d044e : ByteArray := prog_25_method_93_code
def yJ2_checkBoundsBeginEnd_d044e : MethodName := ⟨RJ2, "checkBoundsBeginEnd", "(II[B)V"⟩
abbrev cJ2_checkBoundsOffCount_d044e : ByteArray := prog_25_method_94_code
def yJ2_checkBoundsOffCount_d044e : MethodName := ⟨RJ2, "checkBoundsOffCount", "(II[B)V"⟩
def RJ10 : String := "java/lang/System"
def TJ10 : u_T := fun k => match k with
  | _ => ("", "", "", false)
def tyJ10 : Nat → FieldType := fun k => match k with
  | _ => .int
theorem nmJ10 : ∀ a, a < 0 → ∀ b, b < 0 → a ≠ b → (TJ10 a).2.1 ≠ (TJ10 b).2.1 := by decide +kernel
theorem tyJ10_ok : ∀ k, k < 0 → parseFieldDescriptor (TJ10 k).2.2.1 = some (tyJ10 k) := by decide +kernel
def RJ7 : String := "java/util/Arrays"
def TJ7 : u_T := fun k => match k with
  | _ => ("", "", "", false)
def tyJ7 : Nat → FieldType := fun k => match k with
  | _ => .int
abbrev wsJ70 : List Cond := u_ws RJ7 TJ7 0
theorem nmJ7 : ∀ a, a < 0 → ∀ b, b < 0 → a ≠ b → (TJ7 a).2.1 ≠ (TJ7 b).2.1 := by decide +kernel
theorem tyJ7_ok : ∀ k, k < 0 → parseFieldDescriptor (TJ7 k).2.2.1 = some (tyJ7 k) := by decide +kernel
abbrev cJ7_copyOf_9075b : ByteArray := prog_28_method_121_code
def yJ7_copyOf_9075b : MethodName := ⟨RJ7, "copyOf", "([BI)[B"⟩
abbrev cJ7_checkLength_df160 : ByteArray := prog_28_method_131_code
def yJ7_checkLength_df160 : MethodName := ⟨RJ7, "checkLength", "(II)V"⟩
abbrev cJ7_copyOfRange_39247 : ByteArray := prog_28_method_132_code
def yJ7_copyOfRange_39247 : MethodName := ⟨RJ7, "copyOfRange", "([BII)[B"⟩
abbrev cJ7_copyOfRangeByte_39247 : ByteArray := prog_28_method_133_code
def yJ7_copyOfRangeByte_39247 : MethodName := ⟨RJ7, "copyOfRangeByte", "([BII)[B"⟩
def RJ8 : String := "jdk/internal/util/ArraysSupport"
def TJ8 : u_T := fun k => match k with
  | _ => ("", "", "", false)
def tyJ8 : Nat → FieldType := fun k => match k with
  | _ => .int
abbrev wsJ80 : List Cond := u_ws RJ8 TJ8 0
theorem nmJ8 : ∀ a, a < 0 → ∀ b, b < 0 → a ≠ b → (TJ8 a).2.1 ≠ (TJ8 b).2.1 := by decide +kernel
theorem tyJ8_ok : ∀ k, k < 0 → parseFieldDescriptor (TJ8 k).2.2.1 = some (tyJ8 k) := by decide +kernel
abbrev cJ8_newLength_cabcc : ByteArray := prog_29_method_27_code
def yJ8_newLength_cabcc : MethodName := ⟨RJ8, "newLength", "(III)I"⟩
abbrev cJ8_hugeLength_7cf53 : ByteArray := prog_29_method_28_code
def yJ8_hugeLength_7cf53 : MethodName := ⟨RJ8, "hugeLength", "(II)I"⟩
def RJ3 : String := "jdk/internal/util/Preconditions"
def TJ3 : u_T := fun k => match k with
  | _ => ("", "", "", false)
def tyJ3 : Nat → FieldType := fun k => match k with
  | _ => .int
abbrev wsJ30 : List Cond := u_ws RJ3 TJ3 0
theorem nmJ3 : ∀ a, a < 0 → ∀ b, b < 0 → a ≠ b → (TJ3 a).2.1 ≠ (TJ3 b).2.1 := by decide +kernel
theorem tyJ3_ok : ∀ k, k < 0 → parseFieldDescriptor (TJ3 k).2.2.1 = some (tyJ3 k) := by decide +kernel
abbrev cJ3_checkIndex_8e157 : ByteArray := prog_30_method_11_code
def yJ3_checkIndex_8e157 : MethodName := ⟨RJ3, "checkIndex", "(IILjava/util/function/BiFunction;)I"⟩
abbrev cJ3_checkFromToIndex_8c36e : ByteArray := prog_30_method_12_code
def yJ3_checkFromToIndex_8c36e : MethodName := ⟨RJ3, "checkFromToIndex", "(IIILjava/util/function/BiFunction;)I"⟩
abbrev cJ3_checkFromIndexSize_8c36e : ByteArray := prog_30_method_13_code
def yJ3_checkFromIndexSize_8c36e : MethodName := ⟨RJ3, "checkFromIndexSize", "(IIILjava/util/function/BiFunction;)I"⟩
def RL : String := "TemperingLineLaw"
abbrev cL_put : ByteArray := method_2_code
def yL_put : MethodName := ⟨RL, "put", "(LTemperingLine;[II)V"⟩
abbrev cL_flush : ByteArray := method_3_code
def yL_flush : MethodName := ⟨RL, "flush", "(LTemperingLine;[I)V"⟩
abbrev cL_loadText : ByteArray := method_4_code
def yL_loadText : MethodName := ⟨RL, "loadText", "(LTemperingLine;[I)I"⟩
abbrev cL_write : ByteArray := method_5_code
def yL_write : MethodName := ⟨RL, "write", "(LTemperingLine;[ILjava/lang/String;)V"⟩
abbrev cL_writeNumber : ByteArray := method_6_code
def yL_writeNumber : MethodName := ⟨RL, "writeNumber", "(LTemperingLine;[II)V"⟩
abbrev cL_load : ByteArray := method_7_code
def yL_load : MethodName := ⟨RL, "load", "(LTemperingLine;I)I"⟩
abbrev cL_zone : ByteArray := method_8_code
def yL_zone : MethodName := ⟨RL, "zone", "(LTemperingLine;II)I"⟩
abbrev cL_thickness : ByteArray := method_9_code
def yL_thickness : MethodName := ⟨RL, "thickness", "(LTemperingLine;I)I"⟩
abbrev cL_temperature : ByteArray := method_10_code
def yL_temperature : MethodName := ⟨RL, "temperature", "(LTemperingLine;I)I"⟩
abbrev cL_state : ByteArray := method_11_code
def yL_state : MethodName := ⟨RL, "state", "(LTemperingLine;I)I"⟩
abbrev cL_count : ByteArray := method_12_code
def yL_count : MethodName := ⟨RL, "count", "(LTemperingLine;I)I"⟩
abbrev cL_learned : ByteArray := method_13_code
def yL_learned : MethodName := ⟨RL, "learned", "(LTemperingLine;II)I"⟩
abbrev cL_guard : ByteArray := method_16_code
def yL_guard : MethodName := ⟨RL, "guard", "(LTemperingLine;I)I"⟩
abbrev cL_finishTime : ByteArray := method_17_code
def yL_finishTime : MethodName := ⟨RL, "finishTime", "(LTemperingLine;I)I"⟩
abbrev cL_stateAfter : ByteArray := method_18_code
def yL_stateAfter : MethodName := ⟨RL, "stateAfter", "(LTemperingLine;II)I"⟩
abbrev cL_add : ByteArray := method_19_code
def yL_add : MethodName := ⟨RL, "add", "(LTemperingLine;II)I"⟩
abbrev cL_run : ByteArray := method_20_code
def yL_run : MethodName := ⟨RL, "run", "(LTemperingLine;I)I"⟩
abbrev cL_setPoint : ByteArray := method_21_code
def yL_setPoint : MethodName := ⟨RL, "setPoint", "(LTemperingLine;II)I"⟩
abbrev cL_setCorrection : ByteArray := method_22_code
def yL_setCorrection : MethodName := ⟨RL, "setCorrection", "(LTemperingLine;II)I"⟩
abbrev cL_scrap : ByteArray := method_23_code
def yL_scrap : MethodName := ⟨RL, "scrap", "(LTemperingLine;I)I"⟩
abbrev cL_with : ByteArray := method_24_code
def yL_with : MethodName := ⟨RL, "with", "([[I[I)[[I"⟩
abbrev cL_writeNumbers : ByteArray := method_25_code
def yL_writeNumbers : MethodName := ⟨RL, "writeNumbers", "(LTemperingLine;[ILjava/lang/String;[I)V"⟩
abbrev cL_randomLine : ByteArray := method_26_code
def yL_randomLine : MethodName := ⟨RL, "randomLine", "(LTemperingLine;[ILTemperingLineLaw$Random;)LTemperingLineLaw$Line;"⟩
abbrev cL_agrees : ByteArray := method_27_code
def yL_agrees : MethodName := ⟨RL, "agrees", "(LTemperingLine;LTemperingLineLaw$Line;)Z"⟩
abbrev cL_law : ByteArray := code
def yL_law : MethodName := ⟨RL, "law", "([I)Z"⟩
