-- ===== PART A: goes FIRST, ahead of the names: the tables' words, and 'selects' of the private methods out of them =====
/-- a private method of a class that the tables say can be made, by its rows of tables_1 -/
def lw_okq (q : MethodName × Nat) : Prop := (q.1.cls ≠ "java/lang/invoke/MethodHandle" ∧ q.1.cls ≠ "java/lang/invoke/VarHandle") ∧ Cond.instantiable q.1.cls q.2 ∈ tables_1 ∧ Cond.privateMethod q.1 ∈ tables_1 ∧ Cond.instanceMethod q.1 ∈ tables_1
theorem lw_p0 : lw_okq (⟨"TemperingLine$SetupReader", "putWord", "(I)V"⟩, 13) := ⟨⟨by decide +kernel, by decide +kernel⟩, List.mem_of_getElem? (i := 115) (by decide +kernel), List.mem_of_getElem? (i := 271) (by decide +kernel), List.mem_of_getElem? (i := 272) (by decide +kernel)⟩
theorem lw_p1 : lw_okq (⟨"TemperingLine$Line", "exists", "()Z"⟩, 15) := ⟨⟨by decide +kernel, by decide +kernel⟩, List.mem_of_getElem? (i := 168) (by decide +kernel), List.mem_of_getElem? (i := 303) (by decide +kernel), List.mem_of_getElem? (i := 304) (by decide +kernel)⟩
theorem lw_p2 : lw_okq (⟨"TemperingLine", "doneWith", "(I)I"⟩, 4) := ⟨⟨by decide +kernel, by decide +kernel⟩, List.mem_of_getElem? (i := 21) (by decide +kernel), List.mem_of_getElem? (i := 307) (by decide +kernel), List.mem_of_getElem? (i := 308) (by decide +kernel)⟩
theorem lw_p3 : lw_okq (⟨"TemperingLine$Line", "copyFrom", "(LTemperingLine$Line;)V"⟩, 15) := ⟨⟨by decide +kernel, by decide +kernel⟩, List.mem_of_getElem? (i := 168) (by decide +kernel), List.mem_of_getElem? (i := 311) (by decide +kernel), List.mem_of_getElem? (i := 312) (by decide +kernel)⟩
theorem lw_p4 : lw_okq (⟨"TemperingLine$Line", "ticksToFinish", "(I)I"⟩, 15) := ⟨⟨by decide +kernel, by decide +kernel⟩, List.mem_of_getElem? (i := 168) (by decide +kernel), List.mem_of_getElem? (i := 316) (by decide +kernel), List.mem_of_getElem? (i := 317) (by decide +kernel)⟩
theorem lw_p5 : lw_okq (⟨"TemperingLine$Line", "isFinished", "()Z"⟩, 15) := ⟨⟨by decide +kernel, by decide +kernel⟩, List.mem_of_getElem? (i := 168) (by decide +kernel), List.mem_of_getElem? (i := 320) (by decide +kernel), List.mem_of_getElem? (i := 321) (by decide +kernel)⟩
theorem lw_p6 : lw_okq (⟨"TemperingLine$Line", "tick", "()V"⟩, 15) := ⟨⟨by decide +kernel, by decide +kernel⟩, List.mem_of_getElem? (i := 168) (by decide +kernel), List.mem_of_getElem? (i := 324) (by decide +kernel), List.mem_of_getElem? (i := 325) (by decide +kernel)⟩
theorem lw_p7 : lw_okq (⟨"TemperingLine$Line", "heatZones", "()V"⟩, 15) := ⟨⟨by decide +kernel, by decide +kernel⟩, List.mem_of_getElem? (i := 168) (by decide +kernel), List.mem_of_getElem? (i := 328) (by decide +kernel), List.mem_of_getElem? (i := 329) (by decide +kernel)⟩
theorem lw_p8 : lw_okq (⟨"TemperingLine$Line", "heatSheetIn", "(I)V"⟩, 15) := ⟨⟨by decide +kernel, by decide +kernel⟩, List.mem_of_getElem? (i := 168) (by decide +kernel), List.mem_of_getElem? (i := 335) (by decide +kernel), List.mem_of_getElem? (i := 336) (by decide +kernel)⟩
theorem lw_p9 : lw_okq (⟨"TemperingLine$Line", "isSheet", "(I)Z"⟩, 15) := ⟨⟨by decide +kernel, by decide +kernel⟩, List.mem_of_getElem? (i := 168) (by decide +kernel), List.mem_of_getElem? (i := 339) (by decide +kernel), List.mem_of_getElem? (i := 340) (by decide +kernel)⟩
theorem lw_p10 : lw_okq (⟨"TemperingLine$Heat", "valueFor", "(III)I"⟩, 2) := ⟨⟨by decide +kernel, by decide +kernel⟩, List.mem_of_getElem? (i := 35) (by decide +kernel), List.mem_of_getElem? (i := 343) (by decide +kernel), List.mem_of_getElem? (i := 344) (by decide +kernel)⟩
theorem lw_p11 : lw_okq (⟨"TemperingLine$Line", "quench", "()I"⟩, 15) := ⟨⟨by decide +kernel, by decide +kernel⟩, List.mem_of_getElem? (i := 168) (by decide +kernel), List.mem_of_getElem? (i := 358) (by decide +kernel), List.mem_of_getElem? (i := 359) (by decide +kernel)⟩
theorem lw_p12 : lw_okq (⟨"TemperingLine$Line", "judge", "(I)V"⟩, 15) := ⟨⟨by decide +kernel, by decide +kernel⟩, List.mem_of_getElem? (i := 168) (by decide +kernel), List.mem_of_getElem? (i := 362) (by decide +kernel), List.mem_of_getElem? (i := 363) (by decide +kernel)⟩
theorem lw_p13 : lw_okq (⟨"TemperingLine$Line", "learn", "(II)V"⟩, 15) := ⟨⟨by decide +kernel, by decide +kernel⟩, List.mem_of_getElem? (i := 168) (by decide +kernel), List.mem_of_getElem? (i := 372) (by decide +kernel), List.mem_of_getElem? (i := 373) (by decide +kernel)⟩
theorem lw_p14 : lw_okq (⟨"TemperingLine$Line", "moveSheetFrom", "(I)V"⟩, 15) := ⟨⟨by decide +kernel, by decide +kernel⟩, List.mem_of_getElem? (i := 168) (by decide +kernel), List.mem_of_getElem? (i := 376) (by decide +kernel), List.mem_of_getElem? (i := 377) (by decide +kernel)⟩
theorem lw_p15 : lw_okq (⟨"TemperingLine$Line", "correctionFor", "(I)I"⟩, 15) := ⟨⟨by decide +kernel, by decide +kernel⟩, List.mem_of_getElem? (i := 168) (by decide +kernel), List.mem_of_getElem? (i := 380) (by decide +kernel), List.mem_of_getElem? (i := 381) (by decide +kernel)⟩
def lw_privs_1 : List (MethodName × Nat) := [(⟨"TemperingLine$SetupReader", "putWord", "(I)V"⟩, 13), (⟨"TemperingLine$Line", "exists", "()Z"⟩, 15), (⟨"TemperingLine", "doneWith", "(I)I"⟩, 4), (⟨"TemperingLine$Line", "copyFrom", "(LTemperingLine$Line;)V"⟩, 15), (⟨"TemperingLine$Line", "ticksToFinish", "(I)I"⟩, 15), (⟨"TemperingLine$Line", "isFinished", "()Z"⟩, 15), (⟨"TemperingLine$Line", "tick", "()V"⟩, 15), (⟨"TemperingLine$Line", "heatZones", "()V"⟩, 15), (⟨"TemperingLine$Line", "heatSheetIn", "(I)V"⟩, 15), (⟨"TemperingLine$Line", "isSheet", "(I)Z"⟩, 15), (⟨"TemperingLine$Heat", "valueFor", "(III)I"⟩, 2), (⟨"TemperingLine$Line", "quench", "()I"⟩, 15), (⟨"TemperingLine$Line", "judge", "(I)V"⟩, 15), (⟨"TemperingLine$Line", "learn", "(II)V"⟩, 15), (⟨"TemperingLine$Line", "moveSheetFrom", "(I)V"⟩, 15), (⟨"TemperingLine$Line", "correctionFor", "(I)I"⟩, 15)]
theorem lw_r1 : ∀ q ∈ lw_privs_1, lw_okq q := List.forall_mem_cons.mpr ⟨lw_p0, List.forall_mem_cons.mpr ⟨lw_p1, List.forall_mem_cons.mpr ⟨lw_p2, List.forall_mem_cons.mpr ⟨lw_p3, List.forall_mem_cons.mpr ⟨lw_p4, List.forall_mem_cons.mpr ⟨lw_p5, List.forall_mem_cons.mpr ⟨lw_p6, List.forall_mem_cons.mpr ⟨lw_p7, List.forall_mem_cons.mpr ⟨lw_p8, List.forall_mem_cons.mpr ⟨lw_p9, List.forall_mem_cons.mpr ⟨lw_p10, List.forall_mem_cons.mpr ⟨lw_p11, List.forall_mem_cons.mpr ⟨lw_p12, List.forall_mem_cons.mpr ⟨lw_p13, List.forall_mem_cons.mpr ⟨lw_p14, List.forall_mem_cons.mpr ⟨lw_p15, fun _ h => absurd h List.not_mem_nil⟩⟩⟩⟩⟩⟩⟩⟩⟩⟩⟩⟩⟩⟩⟩⟩
theorem lw_p16 : lw_okq (⟨"TemperingLine$Line", "spoil", "(I)V"⟩, 15) := ⟨⟨by decide +kernel, by decide +kernel⟩, List.mem_of_getElem? (i := 168) (by decide +kernel), List.mem_of_getElem? (i := 384) (by decide +kernel), List.mem_of_getElem? (i := 385) (by decide +kernel)⟩
theorem lw_p17 : lw_okq (⟨"TemperingLine$Line", "moveToQuench", "(II)V"⟩, 15) := ⟨⟨by decide +kernel, by decide +kernel⟩, List.mem_of_getElem? (i := 168) (by decide +kernel), List.mem_of_getElem? (i := 388) (by decide +kernel), List.mem_of_getElem? (i := 389) (by decide +kernel)⟩
theorem lw_p18 : lw_okq (⟨"TemperingLine$Line", "moveToNext", "(II)V"⟩, 15) := ⟨⟨by decide +kernel, by decide +kernel⟩, List.mem_of_getElem? (i := 168) (by decide +kernel), List.mem_of_getElem? (i := 392) (by decide +kernel), List.mem_of_getElem? (i := 393) (by decide +kernel)⟩
theorem lw_p19 : lw_okq (⟨"TemperingLine$Line", "fillFirstZone", "()V"⟩, 15) := ⟨⟨by decide +kernel, by decide +kernel⟩, List.mem_of_getElem? (i := 168) (by decide +kernel), List.mem_of_getElem? (i := 396) (by decide +kernel), List.mem_of_getElem? (i := 397) (by decide +kernel)⟩
theorem lw_p20 : lw_okq (⟨"TemperingLine$Line", "sheetsIn", "(I)I"⟩, 15) := ⟨⟨by decide +kernel, by decide +kernel⟩, List.mem_of_getElem? (i := 168) (by decide +kernel), List.mem_of_getElem? (i := 401) (by decide +kernel), List.mem_of_getElem? (i := 402) (by decide +kernel)⟩
theorem lw_p21 : lw_okq (⟨"TemperingLine$History", "restoreLatest", "(LTemperingLine$Line;)I"⟩, 3) := ⟨⟨by decide +kernel, by decide +kernel⟩, List.mem_of_getElem? (i := 235) (by decide +kernel), List.mem_of_getElem? (i := 409) (by decide +kernel), List.mem_of_getElem? (i := 410) (by decide +kernel)⟩
theorem lw_p22 : lw_okq (⟨"TemperingLine$Line", "digest", "()J"⟩, 15) := ⟨⟨by decide +kernel, by decide +kernel⟩, List.mem_of_getElem? (i := 168) (by decide +kernel), List.mem_of_getElem? (i := 418) (by decide +kernel), List.mem_of_getElem? (i := 419) (by decide +kernel)⟩
theorem lw_p23 : lw_okq (⟨"java/lang/Throwable", "fillInStackTrace", "(I)Ljava/lang/Throwable;"⟩, 6) := ⟨⟨by decide +kernel, by decide +kernel⟩, List.mem_of_getElem? (i := 472) (by decide +kernel), List.mem_of_getElem? (i := 470) (by decide +kernel), List.mem_of_getElem? (i := 471) (by decide +kernel)⟩
theorem lw_p24 : lw_okq (⟨"TemperingLine$SetupReader", "begin", "(I)V"⟩, 13) := ⟨⟨by decide +kernel, by decide +kernel⟩, List.mem_of_getElem? (i := 115) (by decide +kernel), List.mem_of_getElem? (i := 501) (by decide +kernel), List.mem_of_getElem? (i := 502) (by decide +kernel)⟩
theorem lw_p25 : lw_okq (⟨"TemperingLine$SetupReader", "readToken", "()V"⟩, 13) := ⟨⟨by decide +kernel, by decide +kernel⟩, List.mem_of_getElem? (i := 115) (by decide +kernel), List.mem_of_getElem? (i := 506) (by decide +kernel), List.mem_of_getElem? (i := 507) (by decide +kernel)⟩
theorem lw_p26 : lw_okq (⟨"TemperingLine$SetupReader", "readHeader", "()Z"⟩, 13) := ⟨⟨by decide +kernel, by decide +kernel⟩, List.mem_of_getElem? (i := 115) (by decide +kernel), List.mem_of_getElem? (i := 516) (by decide +kernel), List.mem_of_getElem? (i := 517) (by decide +kernel)⟩
theorem lw_p27 : lw_okq (⟨"TemperingLine$SetupReader", "wordIs", "(Ljava/lang/String;)Z"⟩, 13) := ⟨⟨by decide +kernel, by decide +kernel⟩, List.mem_of_getElem? (i := 115) (by decide +kernel), List.mem_of_getElem? (i := 521) (by decide +kernel), List.mem_of_getElem? (i := 522) (by decide +kernel)⟩
theorem lw_p28 : lw_okq (⟨"TemperingLine$SetupReader", "fail", "(I)Z"⟩, 13) := ⟨⟨by decide +kernel, by decide +kernel⟩, List.mem_of_getElem? (i := 115) (by decide +kernel), List.mem_of_getElem? (i := 573) (by decide +kernel), List.mem_of_getElem? (i := 574) (by decide +kernel)⟩
theorem lw_p29 : lw_okq (⟨"TemperingLine$SetupReader", "takeNumber", "(II)Z"⟩, 13) := ⟨⟨by decide +kernel, by decide +kernel⟩, List.mem_of_getElem? (i := 115) (by decide +kernel), List.mem_of_getElem? (i := 577) (by decide +kernel), List.mem_of_getElem? (i := 578) (by decide +kernel)⟩
theorem lw_p30 : lw_okq (⟨"TemperingLine$SetupReader", "takeSign", "(C)Z"⟩, 13) := ⟨⟨by decide +kernel, by decide +kernel⟩, List.mem_of_getElem? (i := 115) (by decide +kernel), List.mem_of_getElem? (i := 584) (by decide +kernel), List.mem_of_getElem? (i := 585) (by decide +kernel)⟩
theorem lw_p31 : lw_okq (⟨"TemperingLine$SetupReader", "signIs", "(C)Z"⟩, 13) := ⟨⟨by decide +kernel, by decide +kernel⟩, List.mem_of_getElem? (i := 115) (by decide +kernel), List.mem_of_getElem? (i := 588) (by decide +kernel), List.mem_of_getElem? (i := 589) (by decide +kernel)⟩
def lw_privs_2 : List (MethodName × Nat) := [(⟨"TemperingLine$Line", "spoil", "(I)V"⟩, 15), (⟨"TemperingLine$Line", "moveToQuench", "(II)V"⟩, 15), (⟨"TemperingLine$Line", "moveToNext", "(II)V"⟩, 15), (⟨"TemperingLine$Line", "fillFirstZone", "()V"⟩, 15), (⟨"TemperingLine$Line", "sheetsIn", "(I)I"⟩, 15), (⟨"TemperingLine$History", "restoreLatest", "(LTemperingLine$Line;)I"⟩, 3), (⟨"TemperingLine$Line", "digest", "()J"⟩, 15), (⟨"java/lang/Throwable", "fillInStackTrace", "(I)Ljava/lang/Throwable;"⟩, 6), (⟨"TemperingLine$SetupReader", "begin", "(I)V"⟩, 13), (⟨"TemperingLine$SetupReader", "readToken", "()V"⟩, 13), (⟨"TemperingLine$SetupReader", "readHeader", "()Z"⟩, 13), (⟨"TemperingLine$SetupReader", "wordIs", "(Ljava/lang/String;)Z"⟩, 13), (⟨"TemperingLine$SetupReader", "fail", "(I)Z"⟩, 13), (⟨"TemperingLine$SetupReader", "takeNumber", "(II)Z"⟩, 13), (⟨"TemperingLine$SetupReader", "takeSign", "(C)Z"⟩, 13), (⟨"TemperingLine$SetupReader", "signIs", "(C)Z"⟩, 13)]
theorem lw_r2 : ∀ q ∈ lw_privs_2, lw_okq q := List.forall_mem_cons.mpr ⟨lw_p16, List.forall_mem_cons.mpr ⟨lw_p17, List.forall_mem_cons.mpr ⟨lw_p18, List.forall_mem_cons.mpr ⟨lw_p19, List.forall_mem_cons.mpr ⟨lw_p20, List.forall_mem_cons.mpr ⟨lw_p21, List.forall_mem_cons.mpr ⟨lw_p22, List.forall_mem_cons.mpr ⟨lw_p23, List.forall_mem_cons.mpr ⟨lw_p24, List.forall_mem_cons.mpr ⟨lw_p25, List.forall_mem_cons.mpr ⟨lw_p26, List.forall_mem_cons.mpr ⟨lw_p27, List.forall_mem_cons.mpr ⟨lw_p28, List.forall_mem_cons.mpr ⟨lw_p29, List.forall_mem_cons.mpr ⟨lw_p30, List.forall_mem_cons.mpr ⟨lw_p31, fun _ h => absurd h List.not_mem_nil⟩⟩⟩⟩⟩⟩⟩⟩⟩⟩⟩⟩⟩⟩⟩⟩
theorem lw_p32 : lw_okq (⟨"TemperingLine$SetupReader", "readStatements", "()Z"⟩, 13) := ⟨⟨by decide +kernel, by decide +kernel⟩, List.mem_of_getElem? (i := 115) (by decide +kernel), List.mem_of_getElem? (i := 592) (by decide +kernel), List.mem_of_getElem? (i := 593) (by decide +kernel)⟩
theorem lw_p33 : lw_okq (⟨"TemperingLine$SetupReader", "readZone", "()Z"⟩, 13) := ⟨⟨by decide +kernel, by decide +kernel⟩, List.mem_of_getElem? (i := 115) (by decide +kernel), List.mem_of_getElem? (i := 597) (by decide +kernel), List.mem_of_getElem? (i := 598) (by decide +kernel)⟩
theorem lw_p34 : lw_okq (⟨"TemperingLine$SetupReader", "readBand", "()Z"⟩, 13) := ⟨⟨by decide +kernel, by decide +kernel⟩, List.mem_of_getElem? (i := 115) (by decide +kernel), List.mem_of_getElem? (i := 602) (by decide +kernel), List.mem_of_getElem? (i := 603) (by decide +kernel)⟩
theorem lw_p35 : lw_okq (⟨"TemperingLine$SetupReader", "readHeat", "()Z"⟩, 13) := ⟨⟨by decide +kernel, by decide +kernel⟩, List.mem_of_getElem? (i := 115) (by decide +kernel), List.mem_of_getElem? (i := 607) (by decide +kernel), List.mem_of_getElem? (i := 608) (by decide +kernel)⟩
theorem lw_p36 : lw_okq (⟨"TemperingLine$SetupReader", "readSum", "(I)Z"⟩, 13) := ⟨⟨by decide +kernel, by decide +kernel⟩, List.mem_of_getElem? (i := 115) (by decide +kernel), List.mem_of_getElem? (i := 611) (by decide +kernel), List.mem_of_getElem? (i := 612) (by decide +kernel)⟩
theorem lw_p37 : lw_okq (⟨"TemperingLine$SetupReader", "readTerm", "(I)Z"⟩, 13) := ⟨⟨by decide +kernel, by decide +kernel⟩, List.mem_of_getElem? (i := 115) (by decide +kernel), List.mem_of_getElem? (i := 615) (by decide +kernel), List.mem_of_getElem? (i := 616) (by decide +kernel)⟩
theorem lw_p38 : lw_okq (⟨"TemperingLine$SetupReader", "readFactor", "(I)Z"⟩, 13) := ⟨⟨by decide +kernel, by decide +kernel⟩, List.mem_of_getElem? (i := 115) (by decide +kernel), List.mem_of_getElem? (i := 619) (by decide +kernel), List.mem_of_getElem? (i := 620) (by decide +kernel)⟩
theorem lw_p39 : lw_okq (⟨"TemperingLine$SetupReader", "putStep", "(I)V"⟩, 13) := ⟨⟨by decide +kernel, by decide +kernel⟩, List.mem_of_getElem? (i := 115) (by decide +kernel), List.mem_of_getElem? (i := 623) (by decide +kernel), List.mem_of_getElem? (i := 624) (by decide +kernel)⟩
theorem lw_p40 : lw_okq (⟨"TemperingLine$History", "remember", "(LTemperingLine$Line;)V"⟩, 3) := ⟨⟨by decide +kernel, by decide +kernel⟩, List.mem_of_getElem? (i := 235) (by decide +kernel), List.mem_of_getElem? (i := 631) (by decide +kernel), List.mem_of_getElem? (i := 632) (by decide +kernel)⟩
theorem lw_p41 : lw_okq (⟨"TemperingLine$Line", "startWith", "(LTemperingLine$Setup;)V"⟩, 15) := ⟨⟨by decide +kernel, by decide +kernel⟩, List.mem_of_getElem? (i := 168) (by decide +kernel), List.mem_of_getElem? (i := 636) (by decide +kernel), List.mem_of_getElem? (i := 637) (by decide +kernel)⟩
theorem lw_p42 : lw_okq (⟨"TemperingLine$Line", "standReady", "()V"⟩, 15) := ⟨⟨by decide +kernel, by decide +kernel⟩, List.mem_of_getElem? (i := 168) (by decide +kernel), List.mem_of_getElem? (i := 640) (by decide +kernel), List.mem_of_getElem? (i := 641) (by decide +kernel)⟩
theorem lw_p43 : lw_okq (⟨"TemperingLine$Line", "holdOnly", "(I)V"⟩, 15) := ⟨⟨by decide +kernel, by decide +kernel⟩, List.mem_of_getElem? (i := 168) (by decide +kernel), List.mem_of_getElem? (i := 733) (by decide +kernel), List.mem_of_getElem? (i := 734) (by decide +kernel)⟩
theorem lw_p44 : lw_okq (⟨"TemperingLine$Line", "putSheet", "(I)I"⟩, 15) := ⟨⟨by decide +kernel, by decide +kernel⟩, List.mem_of_getElem? (i := 168) (by decide +kernel), List.mem_of_getElem? (i := 737) (by decide +kernel), List.mem_of_getElem? (i := 738) (by decide +kernel)⟩
theorem lw_p45 : lw_okq (⟨"TemperingLine", "requireLine", "()V"⟩, 4) := ⟨⟨by decide +kernel, by decide +kernel⟩, List.mem_of_getElem? (i := 21) (by decide +kernel), List.mem_of_getElem? (i := 763) (by decide +kernel), List.mem_of_getElem? (i := 764) (by decide +kernel)⟩
theorem lw_p46 : lw_okq (⟨"TemperingLineModel", "fails", "(ZI)Z"⟩, 16) := ⟨⟨by decide +kernel, by decide +kernel⟩, List.mem_of_getElem? (i := 818) (by decide +kernel), List.mem_of_getElem? (i := 891) (by decide +kernel), List.mem_of_getElem? (i := 892) (by decide +kernel)⟩
theorem lw_p47 : lw_okq (⟨"TemperingLineModel", "takeWord", "(Ljava/lang/String;)Z"⟩, 16) := ⟨⟨by decide +kernel, by decide +kernel⟩, List.mem_of_getElem? (i := 818) (by decide +kernel), List.mem_of_getElem? (i := 896) (by decide +kernel), List.mem_of_getElem? (i := 897) (by decide +kernel)⟩
def lw_privs_3 : List (MethodName × Nat) := [(⟨"TemperingLine$SetupReader", "readStatements", "()Z"⟩, 13), (⟨"TemperingLine$SetupReader", "readZone", "()Z"⟩, 13), (⟨"TemperingLine$SetupReader", "readBand", "()Z"⟩, 13), (⟨"TemperingLine$SetupReader", "readHeat", "()Z"⟩, 13), (⟨"TemperingLine$SetupReader", "readSum", "(I)Z"⟩, 13), (⟨"TemperingLine$SetupReader", "readTerm", "(I)Z"⟩, 13), (⟨"TemperingLine$SetupReader", "readFactor", "(I)Z"⟩, 13), (⟨"TemperingLine$SetupReader", "putStep", "(I)V"⟩, 13), (⟨"TemperingLine$History", "remember", "(LTemperingLine$Line;)V"⟩, 3), (⟨"TemperingLine$Line", "startWith", "(LTemperingLine$Setup;)V"⟩, 15), (⟨"TemperingLine$Line", "standReady", "()V"⟩, 15), (⟨"TemperingLine$Line", "holdOnly", "(I)V"⟩, 15), (⟨"TemperingLine$Line", "putSheet", "(I)I"⟩, 15), (⟨"TemperingLine", "requireLine", "()V"⟩, 4), (⟨"TemperingLineModel", "fails", "(ZI)Z"⟩, 16), (⟨"TemperingLineModel", "takeWord", "(Ljava/lang/String;)Z"⟩, 16)]
theorem lw_r3 : ∀ q ∈ lw_privs_3, lw_okq q := List.forall_mem_cons.mpr ⟨lw_p32, List.forall_mem_cons.mpr ⟨lw_p33, List.forall_mem_cons.mpr ⟨lw_p34, List.forall_mem_cons.mpr ⟨lw_p35, List.forall_mem_cons.mpr ⟨lw_p36, List.forall_mem_cons.mpr ⟨lw_p37, List.forall_mem_cons.mpr ⟨lw_p38, List.forall_mem_cons.mpr ⟨lw_p39, List.forall_mem_cons.mpr ⟨lw_p40, List.forall_mem_cons.mpr ⟨lw_p41, List.forall_mem_cons.mpr ⟨lw_p42, List.forall_mem_cons.mpr ⟨lw_p43, List.forall_mem_cons.mpr ⟨lw_p44, List.forall_mem_cons.mpr ⟨lw_p45, List.forall_mem_cons.mpr ⟨lw_p46, List.forall_mem_cons.mpr ⟨lw_p47, fun _ h => absurd h List.not_mem_nil⟩⟩⟩⟩⟩⟩⟩⟩⟩⟩⟩⟩⟩⟩⟩⟩
theorem lw_p48 : lw_okq (⟨"TemperingLineModel", "isGood", "()Z"⟩, 16) := ⟨⟨by decide +kernel, by decide +kernel⟩, List.mem_of_getElem? (i := 818) (by decide +kernel), List.mem_of_getElem? (i := 900) (by decide +kernel), List.mem_of_getElem? (i := 901) (by decide +kernel)⟩
theorem lw_p49 : lw_okq (⟨"TemperingLineModel", "next", "()I"⟩, 16) := ⟨⟨by decide +kernel, by decide +kernel⟩, List.mem_of_getElem? (i := 818) (by decide +kernel), List.mem_of_getElem? (i := 904) (by decide +kernel), List.mem_of_getElem? (i := 905) (by decide +kernel)⟩
theorem lw_p50 : lw_okq (⟨"TemperingLineModel", "byteAt", "(I)I"⟩, 16) := ⟨⟨by decide +kernel, by decide +kernel⟩, List.mem_of_getElem? (i := 818) (by decide +kernel), List.mem_of_getElem? (i := 908) (by decide +kernel), List.mem_of_getElem? (i := 909) (by decide +kernel)⟩
theorem lw_p51 : lw_okq (⟨"TemperingLineModel", "report", "(II)V"⟩, 16) := ⟨⟨by decide +kernel, by decide +kernel⟩, List.mem_of_getElem? (i := 818) (by decide +kernel), List.mem_of_getElem? (i := 914) (by decide +kernel), List.mem_of_getElem? (i := 915) (by decide +kernel)⟩
theorem lw_p52 : lw_okq (⟨"TemperingLineModel", "number", "(II)I"⟩, 16) := ⟨⟨by decide +kernel, by decide +kernel⟩, List.mem_of_getElem? (i := 818) (by decide +kernel), List.mem_of_getElem? (i := 918) (by decide +kernel), List.mem_of_getElem? (i := 919) (by decide +kernel)⟩
theorem lw_p53 : lw_okq (⟨"TemperingLineModel", "expect", "(I)V"⟩, 16) := ⟨⟨by decide +kernel, by decide +kernel⟩, List.mem_of_getElem? (i := 818) (by decide +kernel), List.mem_of_getElem? (i := 929) (by decide +kernel), List.mem_of_getElem? (i := 930) (by decide +kernel)⟩
theorem lw_p54 : lw_okq (⟨"TemperingLineModel", "statement", "()V"⟩, 16) := ⟨⟨by decide +kernel, by decide +kernel⟩, List.mem_of_getElem? (i := 818) (by decide +kernel), List.mem_of_getElem? (i := 933) (by decide +kernel), List.mem_of_getElem? (i := 934) (by decide +kernel)⟩
theorem lw_p55 : lw_okq (⟨"TemperingLineModel", "readZone", "(I)V"⟩, 16) := ⟨⟨by decide +kernel, by decide +kernel⟩, List.mem_of_getElem? (i := 818) (by decide +kernel), List.mem_of_getElem? (i := 938) (by decide +kernel), List.mem_of_getElem? (i := 939) (by decide +kernel)⟩
theorem lw_p56 : lw_okq (⟨"TemperingLineModel", "readBand", "()V"⟩, 16) := ⟨⟨by decide +kernel, by decide +kernel⟩, List.mem_of_getElem? (i := 818) (by decide +kernel), List.mem_of_getElem? (i := 946) (by decide +kernel), List.mem_of_getElem? (i := 947) (by decide +kernel)⟩
theorem lw_p57 : lw_okq (⟨"TemperingLineModel", "once", "(II)V"⟩, 16) := ⟨⟨by decide +kernel, by decide +kernel⟩, List.mem_of_getElem? (i := 818) (by decide +kernel), List.mem_of_getElem? (i := 954) (by decide +kernel), List.mem_of_getElem? (i := 955) (by decide +kernel)⟩
theorem lw_p58 : lw_okq (⟨"TemperingLineModel", "sum", "()V"⟩, 16) := ⟨⟨by decide +kernel, by decide +kernel⟩, List.mem_of_getElem? (i := 818) (by decide +kernel), List.mem_of_getElem? (i := 958) (by decide +kernel), List.mem_of_getElem? (i := 959) (by decide +kernel)⟩
theorem lw_p59 : lw_okq (⟨"TemperingLineModel", "term", "()V"⟩, 16) := ⟨⟨by decide +kernel, by decide +kernel⟩, List.mem_of_getElem? (i := 818) (by decide +kernel), List.mem_of_getElem? (i := 962) (by decide +kernel), List.mem_of_getElem? (i := 963) (by decide +kernel)⟩
theorem lw_p60 : lw_okq (⟨"TemperingLineModel", "factor", "()V"⟩, 16) := ⟨⟨by decide +kernel, by decide +kernel⟩, List.mem_of_getElem? (i := 818) (by decide +kernel), List.mem_of_getElem? (i := 966) (by decide +kernel), List.mem_of_getElem? (i := 967) (by decide +kernel)⟩
theorem lw_p61 : lw_okq (⟨"TemperingLineModel", "emit", "(I)V"⟩, 16) := ⟨⟨by decide +kernel, by decide +kernel⟩, List.mem_of_getElem? (i := 818) (by decide +kernel), List.mem_of_getElem? (i := 972) (by decide +kernel), List.mem_of_getElem? (i := 973) (by decide +kernel)⟩
theorem lw_p62 : lw_okq (⟨"TemperingLineModel", "remember", "()V"⟩, 16) := ⟨⟨by decide +kernel, by decide +kernel⟩, List.mem_of_getElem? (i := 818) (by decide +kernel), List.mem_of_getElem? (i := 976) (by decide +kernel), List.mem_of_getElem? (i := 977) (by decide +kernel)⟩
theorem lw_p63 : lw_okq (⟨"TemperingLineModel", "noZone", "(I)Z"⟩, 16) := ⟨⟨by decide +kernel, by decide +kernel⟩, List.mem_of_getElem? (i := 818) (by decide +kernel), List.mem_of_getElem? (i := 1003) (by decide +kernel), List.mem_of_getElem? (i := 1004) (by decide +kernel)⟩
def lw_privs_4 : List (MethodName × Nat) := [(⟨"TemperingLineModel", "isGood", "()Z"⟩, 16), (⟨"TemperingLineModel", "next", "()I"⟩, 16), (⟨"TemperingLineModel", "byteAt", "(I)I"⟩, 16), (⟨"TemperingLineModel", "report", "(II)V"⟩, 16), (⟨"TemperingLineModel", "number", "(II)I"⟩, 16), (⟨"TemperingLineModel", "expect", "(I)V"⟩, 16), (⟨"TemperingLineModel", "statement", "()V"⟩, 16), (⟨"TemperingLineModel", "readZone", "(I)V"⟩, 16), (⟨"TemperingLineModel", "readBand", "()V"⟩, 16), (⟨"TemperingLineModel", "once", "(II)V"⟩, 16), (⟨"TemperingLineModel", "sum", "()V"⟩, 16), (⟨"TemperingLineModel", "term", "()V"⟩, 16), (⟨"TemperingLineModel", "factor", "()V"⟩, 16), (⟨"TemperingLineModel", "emit", "(I)V"⟩, 16), (⟨"TemperingLineModel", "remember", "()V"⟩, 16), (⟨"TemperingLineModel", "noZone", "(I)Z"⟩, 16)]
theorem lw_r4 : ∀ q ∈ lw_privs_4, lw_okq q := List.forall_mem_cons.mpr ⟨lw_p48, List.forall_mem_cons.mpr ⟨lw_p49, List.forall_mem_cons.mpr ⟨lw_p50, List.forall_mem_cons.mpr ⟨lw_p51, List.forall_mem_cons.mpr ⟨lw_p52, List.forall_mem_cons.mpr ⟨lw_p53, List.forall_mem_cons.mpr ⟨lw_p54, List.forall_mem_cons.mpr ⟨lw_p55, List.forall_mem_cons.mpr ⟨lw_p56, List.forall_mem_cons.mpr ⟨lw_p57, List.forall_mem_cons.mpr ⟨lw_p58, List.forall_mem_cons.mpr ⟨lw_p59, List.forall_mem_cons.mpr ⟨lw_p60, List.forall_mem_cons.mpr ⟨lw_p61, List.forall_mem_cons.mpr ⟨lw_p62, List.forall_mem_cons.mpr ⟨lw_p63, fun _ h => absurd h List.not_mem_nil⟩⟩⟩⟩⟩⟩⟩⟩⟩⟩⟩⟩⟩⟩⟩⟩
theorem lw_p64 : lw_okq (⟨"TemperingLineModel", "held", "(I)I"⟩, 16) := ⟨⟨by decide +kernel, by decide +kernel⟩, List.mem_of_getElem? (i := 818) (by decide +kernel), List.mem_of_getElem? (i := 1007) (by decide +kernel), List.mem_of_getElem? (i := 1008) (by decide +kernel)⟩
theorem lw_p65 : lw_okq (⟨"TemperingLineModel", "noSheet", "(I)Z"⟩, 16) := ⟨⟨by decide +kernel, by decide +kernel⟩, List.mem_of_getElem? (i := 818) (by decide +kernel), List.mem_of_getElem? (i := 1015) (by decide +kernel), List.mem_of_getElem? (i := 1016) (by decide +kernel)⟩
theorem lw_p66 : lw_okq (⟨"TemperingLineModel", "thicknessOf", "(I)I"⟩, 16) := ⟨⟨by decide +kernel, by decide +kernel⟩, List.mem_of_getElem? (i := 818) (by decide +kernel), List.mem_of_getElem? (i := 1019) (by decide +kernel), List.mem_of_getElem? (i := 1020) (by decide +kernel)⟩
theorem lw_p67 : lw_okq (⟨"TemperingLineModel", "warmth", "(I)I"⟩, 16) := ⟨⟨by decide +kernel, by decide +kernel⟩, List.mem_of_getElem? (i := 818) (by decide +kernel), List.mem_of_getElem? (i := 1030) (by decide +kernel), List.mem_of_getElem? (i := 1031) (by decide +kernel)⟩
theorem lw_p68 : lw_okq (⟨"TemperingLineModel", "stateOf", "(I)I"⟩, 16) := ⟨⟨by decide +kernel, by decide +kernel⟩, List.mem_of_getElem? (i := 818) (by decide +kernel), List.mem_of_getElem? (i := 1038) (by decide +kernel), List.mem_of_getElem? (i := 1039) (by decide +kernel)⟩
theorem lw_p69 : lw_okq (⟨"TemperingLineModel", "leftNow", "()I"⟩, 16) := ⟨⟨by decide +kernel, by decide +kernel⟩, List.mem_of_getElem? (i := 818) (by decide +kernel), List.mem_of_getElem? (i := 1050) (by decide +kernel), List.mem_of_getElem? (i := 1051) (by decide +kernel)⟩
theorem lw_p70 : lw_okq (⟨"TemperingLineModel", "countOf", "(I)I"⟩, 16) := ⟨⟨by decide +kernel, by decide +kernel⟩, List.mem_of_getElem? (i := 818) (by decide +kernel), List.mem_of_getElem? (i := 1058) (by decide +kernel), List.mem_of_getElem? (i := 1059) (by decide +kernel)⟩
theorem lw_p71 : lw_okq (⟨"TemperingLineModel", "noThickness", "(I)Z"⟩, 16) := ⟨⟨by decide +kernel, by decide +kernel⟩, List.mem_of_getElem? (i := 818) (by decide +kernel), List.mem_of_getElem? (i := 1066) (by decide +kernel), List.mem_of_getElem? (i := 1067) (by decide +kernel)⟩
theorem lw_p72 : lw_okq (⟨"TemperingLineModel", "noMeasures", "(II)Z"⟩, 16) := ⟨⟨by decide +kernel, by decide +kernel⟩, List.mem_of_getElem? (i := 818) (by decide +kernel), List.mem_of_getElem? (i := 1078) (by decide +kernel), List.mem_of_getElem? (i := 1079) (by decide +kernel)⟩
theorem lw_p73 : lw_okq (⟨"TemperingLineModel", "isEmpty", "()Z"⟩, 16) := ⟨⟨by decide +kernel, by decide +kernel⟩, List.mem_of_getElem? (i := 818) (by decide +kernel), List.mem_of_getElem? (i := 1089) (by decide +kernel), List.mem_of_getElem? (i := 1090) (by decide +kernel)⟩
theorem lw_p74 : lw_okq (⟨"TemperingLineModel", "hold", "(II)V"⟩, 16) := ⟨⟨by decide +kernel, by decide +kernel⟩, List.mem_of_getElem? (i := 818) (by decide +kernel), List.mem_of_getElem? (i := 1093) (by decide +kernel), List.mem_of_getElem? (i := 1094) (by decide +kernel)⟩
theorem lw_p75 : lw_okq (⟨"TemperingLineModel", "lay", "(I)I"⟩, 16) := ⟨⟨by decide +kernel, by decide +kernel⟩, List.mem_of_getElem? (i := 818) (by decide +kernel), List.mem_of_getElem? (i := 1097) (by decide +kernel), List.mem_of_getElem? (i := 1098) (by decide +kernel)⟩
theorem lw_p76 : lw_okq (⟨"TemperingLineModel", "isFinished", "()Z"⟩, 16) := ⟨⟨by decide +kernel, by decide +kernel⟩, List.mem_of_getElem? (i := 818) (by decide +kernel), List.mem_of_getElem? (i := 1101) (by decide +kernel), List.mem_of_getElem? (i := 1102) (by decide +kernel)⟩
theorem lw_p77 : lw_okq (⟨"TemperingLineModel", "tick", "()V"⟩, 16) := ⟨⟨by decide +kernel, by decide +kernel⟩, List.mem_of_getElem? (i := 818) (by decide +kernel), List.mem_of_getElem? (i := 1105) (by decide +kernel), List.mem_of_getElem? (i := 1106) (by decide +kernel)⟩
theorem lw_p78 : lw_okq (⟨"TemperingLineModel", "heat", "(I)V"⟩, 16) := ⟨⟨by decide +kernel, by decide +kernel⟩, List.mem_of_getElem? (i := 818) (by decide +kernel), List.mem_of_getElem? (i := 1109) (by decide +kernel), List.mem_of_getElem? (i := 1110) (by decide +kernel)⟩
theorem lw_p79 : lw_okq (⟨"TemperingLineModel", "transfer", "(III)I"⟩, 16) := ⟨⟨by decide +kernel, by decide +kernel⟩, List.mem_of_getElem? (i := 818) (by decide +kernel), List.mem_of_getElem? (i := 1113) (by decide +kernel), List.mem_of_getElem? (i := 1114) (by decide +kernel)⟩
def lw_privs_5 : List (MethodName × Nat) := [(⟨"TemperingLineModel", "held", "(I)I"⟩, 16), (⟨"TemperingLineModel", "noSheet", "(I)Z"⟩, 16), (⟨"TemperingLineModel", "thicknessOf", "(I)I"⟩, 16), (⟨"TemperingLineModel", "warmth", "(I)I"⟩, 16), (⟨"TemperingLineModel", "stateOf", "(I)I"⟩, 16), (⟨"TemperingLineModel", "leftNow", "()I"⟩, 16), (⟨"TemperingLineModel", "countOf", "(I)I"⟩, 16), (⟨"TemperingLineModel", "noThickness", "(I)Z"⟩, 16), (⟨"TemperingLineModel", "noMeasures", "(II)Z"⟩, 16), (⟨"TemperingLineModel", "isEmpty", "()Z"⟩, 16), (⟨"TemperingLineModel", "hold", "(II)V"⟩, 16), (⟨"TemperingLineModel", "lay", "(I)I"⟩, 16), (⟨"TemperingLineModel", "isFinished", "()Z"⟩, 16), (⟨"TemperingLineModel", "tick", "()V"⟩, 16), (⟨"TemperingLineModel", "heat", "(I)V"⟩, 16), (⟨"TemperingLineModel", "transfer", "(III)I"⟩, 16)]
theorem lw_r5 : ∀ q ∈ lw_privs_5, lw_okq q := List.forall_mem_cons.mpr ⟨lw_p64, List.forall_mem_cons.mpr ⟨lw_p65, List.forall_mem_cons.mpr ⟨lw_p66, List.forall_mem_cons.mpr ⟨lw_p67, List.forall_mem_cons.mpr ⟨lw_p68, List.forall_mem_cons.mpr ⟨lw_p69, List.forall_mem_cons.mpr ⟨lw_p70, List.forall_mem_cons.mpr ⟨lw_p71, List.forall_mem_cons.mpr ⟨lw_p72, List.forall_mem_cons.mpr ⟨lw_p73, List.forall_mem_cons.mpr ⟨lw_p74, List.forall_mem_cons.mpr ⟨lw_p75, List.forall_mem_cons.mpr ⟨lw_p76, List.forall_mem_cons.mpr ⟨lw_p77, List.forall_mem_cons.mpr ⟨lw_p78, List.forall_mem_cons.mpr ⟨lw_p79, fun _ h => absurd h List.not_mem_nil⟩⟩⟩⟩⟩⟩⟩⟩⟩⟩⟩⟩⟩⟩⟩⟩
theorem lw_p80 : lw_okq (⟨"TemperingLineModel", "leaveQuench", "()V"⟩, 16) := ⟨⟨by decide +kernel, by decide +kernel⟩, List.mem_of_getElem? (i := 818) (by decide +kernel), List.mem_of_getElem? (i := 1129) (by decide +kernel), List.mem_of_getElem? (i := 1130) (by decide +kernel)⟩
theorem lw_p81 : lw_okq (⟨"TemperingLineModel", "become", "(II)V"⟩, 16) := ⟨⟨by decide +kernel, by decide +kernel⟩, List.mem_of_getElem? (i := 818) (by decide +kernel), List.mem_of_getElem? (i := 1133) (by decide +kernel), List.mem_of_getElem? (i := 1134) (by decide +kernel)⟩
theorem lw_p82 : lw_okq (⟨"TemperingLineModel", "move", "(I)V"⟩, 16) := ⟨⟨by decide +kernel, by decide +kernel⟩, List.mem_of_getElem? (i := 818) (by decide +kernel), List.mem_of_getElem? (i := 1137) (by decide +kernel), List.mem_of_getElem? (i := 1138) (by decide +kernel)⟩
theorem lw_p83 : lw_okq (⟨"TemperingLineModel", "doneWith", "(I)I"⟩, 16) := ⟨⟨by decide +kernel, by decide +kernel⟩, List.mem_of_getElem? (i := 818) (by decide +kernel), List.mem_of_getElem? (i := 1153) (by decide +kernel), List.mem_of_getElem? (i := 1154) (by decide +kernel)⟩
def lw_privs_6 : List (MethodName × Nat) := [(⟨"TemperingLineModel", "leaveQuench", "()V"⟩, 16), (⟨"TemperingLineModel", "become", "(II)V"⟩, 16), (⟨"TemperingLineModel", "move", "(I)V"⟩, 16), (⟨"TemperingLineModel", "doneWith", "(I)I"⟩, 16)]
theorem lw_r6 : ∀ q ∈ lw_privs_6, lw_okq q := List.forall_mem_cons.mpr ⟨lw_p80, List.forall_mem_cons.mpr ⟨lw_p81, List.forall_mem_cons.mpr ⟨lw_p82, List.forall_mem_cons.mpr ⟨lw_p83, fun _ h => absurd h List.not_mem_nil⟩⟩⟩⟩
def lw_privs : List (MethodName × Nat) := lw_privs_1 ++ (lw_privs_2 ++ (lw_privs_3 ++ (lw_privs_4 ++ (lw_privs_5 ++ (lw_privs_6)))))
def lw_tbl : List Cond := k2_sels lw_privs ++ tables_1
theorem lw_privs_ok : ∀ q ∈ lw_privs, lw_okq q := by
  show ∀ q ∈ lw_privs_1 ++ (lw_privs_2 ++ (lw_privs_3 ++ (lw_privs_4 ++ (lw_privs_5 ++ (lw_privs_6))))), lw_okq q
  exact List.forall_mem_append.mpr ⟨lw_r1, List.forall_mem_append.mpr ⟨lw_r2, List.forall_mem_append.mpr ⟨lw_r3, List.forall_mem_append.mpr ⟨lw_r4, List.forall_mem_append.mpr ⟨lw_r5, lw_r6⟩⟩⟩⟩⟩
-- ===== end of PART A; then your names; then what follows =====
def RX0 : String := "TemperingLine$Heat"
def TX0 : u_T := fun k => match k with
  | 0 => ("TemperingLine$Heat", "steps", "[I", true)
  | _ => ("TemperingLine$Heat", "stack", "[I", true)
def tyX0 : Nat → FieldType := fun k => match k with
  | 0 => .array .int
  | _ => .array .int
abbrev wsX00 : List Cond := u_ws RX0 TX0 2
theorem nmX0 : ∀ a, a < 2 → ∀ b, b < 2 → a ≠ b → (TX0 a).2.1 ≠ (TX0 b).2.1 := by decide +kernel
theorem tyX0_ok : ∀ k, k < 2 → parseFieldDescriptor (TX0 k).2.2.1 = some (tyX0 k) := by decide +kernel
abbrev cX0_init : ByteArray := prog_2_method_1_code
def yX0_init : MethodName := ⟨RX0, "<init>", "([II)V"⟩
abbrev cX0_valueFor : ByteArray := prog_2_method_2_code
def yX0_valueFor : MethodName := ⟨RX0, "valueFor", "(III)I"⟩
abbrev cX0_result : ByteArray := prog_2_method_3_code
def yX0_result : MethodName := ⟨RX0, "result", "(III)I"⟩
def RX1 : String := "TemperingLine$History"
def TX1 : u_T := fun k => match k with
  | 0 => ("TemperingLine$History", "rows", "[LTemperingLine$Line;", true)
  | 1 => ("TemperingLine$History", "next", "I", false)
  | _ => ("TemperingLine$History", "kept", "I", false)
def tyX1 : Nat → FieldType := fun k => match k with
  | 0 => .array (.object "TemperingLine$Line")
  | 1 => .int
  | _ => .int
abbrev wsX10 : List Cond := u_ws RX1 TX1 3
theorem nmX1 : ∀ a, a < 3 → ∀ b, b < 3 → a ≠ b → (TX1 a).2.1 ≠ (TX1 b).2.1 := by decide +kernel
theorem tyX1_ok : ∀ k, k < 3 → parseFieldDescriptor (TX1 k).2.2.1 = some (tyX1 k) := by decide +kernel
abbrev cX1_init : ByteArray := prog_3_method_1_code
def yX1_init : MethodName := ⟨RX1, "<init>", "(LTemperingLine$Setup;)V"⟩
abbrev cX1_remember : ByteArray := prog_3_method_2_code
def yX1_remember : MethodName := ⟨RX1, "remember", "(LTemperingLine$Line;)V"⟩
abbrev cX1_restoreLatest : ByteArray := prog_3_method_3_code
def yX1_restoreLatest : MethodName := ⟨RX1, "restoreLatest", "(LTemperingLine$Line;)I"⟩
def RX2 : String := "TemperingLine$Line"
def TX2 : u_T := fun k => match k with
  | 0 => ("TemperingLine$Line", "setup", "LTemperingLine$Setup;", false)
  | 1 => ("TemperingLine$Line", "time", "I", false)
  | 2 => ("TemperingLine$Line", "sheets", "I", false)
  | 3 => ("TemperingLine$Line", "quenchSheet", "I", false)
  | 4 => ("TemperingLine$Line", "quenchTicks", "I", false)
  | 5 => ("TemperingLine$Line", "setpoints", "[I", true)
  | 6 => ("TemperingLine$Line", "zoneTemperatures", "[I", true)
  | 7 => ("TemperingLine$Line", "holders", "[I", true)
  | 8 => ("TemperingLine$Line", "thicknesses", "[I", true)
  | 9 => ("TemperingLine$Line", "sheetTemperatures", "[I", true)
  | 10 => ("TemperingLine$Line", "states", "[I", true)
  | 11 => ("TemperingLine$Line", "passed", "[I", true)
  | 12 => ("TemperingLine$Line", "coldBreaks", "[I", true)
  | 13 => ("TemperingLine$Line", "hotBreaks", "[I", true)
  | _ => ("TemperingLine$Line", "corrections", "[I", true)
def tyX2 : Nat → FieldType := fun k => match k with
  | 0 => .object "TemperingLine$Setup"
  | 1 => .int
  | 2 => .int
  | 3 => .int
  | 4 => .int
  | 5 => .array .int
  | 6 => .array .int
  | 7 => .array .int
  | 8 => .array .int
  | 9 => .array .int
  | 10 => .array .int
  | 11 => .array .int
  | 12 => .array .int
  | 13 => .array .int
  | _ => .array .int
abbrev wsX20 : List Cond := u_ws RX2 TX2 15
theorem nmX2 : ∀ a, a < 15 → ∀ b, b < 15 → a ≠ b → (TX2 a).2.1 ≠ (TX2 b).2.1 := by decide +kernel
theorem tyX2_ok : ∀ k, k < 15 → parseFieldDescriptor (TX2 k).2.2.1 = some (tyX2 k) := by decide +kernel
abbrev cX2_init : ByteArray := prog_4_method_1_code
def yX2_init : MethodName := ⟨RX2, "<init>", "(LTemperingLine$Setup;)V"⟩
abbrev cX2_exists : ByteArray := prog_4_method_2_code
def yX2_exists : MethodName := ⟨RX2, "exists", "()Z"⟩
abbrev cX2_isSheet : ByteArray := prog_4_method_3_code
def yX2_isSheet : MethodName := ⟨RX2, "isSheet", "(I)Z"⟩
abbrev cX2_startWith : ByteArray := prog_4_method_4_code
def yX2_startWith : MethodName := ⟨RX2, "startWith", "(LTemperingLine$Setup;)V"⟩
abbrev cX2_standReady : ByteArray := prog_4_method_5_code
def yX2_standReady : MethodName := ⟨RX2, "standReady", "()V"⟩
abbrev cX2_holdOnly : ByteArray := prog_4_method_6_code
def yX2_holdOnly : MethodName := ⟨RX2, "holdOnly", "(I)V"⟩
abbrev cX2_putSheet : ByteArray := prog_4_method_7_code
def yX2_putSheet : MethodName := ⟨RX2, "putSheet", "(I)I"⟩
abbrev cX2_copyFrom : ByteArray := prog_4_method_8_code
def yX2_copyFrom : MethodName := ⟨RX2, "copyFrom", "(LTemperingLine$Line;)V"⟩
abbrev cX2_sheetsIn : ByteArray := prog_4_method_9_code
def yX2_sheetsIn : MethodName := ⟨RX2, "sheetsIn", "(I)I"⟩
abbrev cX2_isFinished : ByteArray := prog_4_method_10_code
def yX2_isFinished : MethodName := ⟨RX2, "isFinished", "()Z"⟩
abbrev cX2_ticksToFinish : ByteArray := prog_4_method_11_code
def yX2_ticksToFinish : MethodName := ⟨RX2, "ticksToFinish", "(I)I"⟩
abbrev cX2_tick : ByteArray := prog_4_method_12_code
def yX2_tick : MethodName := ⟨RX2, "tick", "()V"⟩
abbrev cX2_heatZones : ByteArray := prog_4_method_13_code
def yX2_heatZones : MethodName := ⟨RX2, "heatZones", "()V"⟩
abbrev cX2_heatSheetIn : ByteArray := prog_4_method_14_code
def yX2_heatSheetIn : MethodName := ⟨RX2, "heatSheetIn", "(I)V"⟩
abbrev cX2_quench : ByteArray := prog_4_method_15_code
def yX2_quench : MethodName := ⟨RX2, "quench", "()I"⟩
abbrev cX2_judge : ByteArray := prog_4_method_16_code
def yX2_judge : MethodName := ⟨RX2, "judge", "(I)V"⟩
abbrev cX2_learn : ByteArray := prog_4_method_17_code
def yX2_learn : MethodName := ⟨RX2, "learn", "(II)V"⟩
abbrev cX2_moveSheetFrom : ByteArray := prog_4_method_18_code
def yX2_moveSheetFrom : MethodName := ⟨RX2, "moveSheetFrom", "(I)V"⟩
abbrev cX2_correctionFor : ByteArray := prog_4_method_19_code
def yX2_correctionFor : MethodName := ⟨RX2, "correctionFor", "(I)I"⟩
abbrev cX2_moveToQuench : ByteArray := prog_4_method_20_code
def yX2_moveToQuench : MethodName := ⟨RX2, "moveToQuench", "(II)V"⟩
abbrev cX2_moveToNext : ByteArray := prog_4_method_21_code
def yX2_moveToNext : MethodName := ⟨RX2, "moveToNext", "(II)V"⟩
abbrev cX2_fillFirstZone : ByteArray := prog_4_method_22_code
def yX2_fillFirstZone : MethodName := ⟨RX2, "fillFirstZone", "()V"⟩
abbrev cX2_spoil : ByteArray := prog_4_method_23_code
def yX2_spoil : MethodName := ⟨RX2, "spoil", "(I)V"⟩
abbrev cX2_digest : ByteArray := prog_4_method_24_code
def yX2_digest : MethodName := ⟨RX2, "digest", "()J"⟩
def RX3 : String := "TemperingLine$Setup"
def TX3 : u_T := fun k => match k with
  | 0 => ("TemperingLine$Setup", "zones", "I", false)
  | 1 => ("TemperingLine$Setup", "quenchTime", "I", false)
  | 2 => ("TemperingLine$Setup", "learningStep", "I", false)
  | 3 => ("TemperingLine$Setup", "setpoints", "[I", true)
  | 4 => ("TemperingLine$Setup", "powers", "[I", true)
  | 5 => ("TemperingLine$Setup", "capacities", "[I", true)
  | 6 => ("TemperingLine$Setup", "lowers", "[I", true)
  | 7 => ("TemperingLine$Setup", "uppers", "[I", true)
  | 8 => ("TemperingLine$Setup", "bandLows", "[I", true)
  | 9 => ("TemperingLine$Setup", "bandHighs", "[I", true)
  | _ => ("TemperingLine$Setup", "heat", "LTemperingLine$Heat;", false)
def tyX3 : Nat → FieldType := fun k => match k with
  | 0 => .int
  | 1 => .int
  | 2 => .int
  | 3 => .array .int
  | 4 => .array .int
  | 5 => .array .int
  | 6 => .array .int
  | 7 => .array .int
  | 8 => .array .int
  | 9 => .array .int
  | _ => .object "TemperingLine$Heat"
abbrev wsX30 : List Cond := u_ws RX3 TX3 11
theorem nmX3 : ∀ a, a < 11 → ∀ b, b < 11 → a ≠ b → (TX3 a).2.1 ≠ (TX3 b).2.1 := by decide +kernel
theorem tyX3_ok : ∀ k, k < 11 → parseFieldDescriptor (TX3 k).2.2.1 = some (tyX3 k) := by decide +kernel
abbrev cX3_init : ByteArray := prog_5_method_1_code
def yX3_init : MethodName := ⟨RX3, "<init>", "()V"⟩
def RX4 : String := "TemperingLine$SetupReader"
def TX4 : u_T := fun k => match k with
  | 0 => ("TemperingLine$SetupReader", "bytes", "[B", true)
  | 1 => ("TemperingLine$SetupReader", "filled", "I", false)
  | 2 => ("TemperingLine$SetupReader", "length", "I", false)
  | 3 => ("TemperingLine$SetupReader", "kind", "I", false)
  | 4 => ("TemperingLine$SetupReader", "start", "I", false)
  | 5 => ("TemperingLine$SetupReader", "end", "I", false)
  | 6 => ("TemperingLine$SetupReader", "number", "I", false)
  | 7 => ("TemperingLine$SetupReader", "errorCode", "I", false)
  | 8 => ("TemperingLine$SetupReader", "errorStart", "I", false)
  | 9 => ("TemperingLine$SetupReader", "setup", "LTemperingLine$Setup;", false)
  | 10 => ("TemperingLine$SetupReader", "heatSeen", "Z", false)
  | 11 => ("TemperingLine$SetupReader", "steps", "[I", true)
  | _ => ("TemperingLine$SetupReader", "stepCount", "I", false)
def tyX4 : Nat → FieldType := fun k => match k with
  | 0 => .array .byte
  | 1 => .int
  | 2 => .int
  | 3 => .int
  | 4 => .int
  | 5 => .int
  | 6 => .int
  | 7 => .int
  | 8 => .int
  | 9 => .object "TemperingLine$Setup"
  | 10 => .boolean
  | 11 => .array .int
  | _ => .int
abbrev wsX40 : List Cond := u_ws RX4 TX4 13
theorem nmX4 : ∀ a, a < 13 → ∀ b, b < 13 → a ≠ b → (TX4 a).2.1 ≠ (TX4 b).2.1 := by decide +kernel
theorem tyX4_ok : ∀ k, k < 13 → parseFieldDescriptor (TX4 k).2.2.1 = some (tyX4 k) := by decide +kernel
abbrev cX4_init : ByteArray := prog_6_method_1_code
def yX4_init : MethodName := ⟨RX4, "<init>", "()V"⟩
abbrev cX4_putWord : ByteArray := prog_6_method_2_code
def yX4_putWord : MethodName := ⟨RX4, "putWord", "(I)V"⟩
abbrev cX4_begin : ByteArray := prog_6_method_3_code
def yX4_begin : MethodName := ⟨RX4, "begin", "(I)V"⟩
abbrev cX4_fail : ByteArray := prog_6_method_4_code
def yX4_fail : MethodName := ⟨RX4, "fail", "(I)Z"⟩
abbrev cX4_readHeader : ByteArray := prog_6_method_5_code
def yX4_readHeader : MethodName := ⟨RX4, "readHeader", "()Z"⟩
abbrev cX4_readStatements : ByteArray := prog_6_method_6_code
def yX4_readStatements : MethodName := ⟨RX4, "readStatements", "()Z"⟩
abbrev cX4_readZone : ByteArray := prog_6_method_7_code
def yX4_readZone : MethodName := ⟨RX4, "readZone", "()Z"⟩
abbrev cX4_readBand : ByteArray := prog_6_method_8_code
def yX4_readBand : MethodName := ⟨RX4, "readBand", "()Z"⟩
abbrev cX4_readHeat : ByteArray := prog_6_method_9_code
def yX4_readHeat : MethodName := ⟨RX4, "readHeat", "()Z"⟩
abbrev cX4_readSum : ByteArray := prog_6_method_10_code
def yX4_readSum : MethodName := ⟨RX4, "readSum", "(I)Z"⟩
abbrev cX4_readTerm : ByteArray := prog_6_method_11_code
def yX4_readTerm : MethodName := ⟨RX4, "readTerm", "(I)Z"⟩
abbrev cX4_readFactor : ByteArray := prog_6_method_12_code
def yX4_readFactor : MethodName := ⟨RX4, "readFactor", "(I)Z"⟩
abbrev cX4_putStep : ByteArray := prog_6_method_13_code
def yX4_putStep : MethodName := ⟨RX4, "putStep", "(I)V"⟩
abbrev cX4_takeNumber : ByteArray := prog_6_method_14_code
def yX4_takeNumber : MethodName := ⟨RX4, "takeNumber", "(II)Z"⟩
abbrev cX4_takeSign : ByteArray := prog_6_method_15_code
def yX4_takeSign : MethodName := ⟨RX4, "takeSign", "(C)Z"⟩
abbrev cX4_signIs : ByteArray := prog_6_method_16_code
def yX4_signIs : MethodName := ⟨RX4, "signIs", "(C)Z"⟩
abbrev cX4_wordIs : ByteArray := prog_6_method_17_code
def yX4_wordIs : MethodName := ⟨RX4, "wordIs", "(Ljava/lang/String;)Z"⟩
abbrev cX4_readToken : ByteArray := prog_6_method_18_code
def yX4_readToken : MethodName := ⟨RX4, "readToken", "()V"⟩
abbrev cX4_isDigit : ByteArray := prog_6_method_19_code
def yX4_isDigit : MethodName := ⟨RX4, "isDigit", "(I)Z"⟩
abbrev cX4_isLetter : ByteArray := prog_6_method_20_code
def yX4_isLetter : MethodName := ⟨RX4, "isLetter", "(I)Z"⟩
def RX5 : String := "TemperingLine"
def TX5 : u_T := fun k => match k with
  | 0 => ("TemperingLine", "reader", "LTemperingLine$SetupReader;", true)
  | 1 => ("TemperingLine", "line", "LTemperingLine$Line;", true)
  | 2 => ("TemperingLine", "trial", "LTemperingLine$Line;", true)
  | _ => ("TemperingLine", "history", "LTemperingLine$History;", true)
def tyX5 : Nat → FieldType := fun k => match k with
  | 0 => .object "TemperingLine$SetupReader"
  | 1 => .object "TemperingLine$Line"
  | 2 => .object "TemperingLine$Line"
  | _ => .object "TemperingLine$History"
abbrev wsX50 : List Cond := u_ws RX5 TX5 4
theorem nmX5 : ∀ a, a < 4 → ∀ b, b < 4 → a ≠ b → (TX5 a).2.1 ≠ (TX5 b).2.1 := by decide +kernel
theorem tyX5_ok : ∀ k, k < 4 → parseFieldDescriptor (TX5 k).2.2.1 = some (tyX5 k) := by decide +kernel
abbrev cX5_init : ByteArray := prog_1_method_1_code
def yX5_init : MethodName := ⟨RX5, "<init>", "()V"⟩
abbrev cX5_append : ByteArray := prog_1_method_2_code
def yX5_append : MethodName := ⟨RX5, "append", "(IIIII)I"⟩
abbrev cX5_load : ByteArray := prog_1_method_3_code
def yX5_load : MethodName := ⟨RX5, "load", "(I)I"⟩
abbrev cX5_errorOffset : ByteArray := prog_1_method_4_code
def yX5_errorOffset : MethodName := ⟨RX5, "errorOffset", "()I"⟩
abbrev cX5_zoneCount : ByteArray := prog_1_method_5_code
def yX5_zoneCount : MethodName := ⟨RX5, "zoneCount", "()I"⟩
abbrev cX5_sheetCount : ByteArray := prog_1_method_6_code
def yX5_sheetCount : MethodName := ⟨RX5, "sheetCount", "()I"⟩
abbrev cX5_clock : ByteArray := prog_1_method_7_code
def yX5_clock : MethodName := ⟨RX5, "clock", "()I"⟩
abbrev cX5_zone : ByteArray := prog_1_method_8_code
def yX5_zone : MethodName := ⟨RX5, "zone", "(II)I"⟩
abbrev cX5_thickness : ByteArray := prog_1_method_9_code
def yX5_thickness : MethodName := ⟨RX5, "thickness", "(I)I"⟩
abbrev cX5_temperature : ByteArray := prog_1_method_10_code
def yX5_temperature : MethodName := ⟨RX5, "temperature", "(I)I"⟩
abbrev cX5_state : ByteArray := prog_1_method_11_code
def yX5_state : MethodName := ⟨RX5, "state", "(I)I"⟩
abbrev cX5_quenched : ByteArray := prog_1_method_12_code
def yX5_quenched : MethodName := ⟨RX5, "quenched", "()I"⟩
abbrev cX5_quenchLeft : ByteArray := prog_1_method_13_code
def yX5_quenchLeft : MethodName := ⟨RX5, "quenchLeft", "()I"⟩
abbrev cX5_count : ByteArray := prog_1_method_14_code
def yX5_count : MethodName := ⟨RX5, "count", "(I)I"⟩
abbrev cX5_learned : ByteArray := prog_1_method_15_code
def yX5_learned : MethodName := ⟨RX5, "learned", "(II)I"⟩
abbrev cX5_risk : ByteArray := prog_1_method_16_code
def yX5_risk : MethodName := ⟨RX5, "risk", "(I)I"⟩
abbrev cX5_recognise : ByteArray := prog_1_method_17_code
def yX5_recognise : MethodName := ⟨RX5, "recognise", "(II)I"⟩
abbrev cX5_guard : ByteArray := prog_1_method_18_code
def yX5_guard : MethodName := ⟨RX5, "guard", "(I)I"⟩
abbrev cX5_finishTime : ByteArray := prog_1_method_19_code
def yX5_finishTime : MethodName := ⟨RX5, "finishTime", "(I)I"⟩
abbrev cX5_stateAfter : ByteArray := prog_1_method_20_code
def yX5_stateAfter : MethodName := ⟨RX5, "stateAfter", "(II)I"⟩
abbrev cX5_bestSetpoint : ByteArray := prog_1_method_21_code
def yX5_bestSetpoint : MethodName := ⟨RX5, "bestSetpoint", "()I"⟩
abbrev cX5_add : ByteArray := prog_1_method_22_code
def yX5_add : MethodName := ⟨RX5, "add", "(II)I"⟩
abbrev cX5_run : ByteArray := prog_1_method_23_code
def yX5_run : MethodName := ⟨RX5, "run", "(I)I"⟩
abbrev cX5_setPoint : ByteArray := prog_1_method_24_code
def yX5_setPoint : MethodName := ⟨RX5, "setPoint", "(II)I"⟩
abbrev cX5_setCorrection : ByteArray := prog_1_method_25_code
def yX5_setCorrection : MethodName := ⟨RX5, "setCorrection", "(II)I"⟩
abbrev cX5_scrap : ByteArray := prog_1_method_26_code
def yX5_scrap : MethodName := ⟨RX5, "scrap", "(I)I"⟩
abbrev cX5_undo : ByteArray := prog_1_method_27_code
def yX5_undo : MethodName := ⟨RX5, "undo", "()I"⟩
abbrev cX5_checksum : ByteArray := prog_1_method_28_code
def yX5_checksum : MethodName := ⟨RX5, "checksum", "()J"⟩
abbrev cX5_doneWith : ByteArray := prog_1_method_29_code
def yX5_doneWith : MethodName := ⟨RX5, "doneWith", "(I)I"⟩
abbrev cX5_requireLine : ByteArray := prog_1_method_30_code
def yX5_requireLine : MethodName := ⟨RX5, "requireLine", "()V"⟩
abbrev cX5_requireArgument : ByteArray := prog_1_method_31_code
def yX5_requireArgument : MethodName := ⟨RX5, "requireArgument", "(III)V"⟩
abbrev cX5_requireIndex : ByteArray := prog_1_method_32_code
def yX5_requireIndex : MethodName := ⟨RX5, "requireIndex", "(II)V"⟩
abbrev cX5_isWithin : ByteArray := prog_1_method_33_code
def yX5_isWithin : MethodName := ⟨RX5, "isWithin", "(III)Z"⟩
abbrev cX5_isThickness : ByteArray := prog_1_method_34_code
def yX5_isThickness : MethodName := ⟨RX5, "isThickness", "(I)Z"⟩
abbrev cX5_limit : ByteArray := prog_1_method_35_code
def yX5_limit : MethodName := ⟨RX5, "limit", "(III)I"⟩
abbrev cX5_thicknessOf : ByteArray := prog_1_method_36_code
def yX5_thicknessOf : MethodName := ⟨RX5, "thicknessOf", "(II)I"⟩
def RX6 : String := "TemperingLineModel"
def TX6 : u_T := fun k => match k with
  | 0 => ("TemperingLineModel", "thrown", "I", false)
  | 1 => ("TemperingLineModel", "buffer", "[I", true)
  | 2 => ("TemperingLineModel", "bufferLength", "I", false)
  | 3 => ("TemperingLineModel", "textLength", "I", false)
  | 4 => ("TemperingLineModel", "position", "I", false)
  | 5 => ("TemperingLineModel", "error", "I", false)
  | 6 => ("TemperingLineModel", "errorAt", "I", false)
  | 7 => ("TemperingLineModel", "errorOffset", "I", false)
  | 8 => ("TemperingLineModel", "data", "[I", true)
  | 9 => ("TemperingLineModel", "draft", "[I", true)
  | 10 => ("TemperingLineModel", "kept", "[I", true)
  | 11 => ("TemperingLineModel", "history", "[[I", true)
  | 12 => ("TemperingLineModel", "undoDepth", "I", false)
  | 13 => ("TemperingLineModel", "nesting", "I", false)
  | 14 => ("TemperingLineModel", "seen", "I", false)
  | _ => ("TemperingLineModel", "stack", "[J", true)
def tyX6 : Nat → FieldType := fun k => match k with
  | 0 => .int
  | 1 => .array .int
  | 2 => .int
  | 3 => .int
  | 4 => .int
  | 5 => .int
  | 6 => .int
  | 7 => .int
  | 8 => .array .int
  | 9 => .array .int
  | 10 => .array .int
  | 11 => .array (.array .int)
  | 12 => .int
  | 13 => .int
  | 14 => .int
  | _ => .array .long
abbrev wsX60 : List Cond := u_ws RX6 TX6 16
theorem nmX6 : ∀ a, a < 16 → ∀ b, b < 16 → a ≠ b → (TX6 a).2.1 ≠ (TX6 b).2.1 := by decide +kernel
theorem tyX6_ok : ∀ k, k < 16 → parseFieldDescriptor (TX6 k).2.2.1 = some (tyX6 k) := by decide +kernel
abbrev cX6_init : ByteArray := prog_8_method_1_code
def yX6_init : MethodName := ⟨RX6, "<init>", "()V"⟩
abbrev cX6_thrown : ByteArray := prog_8_method_2_code
def yX6_thrown : MethodName := ⟨RX6, "thrown", "()I"⟩
abbrev cX6_fails : ByteArray := prog_8_method_3_code
def yX6_fails : MethodName := ⟨RX6, "fails", "(ZI)Z"⟩
abbrev cX6_in : ByteArray := prog_8_method_4_code
def yX6_in : MethodName := ⟨RX6, "in", "(III)Z"⟩
abbrev cX6_min : ByteArray := prog_8_method_5_code
def yX6_min : MethodName := ⟨RX6, "min", "(II)I"⟩
abbrev cX6_max : ByteArray := prog_8_method_6_code
def yX6_max : MethodName := ⟨RX6, "max", "(II)I"⟩
abbrev cX6_copy : ByteArray := prog_8_method_7_code
def yX6_copy : MethodName := ⟨RX6, "copy", "([I[I)V"⟩
abbrev cX6_zoneAt : ByteArray := prog_8_method_8_code
def yX6_zoneAt : MethodName := ⟨RX6, "zoneAt", "(I)I"⟩
abbrev cX6_sheetAt : ByteArray := prog_8_method_9_code
def yX6_sheetAt : MethodName := ⟨RX6, "sheetAt", "(I)I"⟩
abbrev cX6_kindAt : ByteArray := prog_8_method_10_code
def yX6_kindAt : MethodName := ⟨RX6, "kindAt", "(I)I"⟩
abbrev cX6_append : ByteArray := prog_8_method_11_code
def yX6_append : MethodName := ⟨RX6, "append", "(IIIII)I"⟩
abbrev cX6_byteAt : ByteArray := prog_8_method_12_code
def yX6_byteAt : MethodName := ⟨RX6, "byteAt", "(I)I"⟩
abbrev cX6_next : ByteArray := prog_8_method_13_code
def yX6_next : MethodName := ⟨RX6, "next", "()I"⟩
abbrev cX6_isGood : ByteArray := prog_8_method_14_code
def yX6_isGood : MethodName := ⟨RX6, "isGood", "()Z"⟩
abbrev cX6_report : ByteArray := prog_8_method_15_code
def yX6_report : MethodName := ⟨RX6, "report", "(II)V"⟩
abbrev cX6_isDigit : ByteArray := prog_8_method_16_code
def yX6_isDigit : MethodName := ⟨RX6, "isDigit", "(I)Z"⟩
abbrev cX6_takeWord : ByteArray := prog_8_method_17_code
def yX6_takeWord : MethodName := ⟨RX6, "takeWord", "(Ljava/lang/String;)Z"⟩
abbrev cX6_expect : ByteArray := prog_8_method_18_code
def yX6_expect : MethodName := ⟨RX6, "expect", "(I)V"⟩
abbrev cX6_number : ByteArray := prog_8_method_19_code
def yX6_number : MethodName := ⟨RX6, "number", "(II)I"⟩
abbrev cX6_emit : ByteArray := prog_8_method_20_code
def yX6_emit : MethodName := ⟨RX6, "emit", "(I)V"⟩
abbrev cX6_factor : ByteArray := prog_8_method_21_code
def yX6_factor : MethodName := ⟨RX6, "factor", "()V"⟩
abbrev cX6_term : ByteArray := prog_8_method_22_code
def yX6_term : MethodName := ⟨RX6, "term", "()V"⟩
abbrev cX6_sum : ByteArray := prog_8_method_23_code
def yX6_sum : MethodName := ⟨RX6, "sum", "()V"⟩
abbrev cX6_once : ByteArray := prog_8_method_24_code
def yX6_once : MethodName := ⟨RX6, "once", "(II)V"⟩
abbrev cX6_readZone : ByteArray := prog_8_method_25_code
def yX6_readZone : MethodName := ⟨RX6, "readZone", "(I)V"⟩
abbrev cX6_readBand : ByteArray := prog_8_method_26_code
def yX6_readBand : MethodName := ⟨RX6, "readBand", "()V"⟩
abbrev cX6_statement : ByteArray := prog_8_method_27_code
def yX6_statement : MethodName := ⟨RX6, "statement", "()V"⟩
abbrev cX6_load : ByteArray := prog_8_method_28_code
def yX6_load : MethodName := ⟨RX6, "load", "(I)I"⟩
abbrev cX6_errorOffset : ByteArray := prog_8_method_29_code
def yX6_errorOffset : MethodName := ⟨RX6, "errorOffset", "()I"⟩
abbrev cX6_held : ByteArray := prog_8_method_30_code
def yX6_held : MethodName := ⟨RX6, "held", "(I)I"⟩
abbrev cX6_hold : ByteArray := prog_8_method_31_code
def yX6_hold : MethodName := ⟨RX6, "hold", "(II)V"⟩
abbrev cX6_warmth : ByteArray := prog_8_method_32_code
def yX6_warmth : MethodName := ⟨RX6, "warmth", "(I)I"⟩
abbrev cX6_stateOf : ByteArray := prog_8_method_33_code
def yX6_stateOf : MethodName := ⟨RX6, "stateOf", "(I)I"⟩
abbrev cX6_become : ByteArray := prog_8_method_34_code
def yX6_become : MethodName := ⟨RX6, "become", "(II)V"⟩
abbrev cX6_thicknessOf : ByteArray := prog_8_method_35_code
def yX6_thicknessOf : MethodName := ⟨RX6, "thicknessOf", "(I)I"⟩
abbrev cX6_limited : ByteArray := prog_8_method_36_code
def yX6_limited : MethodName := ⟨RX6, "limited", "(J)J"⟩
abbrev cX6_operate : ByteArray := prog_8_method_37_code
def yX6_operate : MethodName := ⟨RX6, "operate", "(IJJ)J"⟩
abbrev cX6_transfer : ByteArray := prog_8_method_38_code
def yX6_transfer : MethodName := ⟨RX6, "transfer", "(III)I"⟩
abbrev cX6_heat : ByteArray := prog_8_method_39_code
def yX6_heat : MethodName := ⟨RX6, "heat", "(I)V"⟩
abbrev cX6_leaveQuench : ByteArray := prog_8_method_40_code
def yX6_leaveQuench : MethodName := ⟨RX6, "leaveQuench", "()V"⟩
abbrev cX6_move : ByteArray := prog_8_method_41_code
def yX6_move : MethodName := ⟨RX6, "move", "(I)V"⟩
abbrev cX6_tick : ByteArray := prog_8_method_42_code
def yX6_tick : MethodName := ⟨RX6, "tick", "()V"⟩
abbrev cX6_countOf : ByteArray := prog_8_method_43_code
def yX6_countOf : MethodName := ⟨RX6, "countOf", "(I)I"⟩
abbrev cX6_isFinished : ByteArray := prog_8_method_44_code
def yX6_isFinished : MethodName := ⟨RX6, "isFinished", "()Z"⟩
abbrev cX6_noZone : ByteArray := prog_8_method_45_code
def yX6_noZone : MethodName := ⟨RX6, "noZone", "(I)Z"⟩
abbrev cX6_noSheet : ByteArray := prog_8_method_46_code
def yX6_noSheet : MethodName := ⟨RX6, "noSheet", "(I)Z"⟩
abbrev cX6_noThickness : ByteArray := prog_8_method_47_code
def yX6_noThickness : MethodName := ⟨RX6, "noThickness", "(I)Z"⟩
abbrev cX6_isEmpty : ByteArray := prog_8_method_48_code
def yX6_isEmpty : MethodName := ⟨RX6, "isEmpty", "()Z"⟩
abbrev cX6_zoneCount : ByteArray := prog_8_method_49_code
def yX6_zoneCount : MethodName := ⟨RX6, "zoneCount", "()I"⟩
abbrev cX6_sheetCount : ByteArray := prog_8_method_50_code
def yX6_sheetCount : MethodName := ⟨RX6, "sheetCount", "()I"⟩
abbrev cX6_clock : ByteArray := prog_8_method_51_code
def yX6_clock : MethodName := ⟨RX6, "clock", "()I"⟩
abbrev cX6_zone : ByteArray := prog_8_method_52_code
def yX6_zone : MethodName := ⟨RX6, "zone", "(II)I"⟩
abbrev cX6_thickness : ByteArray := prog_8_method_53_code
def yX6_thickness : MethodName := ⟨RX6, "thickness", "(I)I"⟩
abbrev cX6_temperature : ByteArray := prog_8_method_54_code
def yX6_temperature : MethodName := ⟨RX6, "temperature", "(I)I"⟩
abbrev cX6_state : ByteArray := prog_8_method_55_code
def yX6_state : MethodName := ⟨RX6, "state", "(I)I"⟩
abbrev cX6_quenched : ByteArray := prog_8_method_56_code
def yX6_quenched : MethodName := ⟨RX6, "quenched", "()I"⟩
abbrev cX6_leftNow : ByteArray := prog_8_method_57_code
def yX6_leftNow : MethodName := ⟨RX6, "leftNow", "()I"⟩
abbrev cX6_quenchLeft : ByteArray := prog_8_method_58_code
def yX6_quenchLeft : MethodName := ⟨RX6, "quenchLeft", "()I"⟩
abbrev cX6_count : ByteArray := prog_8_method_59_code
def yX6_count : MethodName := ⟨RX6, "count", "(I)I"⟩
abbrev cX6_learned : ByteArray := prog_8_method_60_code
def yX6_learned : MethodName := ⟨RX6, "learned", "(II)I"⟩
abbrev cX6_risk : ByteArray := prog_8_method_61_code
def yX6_risk : MethodName := ⟨RX6, "risk", "(I)I"⟩
abbrev cX6_noMeasures : ByteArray := prog_8_method_62_code
def yX6_noMeasures : MethodName := ⟨RX6, "noMeasures", "(II)Z"⟩
abbrev cX6_recognised : ByteArray := prog_8_method_63_code
def yX6_recognised : MethodName := ⟨RX6, "recognised", "(II)I"⟩
abbrev cX6_recognise : ByteArray := prog_8_method_64_code
def yX6_recognise : MethodName := ⟨RX6, "recognise", "(II)I"⟩
abbrev cX6_guard : ByteArray := prog_8_method_65_code
def yX6_guard : MethodName := ⟨RX6, "guard", "(I)I"⟩
abbrev cX6_finishTime : ByteArray := prog_8_method_66_code
def yX6_finishTime : MethodName := ⟨RX6, "finishTime", "(I)I"⟩
abbrev cX6_stateAfter : ByteArray := prog_8_method_67_code
def yX6_stateAfter : MethodName := ⟨RX6, "stateAfter", "(II)I"⟩
abbrev cX6_doneWith : ByteArray := prog_8_method_68_code
def yX6_doneWith : MethodName := ⟨RX6, "doneWith", "(I)I"⟩
abbrev cX6_bestSetpoint : ByteArray := prog_8_method_69_code
def yX6_bestSetpoint : MethodName := ⟨RX6, "bestSetpoint", "()I"⟩
abbrev cX6_remember : ByteArray := prog_8_method_70_code
def yX6_remember : MethodName := ⟨RX6, "remember", "()V"⟩
abbrev cX6_lay : ByteArray := prog_8_method_71_code
def yX6_lay : MethodName := ⟨RX6, "lay", "(I)I"⟩
abbrev cX6_add : ByteArray := prog_8_method_72_code
def yX6_add : MethodName := ⟨RX6, "add", "(II)I"⟩
abbrev cX6_run : ByteArray := prog_8_method_73_code
def yX6_run : MethodName := ⟨RX6, "run", "(I)I"⟩
abbrev cX6_setPoint : ByteArray := prog_8_method_74_code
def yX6_setPoint : MethodName := ⟨RX6, "setPoint", "(II)I"⟩
abbrev cX6_setCorrection : ByteArray := prog_8_method_75_code
def yX6_setCorrection : MethodName := ⟨RX6, "setCorrection", "(II)I"⟩
abbrev cX6_scrap : ByteArray := prog_8_method_76_code
def yX6_scrap : MethodName := ⟨RX6, "scrap", "(I)I"⟩
abbrev cX6_undo : ByteArray := prog_8_method_77_code
def yX6_undo : MethodName := ⟨RX6, "undo", "()I"⟩
abbrev cX6_checksum : ByteArray := prog_8_method_78_code
def yX6_checksum : MethodName := ⟨RX6, "checksum", "()J"⟩
def RJ9 : String := "java/lang/Math"
abbrev cJ9_max_7cf53 : ByteArray := prog_13_method_65_code
def yJ9_max_7cf53 : MethodName := ⟨RJ9, "max", "(II)I"⟩
abbrev cJ9_min_7cf53 : ByteArray := prog_13_method_69_code
def yJ9_min_7cf53 : MethodName := ⟨RJ9, "min", "(II)I"⟩
def RJ0 : String := "java/lang/String"
abbrev cJ0_length_8abf5 : ByteArray := prog_15_method_54_code
def yJ0_length_8abf5 : MethodName := ⟨RJ0, "length", "()I"⟩
abbrev cJ0_charAt_5068e : ByteArray := prog_15_method_56_code
def yJ0_charAt_5068e : MethodName := ⟨RJ0, "charAt", "(I)C"⟩
abbrev cJ0_coder_7d493 : ByteArray := prog_15_method_152_code
def yJ0_coder_7d493 : MethodName := ⟨RJ0, "coder", "()B"⟩
abbrev cJ0_isLatin1_aae02 : ByteArray := prog_15_method_154_code
def yJ0_isLatin1_aae02 : MethodName := ⟨RJ0, "isLatin1", "()Z"⟩
abbrev cJ0_checkIndex_df160 : ByteArray := prog_15_method_155_code
def yJ0_checkIndex_df160 : MethodName := ⟨RJ0, "checkIndex", "(II)V"⟩
def RJ1 : String := "java/lang/StringLatin1"
abbrev cJ1_charAt_3b067 : ByteArray := prog_16_method_2_code
def yJ1_charAt_3b067 : MethodName := ⟨RJ1, "charAt", "([BI)C"⟩
def RJ2 : String := "java/lang/StringUTF16"
abbrev cJ2_getChar_3b067 : ByteArray := prog_17_method_5_code
def yJ2_getChar_3b067 : MethodName := ⟨RJ2, "getChar", "([BI)C"⟩
abbrev cJ2_length_9d52b : ByteArray := prog_17_method_6_code
def yJ2_length_9d52b : MethodName := ⟨RJ2, "length", "([B)I"⟩
abbrev cJ2_charAt_3b067 : ByteArray := prog_17_method_83_code
def yJ2_charAt_3b067 : MethodName := ⟨RJ2, "charAt", "([BI)C"⟩
abbrev cJ2_checkIndex_2214a : ByteArray := prog_17_method_91_code
def yJ2_checkIndex_2214a : MethodName := ⟨RJ2, "checkIndex", "(I[B)V"⟩
def RJ10 : String := "java/lang/System"
def RJ3 : String := "jdk/internal/util/Preconditions"
abbrev cJ3_checkIndex_8e157 : ByteArray := prog_20_method_11_code
def yJ3_checkIndex_8e157 : MethodName := ⟨RJ3, "checkIndex", "(IILjava/util/function/BiFunction;)I"⟩
def RL : String := "TemperingLineLaw"
abbrev cL_load : ByteArray := method_3_code
def yL_load : MethodName := ⟨RL, "load", "(LTemperingLine;I[J)I"⟩
abbrev cL_zone : ByteArray := method_4_code
def yL_zone : MethodName := ⟨RL, "zone", "(LTemperingLine;II[J)I"⟩
abbrev cL_thickness : ByteArray := method_5_code
def yL_thickness : MethodName := ⟨RL, "thickness", "(LTemperingLine;I[J)I"⟩
abbrev cL_temperature : ByteArray := method_6_code
def yL_temperature : MethodName := ⟨RL, "temperature", "(LTemperingLine;I[J)I"⟩
abbrev cL_state : ByteArray := method_7_code
def yL_state : MethodName := ⟨RL, "state", "(LTemperingLine;I[J)I"⟩
abbrev cL_count : ByteArray := method_8_code
def yL_count : MethodName := ⟨RL, "count", "(LTemperingLine;I[J)I"⟩
abbrev cL_learned : ByteArray := method_9_code
def yL_learned : MethodName := ⟨RL, "learned", "(LTemperingLine;II[J)I"⟩
abbrev cL_risk : ByteArray := method_10_code
def yL_risk : MethodName := ⟨RL, "risk", "(LTemperingLine;I[J)I"⟩
abbrev cL_recognise : ByteArray := method_11_code
def yL_recognise : MethodName := ⟨RL, "recognise", "(LTemperingLine;II[J)I"⟩
abbrev cL_guard : ByteArray := method_12_code
def yL_guard : MethodName := ⟨RL, "guard", "(LTemperingLine;I[J)I"⟩
abbrev cL_finishTime : ByteArray := method_13_code
def yL_finishTime : MethodName := ⟨RL, "finishTime", "(LTemperingLine;I[J)I"⟩
abbrev cL_stateAfter : ByteArray := method_14_code
def yL_stateAfter : MethodName := ⟨RL, "stateAfter", "(LTemperingLine;II[J)I"⟩
abbrev cL_add : ByteArray := method_15_code
def yL_add : MethodName := ⟨RL, "add", "(LTemperingLine;II[J)I"⟩
abbrev cL_run : ByteArray := method_16_code
def yL_run : MethodName := ⟨RL, "run", "(LTemperingLine;I[J)I"⟩
abbrev cL_setPoint : ByteArray := method_17_code
def yL_setPoint : MethodName := ⟨RL, "setPoint", "(LTemperingLine;II[J)I"⟩
abbrev cL_setCorrection : ByteArray := method_18_code
def yL_setCorrection : MethodName := ⟨RL, "setCorrection", "(LTemperingLine;II[J)I"⟩
abbrev cL_scrap : ByteArray := method_19_code
def yL_scrap : MethodName := ⟨RL, "scrap", "(LTemperingLine;I[J)I"⟩
abbrev cL_law : ByteArray := code
def yL_law : MethodName := ⟨RL, "law", "([I)Z"⟩
abbrev vwCl : List vw_C := [(RX0, TX0, 2), (RX1, TX1, 3), (RX2, TX2, 15), (RX3, TX3, 11), (RX4, TX4, 13), (RX5, TX5, 4), (RX6, TX6, 16)]
