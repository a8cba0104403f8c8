section
-- ===== PART A: goes FIRST, ahead of the names: the tables' words, and 'selects' of the private methods out of them =====
/-- a private method of a class that the tables say can be made, by its rows of tables_1 -/
def lw_okq (q : MethodName × Nat) : Prop := (q.1.cls ≠ "java/lang/invoke/MethodHandle" ∧ q.1.cls ≠ "java/lang/invoke/VarHandle") ∧ Cond.instantiable q.1.cls q.2 ∈ tables_1 ∧ Cond.privateMethod q.1 ∈ tables_1 ∧ Cond.instanceMethod q.1 ∈ tables_1
theorem lw_p0 : lw_okq (⟨"HeatStadium", "makeResults", "(LHeatStadium$Event;)V"⟩, 11) := ⟨⟨by decide +kernel, by decide +kernel⟩, List.mem_of_getElem? (i := 53) (by decide +kernel), List.mem_of_getElem? (i := 285) (by decide +kernel), List.mem_of_getElem? (i := 286) (by decide +kernel)⟩
theorem lw_p1 : lw_okq (⟨"HeatStadium$FieldNow", "make", "(LHeatStadium$Event;LHeatStadium$Athletes;)V"⟩, 5) := ⟨⟨by decide +kernel, by decide +kernel⟩, List.mem_of_getElem? (i := 113) (by decide +kernel), List.mem_of_getElem? (i := 289) (by decide +kernel), List.mem_of_getElem? (i := 290) (by decide +kernel)⟩
theorem lw_p2 : lw_okq (⟨"HeatStadium$FieldNow", "order", "(LHeatStadium$Event;LHeatStadium$Athletes;)I"⟩, 5) := ⟨⟨by decide +kernel, by decide +kernel⟩, List.mem_of_getElem? (i := 113) (by decide +kernel), List.mem_of_getElem? (i := 293) (by decide +kernel), List.mem_of_getElem? (i := 294) (by decide +kernel)⟩
theorem lw_p3 : lw_okq (⟨"HeatStadium$Event", "isQualified", "(I)Z"⟩, 13) := ⟨⟨by decide +kernel, by decide +kernel⟩, List.mem_of_getElem? (i := 299) (by decide +kernel), List.mem_of_getElem? (i := 297) (by decide +kernel), List.mem_of_getElem? (i := 298) (by decide +kernel)⟩
theorem lw_p4 : lw_okq (⟨"HeatStadium$Event", "worthOf", "(I)I"⟩, 13) := ⟨⟨by decide +kernel, by decide +kernel⟩, List.mem_of_getElem? (i := 299) (by decide +kernel), List.mem_of_getElem? (i := 302) (by decide +kernel), List.mem_of_getElem? (i := 303) (by decide +kernel)⟩
theorem lw_p5 : lw_okq (⟨"HeatStadium$FieldNow", "insert", "(LHeatStadium$Event;II)V"⟩, 5) := ⟨⟨by decide +kernel, by decide +kernel⟩, List.mem_of_getElem? (i := 113) (by decide +kernel), List.mem_of_getElem? (i := 306) (by decide +kernel), List.mem_of_getElem? (i := 307) (by decide +kernel)⟩
theorem lw_p6 : lw_okq (⟨"HeatStadium$Results", "clear", "()V"⟩, 4) := ⟨⟨by decide +kernel, by decide +kernel⟩, List.mem_of_getElem? (i := 181) (by decide +kernel), List.mem_of_getElem? (i := 311) (by decide +kernel), List.mem_of_getElem? (i := 312) (by decide +kernel)⟩
theorem lw_p7 : lw_okq (⟨"HeatStadium$RaceDraw", "make", "(LHeatStadium$Event;LHeatStadium$FieldNow;LHeatStadium$Athletes;)V"⟩, 8) := ⟨⟨by decide +kernel, by decide +kernel⟩, List.mem_of_getElem? (i := 144) (by decide +kernel), List.mem_of_getElem? (i := 315) (by decide +kernel), List.mem_of_getElem? (i := 316) (by decide +kernel)⟩
theorem lw_p8 : lw_okq (⟨"HeatStadium$RaceDraw", "takeAll", "(LHeatStadium$FieldNow;)V"⟩, 8) := ⟨⟨by decide +kernel, by decide +kernel⟩, List.mem_of_getElem? (i := 144) (by decide +kernel), List.mem_of_getElem? (i := 319) (by decide +kernel), List.mem_of_getElem? (i := 320) (by decide +kernel)⟩
theorem lw_p9 : lw_okq (⟨"HeatStadium$RaceDraw", "seed", "(LHeatStadium$FieldNow;LHeatStadium$Athletes;)V"⟩, 8) := ⟨⟨by decide +kernel, by decide +kernel⟩, List.mem_of_getElem? (i := 144) (by decide +kernel), List.mem_of_getElem? (i := 323) (by decide +kernel), List.mem_of_getElem? (i := 324) (by decide +kernel)⟩
theorem lw_p10 : lw_okq (⟨"HeatStadium$RaceDraw", "turnFor", "(II)I"⟩, 8) := ⟨⟨by decide +kernel, by decide +kernel⟩, List.mem_of_getElem? (i := 144) (by decide +kernel), List.mem_of_getElem? (i := 327) (by decide +kernel), List.mem_of_getElem? (i := 328) (by decide +kernel)⟩
theorem lw_p11 : lw_okq (⟨"HeatStadium$RaceDraw", "heatAt", "(I)I"⟩, 8) := ⟨⟨by decide +kernel, by decide +kernel⟩, List.mem_of_getElem? (i := 144) (by decide +kernel), List.mem_of_getElem? (i := 331) (by decide +kernel), List.mem_of_getElem? (i := 332) (by decide +kernel)⟩
theorem lw_p12 : lw_okq (⟨"HeatStadium$RaceDraw", "chooseFinalists", "(LHeatStadium$Event;LHeatStadium$FieldNow;)V"⟩, 8) := ⟨⟨by decide +kernel, by decide +kernel⟩, List.mem_of_getElem? (i := 144) (by decide +kernel), List.mem_of_getElem? (i := 335) (by decide +kernel), List.mem_of_getElem? (i := 336) (by decide +kernel)⟩
theorem lw_p13 : lw_okq (⟨"HeatStadium$Round", "counts", "(I)Z"⟩, 6) := ⟨⟨by decide +kernel, by decide +kernel⟩, List.mem_of_getElem? (i := 341) (by decide +kernel), List.mem_of_getElem? (i := 339) (by decide +kernel), List.mem_of_getElem? (i := 340) (by decide +kernel)⟩
theorem lw_p14 : lw_okq (⟨"HeatStadium$RaceDraw", "tierOf", "(LHeatStadium$FieldNow;I)I"⟩, 8) := ⟨⟨by decide +kernel, by decide +kernel⟩, List.mem_of_getElem? (i := 144) (by decide +kernel), List.mem_of_getElem? (i := 347) (by decide +kernel), List.mem_of_getElem? (i := 348) (by decide +kernel)⟩
theorem lw_p15 : lw_okq (⟨"HeatStadium$RaceDraw", "admit", "(I)V"⟩, 8) := ⟨⟨by decide +kernel, by decide +kernel⟩, List.mem_of_getElem? (i := 144) (by decide +kernel), List.mem_of_getElem? (i := 351) (by decide +kernel), List.mem_of_getElem? (i := 352) (by decide +kernel)⟩
def lw_privs_1 : List (MethodName × Nat) := [(⟨"HeatStadium", "makeResults", "(LHeatStadium$Event;)V"⟩, 11), (⟨"HeatStadium$FieldNow", "make", "(LHeatStadium$Event;LHeatStadium$Athletes;)V"⟩, 5), (⟨"HeatStadium$FieldNow", "order", "(LHeatStadium$Event;LHeatStadium$Athletes;)I"⟩, 5), (⟨"HeatStadium$Event", "isQualified", "(I)Z"⟩, 13), (⟨"HeatStadium$Event", "worthOf", "(I)I"⟩, 13), (⟨"HeatStadium$FieldNow", "insert", "(LHeatStadium$Event;II)V"⟩, 5), (⟨"HeatStadium$Results", "clear", "()V"⟩, 4), (⟨"HeatStadium$RaceDraw", "make", "(LHeatStadium$Event;LHeatStadium$FieldNow;LHeatStadium$Athletes;)V"⟩, 8), (⟨"HeatStadium$RaceDraw", "takeAll", "(LHeatStadium$FieldNow;)V"⟩, 8), (⟨"HeatStadium$RaceDraw", "seed", "(LHeatStadium$FieldNow;LHeatStadium$Athletes;)V"⟩, 8), (⟨"HeatStadium$RaceDraw", "turnFor", "(II)I"⟩, 8), (⟨"HeatStadium$RaceDraw", "heatAt", "(I)I"⟩, 8), (⟨"HeatStadium$RaceDraw", "chooseFinalists", "(LHeatStadium$Event;LHeatStadium$FieldNow;)V"⟩, 8), (⟨"HeatStadium$Round", "counts", "(I)Z"⟩, 6), (⟨"HeatStadium$RaceDraw", "tierOf", "(LHeatStadium$FieldNow;I)I"⟩, 8), (⟨"HeatStadium$RaceDraw", "admit", "(I)V"⟩, 8)]
theorem lw_r1 : ∀ q ∈ lw_privs_1, lw_okq q := List.forall_mem_cons.mpr ⟨lw_p0, List.forall_mem_cons.mpr ⟨lw_p1, List.forall_mem_cons.mpr ⟨lw_p2, List.forall_mem_cons.mpr ⟨lw_p3, List.forall_mem_cons.mpr ⟨lw_p4, List.forall_mem_cons.mpr ⟨lw_p5, List.forall_mem_cons.mpr ⟨lw_p6, List.forall_mem_cons.mpr ⟨lw_p7, List.forall_mem_cons.mpr ⟨lw_p8, List.forall_mem_cons.mpr ⟨lw_p9, List.forall_mem_cons.mpr ⟨lw_p10, List.forall_mem_cons.mpr ⟨lw_p11, List.forall_mem_cons.mpr ⟨lw_p12, List.forall_mem_cons.mpr ⟨lw_p13, List.forall_mem_cons.mpr ⟨lw_p14, List.forall_mem_cons.mpr ⟨lw_p15, fun _ h => absurd h List.not_mem_nil⟩⟩⟩⟩⟩⟩⟩⟩⟩⟩⟩⟩⟩⟩⟩⟩
theorem lw_p16 : lw_okq (⟨"HeatStadium$RaceDraw", "cameOutAhead", "(II)Z"⟩, 8) := ⟨⟨by decide +kernel, by decide +kernel⟩, List.mem_of_getElem? (i := 144) (by decide +kernel), List.mem_of_getElem? (i := 355) (by decide +kernel), List.mem_of_getElem? (i := 356) (by decide +kernel)⟩
theorem lw_p17 : lw_okq (⟨"HeatStadium$Results", "ofFinal", "(LHeatStadium$Round;LHeatStadium$RaceDraw;)V"⟩, 4) := ⟨⟨by decide +kernel, by decide +kernel⟩, List.mem_of_getElem? (i := 181) (by decide +kernel), List.mem_of_getElem? (i := 359) (by decide +kernel), List.mem_of_getElem? (i := 360) (by decide +kernel)⟩
theorem lw_p18 : lw_okq (⟨"HeatStadium$Results", "ofJumps", "(LHeatStadium$Jumps;LHeatStadium$FieldNow;)V"⟩, 4) := ⟨⟨by decide +kernel, by decide +kernel⟩, List.mem_of_getElem? (i := 181) (by decide +kernel), List.mem_of_getElem? (i := 364) (by decide +kernel), List.mem_of_getElem? (i := 365) (by decide +kernel)⟩
theorem lw_p19 : lw_okq (⟨"HeatStadium$Jumps", "highestCleared", "(I)I"⟩, 6) := ⟨⟨by decide +kernel, by decide +kernel⟩, List.mem_of_getElem? (i := 370) (by decide +kernel), List.mem_of_getElem? (i := 368) (by decide +kernel), List.mem_of_getElem? (i := 369) (by decide +kernel)⟩
theorem lw_p20 : lw_okq (⟨"HeatStadium$Jumps", "failuresUpTo", "(II)I"⟩, 6) := ⟨⟨by decide +kernel, by decide +kernel⟩, List.mem_of_getElem? (i := 370) (by decide +kernel), List.mem_of_getElem? (i := 373) (by decide +kernel), List.mem_of_getElem? (i := 374) (by decide +kernel)⟩
theorem lw_p21 : lw_okq (⟨"HeatStadium$Results", "ofThrows", "(LHeatStadium$Throws;LHeatStadium$FieldNow;)V"⟩, 4) := ⟨⟨by decide +kernel, by decide +kernel⟩, List.mem_of_getElem? (i := 181) (by decide +kernel), List.mem_of_getElem? (i := 377) (by decide +kernel), List.mem_of_getElem? (i := 378) (by decide +kernel)⟩
theorem lw_p22 : lw_okq (⟨"HeatStadium$Results", "takeThrows", "(LHeatStadium$Throws;II)V"⟩, 4) := ⟨⟨by decide +kernel, by decide +kernel⟩, List.mem_of_getElem? (i := 181) (by decide +kernel), List.mem_of_getElem? (i := 381) (by decide +kernel), List.mem_of_getElem? (i := 382) (by decide +kernel)⟩
theorem lw_p23 : lw_okq (⟨"HeatStadium$Results", "countBetter", "(LHeatStadium$FieldNow;I)I"⟩, 4) := ⟨⟨by decide +kernel, by decide +kernel⟩, List.mem_of_getElem? (i := 181) (by decide +kernel), List.mem_of_getElem? (i := 385) (by decide +kernel), List.mem_of_getElem? (i := 386) (by decide +kernel)⟩
theorem lw_p24 : lw_okq (⟨"HeatStadium$Results", "isBetter", "(II)Z"⟩, 4) := ⟨⟨by decide +kernel, by decide +kernel⟩, List.mem_of_getElem? (i := 181) (by decide +kernel), List.mem_of_getElem? (i := 389) (by decide +kernel), List.mem_of_getElem? (i := 390) (by decide +kernel)⟩
theorem lw_p25 : lw_okq (⟨"HeatStadium$Results", "rankAll", "(LHeatStadium$FieldNow;)V"⟩, 4) := ⟨⟨by decide +kernel, by decide +kernel⟩, List.mem_of_getElem? (i := 181) (by decide +kernel), List.mem_of_getElem? (i := 393) (by decide +kernel), List.mem_of_getElem? (i := 394) (by decide +kernel)⟩
theorem lw_p26 : lw_okq (⟨"HeatStadium$Results", "areWithin", "(LHeatStadium$FieldNow;)Z"⟩, 4) := ⟨⟨by decide +kernel, by decide +kernel⟩, List.mem_of_getElem? (i := 181) (by decide +kernel), List.mem_of_getElem? (i := 397) (by decide +kernel), List.mem_of_getElem? (i := 398) (by decide +kernel)⟩
theorem lw_p27 : lw_okq (⟨"HeatStadium$RaceDraw", "hasLanesOfTheirOwn", "()Z"⟩, 8) := ⟨⟨by decide +kernel, by decide +kernel⟩, List.mem_of_getElem? (i := 144) (by decide +kernel), List.mem_of_getElem? (i := 401) (by decide +kernel), List.mem_of_getElem? (i := 402) (by decide +kernel)⟩
theorem lw_p28 : lw_okq (⟨"HeatStadium$RaceDraw", "placeInFinal", "(I)I"⟩, 8) := ⟨⟨by decide +kernel, by decide +kernel⟩, List.mem_of_getElem? (i := 144) (by decide +kernel), List.mem_of_getElem? (i := 405) (by decide +kernel), List.mem_of_getElem? (i := 406) (by decide +kernel)⟩
theorem lw_p29 : lw_okq (⟨"HeatStadium", "countMedals", "()V"⟩, 11) := ⟨⟨by decide +kernel, by decide +kernel⟩, List.mem_of_getElem? (i := 53) (by decide +kernel), List.mem_of_getElem? (i := 411) (by decide +kernel), List.mem_of_getElem? (i := 412) (by decide +kernel)⟩
theorem lw_p30 : lw_okq (⟨"HeatStadium$MedalTable", "clear", "()V"⟩, 2) := ⟨⟨by decide +kernel, by decide +kernel⟩, List.mem_of_getElem? (i := 231) (by decide +kernel), List.mem_of_getElem? (i := 415) (by decide +kernel), List.mem_of_getElem? (i := 416) (by decide +kernel)⟩
theorem lw_p31 : lw_okq (⟨"HeatStadium$MedalTable", "give", "(II)V"⟩, 2) := ⟨⟨by decide +kernel, by decide +kernel⟩, List.mem_of_getElem? (i := 231) (by decide +kernel), List.mem_of_getElem? (i := 419) (by decide +kernel), List.mem_of_getElem? (i := 420) (by decide +kernel)⟩
def lw_privs_2 : List (MethodName × Nat) := [(⟨"HeatStadium$RaceDraw", "cameOutAhead", "(II)Z"⟩, 8), (⟨"HeatStadium$Results", "ofFinal", "(LHeatStadium$Round;LHeatStadium$RaceDraw;)V"⟩, 4), (⟨"HeatStadium$Results", "ofJumps", "(LHeatStadium$Jumps;LHeatStadium$FieldNow;)V"⟩, 4), (⟨"HeatStadium$Jumps", "highestCleared", "(I)I"⟩, 6), (⟨"HeatStadium$Jumps", "failuresUpTo", "(II)I"⟩, 6), (⟨"HeatStadium$Results", "ofThrows", "(LHeatStadium$Throws;LHeatStadium$FieldNow;)V"⟩, 4), (⟨"HeatStadium$Results", "takeThrows", "(LHeatStadium$Throws;II)V"⟩, 4), (⟨"HeatStadium$Results", "countBetter", "(LHeatStadium$FieldNow;I)I"⟩, 4), (⟨"HeatStadium$Results", "isBetter", "(II)Z"⟩, 4), (⟨"HeatStadium$Results", "rankAll", "(LHeatStadium$FieldNow;)V"⟩, 4), (⟨"HeatStadium$Results", "areWithin", "(LHeatStadium$FieldNow;)Z"⟩, 4), (⟨"HeatStadium$RaceDraw", "hasLanesOfTheirOwn", "()Z"⟩, 8), (⟨"HeatStadium$RaceDraw", "placeInFinal", "(I)I"⟩, 8), (⟨"HeatStadium", "countMedals", "()V"⟩, 11), (⟨"HeatStadium$MedalTable", "clear", "()V"⟩, 2), (⟨"HeatStadium$MedalTable", "give", "(II)V"⟩, 2)]
theorem lw_r2 : ∀ q ∈ lw_privs_2, lw_okq q := List.forall_mem_cons.mpr ⟨lw_p16, List.forall_mem_cons.mpr ⟨lw_p17, List.forall_mem_cons.mpr ⟨lw_p18, List.forall_mem_cons.mpr ⟨lw_p19, List.forall_mem_cons.mpr ⟨lw_p20, List.forall_mem_cons.mpr ⟨lw_p21, List.forall_mem_cons.mpr ⟨lw_p22, List.forall_mem_cons.mpr ⟨lw_p23, List.forall_mem_cons.mpr ⟨lw_p24, List.forall_mem_cons.mpr ⟨lw_p25, List.forall_mem_cons.mpr ⟨lw_p26, List.forall_mem_cons.mpr ⟨lw_p27, List.forall_mem_cons.mpr ⟨lw_p28, List.forall_mem_cons.mpr ⟨lw_p29, List.forall_mem_cons.mpr ⟨lw_p30, List.forall_mem_cons.mpr ⟨lw_p31, fun _ h => absurd h List.not_mem_nil⟩⟩⟩⟩⟩⟩⟩⟩⟩⟩⟩⟩⟩⟩⟩⟩
theorem lw_p32 : lw_okq (⟨"HeatStadium$MedalTable", "sumOfNations", "()I"⟩, 2) := ⟨⟨by decide +kernel, by decide +kernel⟩, List.mem_of_getElem? (i := 231) (by decide +kernel), List.mem_of_getElem? (i := 423) (by decide +kernel), List.mem_of_getElem? (i := 424) (by decide +kernel)⟩
theorem lw_p33 : lw_okq (⟨"java/lang/Throwable", "fillInStackTrace", "(I)Ljava/lang/Throwable;"⟩, 6) := ⟨⟨by decide +kernel, by decide +kernel⟩, List.mem_of_getElem? (i := 481) (by decide +kernel), List.mem_of_getElem? (i := 479) (by decide +kernel), List.mem_of_getElem? (i := 480) (by decide +kernel)⟩
theorem lw_p34 : lw_okq (⟨"HeatStadium", "eventFor", "(II)LHeatStadium$Event;"⟩, 11) := ⟨⟨by decide +kernel, by decide +kernel⟩, List.mem_of_getElem? (i := 53) (by decide +kernel), List.mem_of_getElem? (i := 713) (by decide +kernel), List.mem_of_getElem? (i := 714) (by decide +kernel)⟩
theorem lw_p35 : lw_okq (⟨"HeatStadium", "eventAt", "(I)LHeatStadium$Event;"⟩, 11) := ⟨⟨by decide +kernel, by decide +kernel⟩, List.mem_of_getElem? (i := 53) (by decide +kernel), List.mem_of_getElem? (i := 717) (by decide +kernel), List.mem_of_getElem? (i := 718) (by decide +kernel)⟩
theorem lw_p36 : lw_okq (⟨"HeatStadium", "requireAthlete", "(I)V"⟩, 11) := ⟨⟨by decide +kernel, by decide +kernel⟩, List.mem_of_getElem? (i := 53) (by decide +kernel), List.mem_of_getElem? (i := 734) (by decide +kernel), List.mem_of_getElem? (i := 735) (by decide +kernel)⟩
theorem lw_p37 : lw_okq (⟨"HeatStadium", "drawRace", "(LHeatStadium$Event;)V"⟩, 11) := ⟨⟨by decide +kernel, by decide +kernel⟩, List.mem_of_getElem? (i := 53) (by decide +kernel), List.mem_of_getElem? (i := 816) (by decide +kernel), List.mem_of_getElem? (i := 817) (by decide +kernel)⟩
theorem lw_p38 : lw_okq (⟨"HeatStadium", "raceFor", "(III)LHeatStadium$Event;"⟩, 11) := ⟨⟨by decide +kernel, by decide +kernel⟩, List.mem_of_getElem? (i := 53) (by decide +kernel), List.mem_of_getElem? (i := 828) (by decide +kernel), List.mem_of_getElem? (i := 829) (by decide +kernel)⟩
theorem lw_p39 : lw_okq (⟨"HeatStadium$RaceDraw", "placeInHeat", "(LHeatStadium$FieldNow;I)I"⟩, 8) := ⟨⟨by decide +kernel, by decide +kernel⟩, List.mem_of_getElem? (i := 144) (by decide +kernel), List.mem_of_getElem? (i := 832) (by decide +kernel), List.mem_of_getElem? (i := 833) (by decide +kernel)⟩
theorem lw_p40 : lw_okq (⟨"HeatStadium$Event", "marksOf", "(I)LHeatStadium$Round;"⟩, 13) := ⟨⟨by decide +kernel, by decide +kernel⟩, List.mem_of_getElem? (i := 299) (by decide +kernel), List.mem_of_getElem? (i := 846) (by decide +kernel), List.mem_of_getElem? (i := 847) (by decide +kernel)⟩
theorem lw_p41 : lw_okq (⟨"HeatStadium", "nextMark", "()I"⟩, 11) := ⟨⟨by decide +kernel, by decide +kernel⟩, List.mem_of_getElem? (i := 53) (by decide +kernel), List.mem_of_getElem? (i := 850) (by decide +kernel), List.mem_of_getElem? (i := 851) (by decide +kernel)⟩
theorem lw_p42 : lw_okq (⟨"HeatStadium$Round", "exclude", "(II)Z"⟩, 6) := ⟨⟨by decide +kernel, by decide +kernel⟩, List.mem_of_getElem? (i := 341) (by decide +kernel), List.mem_of_getElem? (i := 862) (by decide +kernel), List.mem_of_getElem? (i := 863) (by decide +kernel)⟩
theorem lw_p43 : lw_okq (⟨"HeatStadium$Jumps", "lastHeight", "()I"⟩, 6) := ⟨⟨by decide +kernel, by decide +kernel⟩, List.mem_of_getElem? (i := 370) (by decide +kernel), List.mem_of_getElem? (i := 895) (by decide +kernel), List.mem_of_getElem? (i := 896) (by decide +kernel)⟩
theorem lw_p44 : lw_okq (⟨"HeatStadium$Jumps", "hasTrial", "(I)Z"⟩, 6) := ⟨⟨by decide +kernel, by decide +kernel⟩, List.mem_of_getElem? (i := 370) (by decide +kernel), List.mem_of_getElem? (i := 908) (by decide +kernel), List.mem_of_getElem? (i := 909) (by decide +kernel)⟩
theorem lw_p45 : lw_okq (⟨"HeatStadium$Jumps", "mark", "(ICI)V"⟩, 6) := ⟨⟨by decide +kernel, by decide +kernel⟩, List.mem_of_getElem? (i := 370) (by decide +kernel), List.mem_of_getElem? (i := 913) (by decide +kernel), List.mem_of_getElem? (i := 914) (by decide +kernel)⟩
theorem lw_p46 : lw_okq (⟨"HeatStadium$Event", "resultFrom", "(I)I"⟩, 13) := ⟨⟨by decide +kernel, by decide +kernel⟩, List.mem_of_getElem? (i := 299) (by decide +kernel), List.mem_of_getElem? (i := 941) (by decide +kernel), List.mem_of_getElem? (i := 942) (by decide +kernel)⟩
theorem lw_p47 : lw_okq (⟨"HeatStadium$Protests", "add", "(LHeatStadium$Round;I)I"⟩, 5) := ⟨⟨by decide +kernel, by decide +kernel⟩, List.mem_of_getElem? (i := 86) (by decide +kernel), List.mem_of_getElem? (i := 955) (by decide +kernel), List.mem_of_getElem? (i := 956) (by decide +kernel)⟩
def lw_privs_3 : List (MethodName × Nat) := [(⟨"HeatStadium$MedalTable", "sumOfNations", "()I"⟩, 2), (⟨"java/lang/Throwable", "fillInStackTrace", "(I)Ljava/lang/Throwable;"⟩, 6), (⟨"HeatStadium", "eventFor", "(II)LHeatStadium$Event;"⟩, 11), (⟨"HeatStadium", "eventAt", "(I)LHeatStadium$Event;"⟩, 11), (⟨"HeatStadium", "requireAthlete", "(I)V"⟩, 11), (⟨"HeatStadium", "drawRace", "(LHeatStadium$Event;)V"⟩, 11), (⟨"HeatStadium", "raceFor", "(III)LHeatStadium$Event;"⟩, 11), (⟨"HeatStadium$RaceDraw", "placeInHeat", "(LHeatStadium$FieldNow;I)I"⟩, 8), (⟨"HeatStadium$Event", "marksOf", "(I)LHeatStadium$Round;"⟩, 13), (⟨"HeatStadium", "nextMark", "()I"⟩, 11), (⟨"HeatStadium$Round", "exclude", "(II)Z"⟩, 6), (⟨"HeatStadium$Jumps", "lastHeight", "()I"⟩, 6), (⟨"HeatStadium$Jumps", "hasTrial", "(I)Z"⟩, 6), (⟨"HeatStadium$Jumps", "mark", "(ICI)V"⟩, 6), (⟨"HeatStadium$Event", "resultFrom", "(I)I"⟩, 13), (⟨"HeatStadium$Protests", "add", "(LHeatStadium$Round;I)I"⟩, 5)]
theorem lw_r3 : ∀ q ∈ lw_privs_3, lw_okq q := List.forall_mem_cons.mpr ⟨lw_p32, List.forall_mem_cons.mpr ⟨lw_p33, List.forall_mem_cons.mpr ⟨lw_p34, List.forall_mem_cons.mpr ⟨lw_p35, List.forall_mem_cons.mpr ⟨lw_p36, List.forall_mem_cons.mpr ⟨lw_p37, List.forall_mem_cons.mpr ⟨lw_p38, List.forall_mem_cons.mpr ⟨lw_p39, List.forall_mem_cons.mpr ⟨lw_p40, List.forall_mem_cons.mpr ⟨lw_p41, List.forall_mem_cons.mpr ⟨lw_p42, List.forall_mem_cons.mpr ⟨lw_p43, List.forall_mem_cons.mpr ⟨lw_p44, List.forall_mem_cons.mpr ⟨lw_p45, List.forall_mem_cons.mpr ⟨lw_p46, List.forall_mem_cons.mpr ⟨lw_p47, fun _ h => absurd h List.not_mem_nil⟩⟩⟩⟩⟩⟩⟩⟩⟩⟩⟩⟩⟩⟩⟩⟩
theorem lw_p48 : lw_okq (⟨"HeatStadium$Protests", "settle", "(IZ)V"⟩, 5) := ⟨⟨by decide +kernel, by decide +kernel⟩, List.mem_of_getElem? (i := 86) (by decide +kernel), List.mem_of_getElem? (i := 968) (by decide +kernel), List.mem_of_getElem? (i := 969) (by decide +kernel)⟩
theorem lw_p49 : lw_okq (⟨"HeatStadium", "seekRecord", "(LHeatStadium$Event;)V"⟩, 11) := ⟨⟨by decide +kernel, by decide +kernel⟩, List.mem_of_getElem? (i := 53) (by decide +kernel), List.mem_of_getElem? (i := 994) (by decide +kernel), List.mem_of_getElem? (i := 995) (by decide +kernel)⟩
theorem lw_p50 : lw_okq (⟨"HeatStadium$RecordMark", "clear", "()V"⟩, 5) := ⟨⟨by decide +kernel, by decide +kernel⟩, List.mem_of_getElem? (i := 206) (by decide +kernel), List.mem_of_getElem? (i := 998) (by decide +kernel), List.mem_of_getElem? (i := 999) (by decide +kernel)⟩
theorem lw_p51 : lw_okq (⟨"HeatStadium", "seekInRace", "(LHeatStadium$Event;I)V"⟩, 11) := ⟨⟨by decide +kernel, by decide +kernel⟩, List.mem_of_getElem? (i := 53) (by decide +kernel), List.mem_of_getElem? (i := 1002) (by decide +kernel), List.mem_of_getElem? (i := 1003) (by decide +kernel)⟩
theorem lw_p52 : lw_okq (⟨"HeatStadium$Round", "countsForRecord", "(I)Z"⟩, 6) := ⟨⟨by decide +kernel, by decide +kernel⟩, List.mem_of_getElem? (i := 341) (by decide +kernel), List.mem_of_getElem? (i := 1006) (by decide +kernel), List.mem_of_getElem? (i := 1007) (by decide +kernel)⟩
theorem lw_p53 : lw_okq (⟨"HeatStadium$RecordMark", "consider", "(III)V"⟩, 5) := ⟨⟨by decide +kernel, by decide +kernel⟩, List.mem_of_getElem? (i := 206) (by decide +kernel), List.mem_of_getElem? (i := 1011) (by decide +kernel), List.mem_of_getElem? (i := 1012) (by decide +kernel)⟩
theorem lw_p54 : lw_okq (⟨"HeatStadium", "seekInJumps", "(LHeatStadium$Jumps;I)V"⟩, 11) := ⟨⟨by decide +kernel, by decide +kernel⟩, List.mem_of_getElem? (i := 53) (by decide +kernel), List.mem_of_getElem? (i := 1015) (by decide +kernel), List.mem_of_getElem? (i := 1016) (by decide +kernel)⟩
theorem lw_p55 : lw_okq (⟨"HeatStadium", "seekInThrows", "(LHeatStadium$Throws;I)V"⟩, 11) := ⟨⟨by decide +kernel, by decide +kernel⟩, List.mem_of_getElem? (i := 53) (by decide +kernel), List.mem_of_getElem? (i := 1020) (by decide +kernel), List.mem_of_getElem? (i := 1021) (by decide +kernel)⟩
theorem lw_p56 : lw_okq (⟨"HeatStadium", "requireRecord", "()V"⟩, 11) := ⟨⟨by decide +kernel, by decide +kernel⟩, List.mem_of_getElem? (i := 53) (by decide +kernel), List.mem_of_getElem? (i := 1024) (by decide +kernel), List.mem_of_getElem? (i := 1025) (by decide +kernel)⟩
theorem lw_p57 : lw_okq (⟨"HeatStadium$MedalTable", "nationAt", "(IZ)I"⟩, 2) := ⟨⟨by decide +kernel, by decide +kernel⟩, List.mem_of_getElem? (i := 231) (by decide +kernel), List.mem_of_getElem? (i := 1057) (by decide +kernel), List.mem_of_getElem? (i := 1058) (by decide +kernel)⟩
theorem lw_p58 : lw_okq (⟨"HeatStadium$MedalTable", "isAhead", "(IIZ)Z"⟩, 2) := ⟨⟨by decide +kernel, by decide +kernel⟩, List.mem_of_getElem? (i := 231) (by decide +kernel), List.mem_of_getElem? (i := 1061) (by decide +kernel), List.mem_of_getElem? (i := 1062) (by decide +kernel)⟩
theorem lw_p59 : lw_okq (⟨"HeatStadium$Results", "pointsFor", "(I)D"⟩, 4) := ⟨⟨by decide +kernel, by decide +kernel⟩, List.mem_of_getElem? (i := 181) (by decide +kernel), List.mem_of_getElem? (i := 1072) (by decide +kernel), List.mem_of_getElem? (i := 1073) (by decide +kernel)⟩
theorem lw_p60 : lw_okq (⟨"java/util/ArrayList", "add", "(Ljava/lang/Object;[Ljava/lang/Object;I)V"⟩, 3) := ⟨⟨by decide +kernel, by decide +kernel⟩, List.mem_of_getElem? (i := 1112) (by decide +kernel), List.mem_of_getElem? (i := 1205) (by decide +kernel), List.mem_of_getElem? (i := 1206) (by decide +kernel)⟩
theorem lw_p61 : lw_okq (⟨"java/util/ArrayList", "grow", "()[Ljava/lang/Object;"⟩, 3) := ⟨⟨by decide +kernel, by decide +kernel⟩, List.mem_of_getElem? (i := 1112) (by decide +kernel), List.mem_of_getElem? (i := 1209) (by decide +kernel), List.mem_of_getElem? (i := 1210) (by decide +kernel)⟩
theorem lw_p62 : lw_okq (⟨"java/util/ArrayList", "grow", "(I)[Ljava/lang/Object;"⟩, 3) := ⟨⟨by decide +kernel, by decide +kernel⟩, List.mem_of_getElem? (i := 1112) (by decide +kernel), List.mem_of_getElem? (i := 1213) (by decide +kernel), List.mem_of_getElem? (i := 1214) (by decide +kernel)⟩
theorem lw_p63 : lw_okq (⟨"HeatStadiumModel", "noPair", "(II)Z"⟩, 8) := ⟨⟨by decide +kernel, by decide +kernel⟩, List.mem_of_getElem? (i := 1106) (by decide +kernel), List.mem_of_getElem? (i := 1418) (by decide +kernel), List.mem_of_getElem? (i := 1419) (by decide +kernel)⟩
def lw_privs_4 : List (MethodName × Nat) := [(⟨"HeatStadium$Protests", "settle", "(IZ)V"⟩, 5), (⟨"HeatStadium", "seekRecord", "(LHeatStadium$Event;)V"⟩, 11), (⟨"HeatStadium$RecordMark", "clear", "()V"⟩, 5), (⟨"HeatStadium", "seekInRace", "(LHeatStadium$Event;I)V"⟩, 11), (⟨"HeatStadium$Round", "countsForRecord", "(I)Z"⟩, 6), (⟨"HeatStadium$RecordMark", "consider", "(III)V"⟩, 5), (⟨"HeatStadium", "seekInJumps", "(LHeatStadium$Jumps;I)V"⟩, 11), (⟨"HeatStadium", "seekInThrows", "(LHeatStadium$Throws;I)V"⟩, 11), (⟨"HeatStadium", "requireRecord", "()V"⟩, 11), (⟨"HeatStadium$MedalTable", "nationAt", "(IZ)I"⟩, 2), (⟨"HeatStadium$MedalTable", "isAhead", "(IIZ)Z"⟩, 2), (⟨"HeatStadium$Results", "pointsFor", "(I)D"⟩, 4), (⟨"java/util/ArrayList", "add", "(Ljava/lang/Object;[Ljava/lang/Object;I)V"⟩, 3), (⟨"java/util/ArrayList", "grow", "()[Ljava/lang/Object;"⟩, 3), (⟨"java/util/ArrayList", "grow", "(I)[Ljava/lang/Object;"⟩, 3), (⟨"HeatStadiumModel", "noPair", "(II)Z"⟩, 8)]
theorem lw_r4 : ∀ q ∈ lw_privs_4, lw_okq q := List.forall_mem_cons.mpr ⟨lw_p48, List.forall_mem_cons.mpr ⟨lw_p49, List.forall_mem_cons.mpr ⟨lw_p50, List.forall_mem_cons.mpr ⟨lw_p51, List.forall_mem_cons.mpr ⟨lw_p52, List.forall_mem_cons.mpr ⟨lw_p53, List.forall_mem_cons.mpr ⟨lw_p54, List.forall_mem_cons.mpr ⟨lw_p55, List.forall_mem_cons.mpr ⟨lw_p56, List.forall_mem_cons.mpr ⟨lw_p57, List.forall_mem_cons.mpr ⟨lw_p58, List.forall_mem_cons.mpr ⟨lw_p59, List.forall_mem_cons.mpr ⟨lw_p60, List.forall_mem_cons.mpr ⟨lw_p61, List.forall_mem_cons.mpr ⟨lw_p62, List.forall_mem_cons.mpr ⟨lw_p63, fun _ h => absurd h List.not_mem_nil⟩⟩⟩⟩⟩⟩⟩⟩⟩⟩⟩⟩⟩⟩⟩⟩
theorem lw_p64 : lw_okq (⟨"HeatStadiumModel", "isEvent", "(I)Z"⟩, 8) := ⟨⟨by decide +kernel, by decide +kernel⟩, List.mem_of_getElem? (i := 1106) (by decide +kernel), List.mem_of_getElem? (i := 1422) (by decide +kernel), List.mem_of_getElem? (i := 1423) (by decide +kernel)⟩
theorem lw_p65 : lw_okq (⟨"HeatStadiumModel", "isAthlete", "(I)Z"⟩, 8) := ⟨⟨by decide +kernel, by decide +kernel⟩, List.mem_of_getElem? (i := 1106) (by decide +kernel), List.mem_of_getElem? (i := 1426) (by decide +kernel), List.mem_of_getElem? (i := 1427) (by decide +kernel)⟩
theorem lw_p66 : lw_okq (⟨"HeatStadiumModel", "noEvent", "(I)Z"⟩, 8) := ⟨⟨by decide +kernel, by decide +kernel⟩, List.mem_of_getElem? (i := 1106) (by decide +kernel), List.mem_of_getElem? (i := 1569) (by decide +kernel), List.mem_of_getElem? (i := 1570) (by decide +kernel)⟩
theorem lw_p67 : lw_okq (⟨"HeatStadiumModel", "fieldOf", "(LHeatStadiumModel$Event;)Ljava/util/ArrayList;"⟩, 8) := ⟨⟨by decide +kernel, by decide +kernel⟩, List.mem_of_getElem? (i := 1106) (by decide +kernel), List.mem_of_getElem? (i := 1573) (by decide +kernel), List.mem_of_getElem? (i := 1574) (by decide +kernel)⟩
theorem lw_p68 : lw_okq (⟨"HeatStadiumModel", "ready", "(LHeatStadiumModel$Event;)Ljava/util/ArrayList;"⟩, 8) := ⟨⟨by decide +kernel, by decide +kernel⟩, List.mem_of_getElem? (i := 1106) (by decide +kernel), List.mem_of_getElem? (i := 1577) (by decide +kernel), List.mem_of_getElem? (i := 1578) (by decide +kernel)⟩
theorem lw_p69 : lw_okq (⟨"java/util/ArrayList", "rangeCheckForAdd", "(I)V"⟩, 3) := ⟨⟨by decide +kernel, by decide +kernel⟩, List.mem_of_getElem? (i := 1112) (by decide +kernel), List.mem_of_getElem? (i := 1594) (by decide +kernel), List.mem_of_getElem? (i := 1595) (by decide +kernel)⟩
theorem lw_p70 : lw_okq (⟨"java/util/ArrayList", "outOfBoundsMsg", "(I)Ljava/lang/String;"⟩, 3) := ⟨⟨by decide +kernel, by decide +kernel⟩, List.mem_of_getElem? (i := 1112) (by decide +kernel), List.mem_of_getElem? (i := 1599) (by decide +kernel), List.mem_of_getElem? (i := 1600) (by decide +kernel)⟩
theorem lw_p71 : lw_okq (⟨"HeatStadiumModel", "heatsOf", "(LHeatStadiumModel$Event;)Ljava/util/ArrayList;"⟩, 8) := ⟨⟨by decide +kernel, by decide +kernel⟩, List.mem_of_getElem? (i := 1106) (by decide +kernel), List.mem_of_getElem? (i := 1819) (by decide +kernel), List.mem_of_getElem? (i := 1820) (by decide +kernel)⟩
theorem lw_p72 : lw_okq (⟨"HeatStadiumModel", "isIn", "(Ljava/util/ArrayList;I)Z"⟩, 8) := ⟨⟨by decide +kernel, by decide +kernel⟩, List.mem_of_getElem? (i := 1106) (by decide +kernel), List.mem_of_getElem? (i := 1826) (by decide +kernel), List.mem_of_getElem? (i := 1827) (by decide +kernel)⟩
theorem lw_p73 : lw_okq (⟨"HeatStadiumModel", "race", "(III)LHeatStadiumModel$Event;"⟩, 8) := ⟨⟨by decide +kernel, by decide +kernel⟩, List.mem_of_getElem? (i := 1106) (by decide +kernel), List.mem_of_getElem? (i := 1834) (by decide +kernel), List.mem_of_getElem? (i := 1835) (by decide +kernel)⟩
theorem lw_p74 : lw_okq (⟨"HeatStadiumModel", "finalOf", "(LHeatStadiumModel$Event;)Ljava/util/ArrayList;"⟩, 8) := ⟨⟨by decide +kernel, by decide +kernel⟩, List.mem_of_getElem? (i := 1106) (by decide +kernel), List.mem_of_getElem? (i := 1838) (by decide +kernel), List.mem_of_getElem? (i := 1839) (by decide +kernel)⟩
theorem lw_p75 : lw_okq (⟨"HeatStadiumModel", "goesOut", "(LHeatStadiumModel$Entry;I)V"⟩, 8) := ⟨⟨by decide +kernel, by decide +kernel⟩, List.mem_of_getElem? (i := 1106) (by decide +kernel), List.mem_of_getElem? (i := 1904) (by decide +kernel), List.mem_of_getElem? (i := 1905) (by decide +kernel)⟩
theorem lw_p76 : lw_okq (⟨"HeatStadiumModel", "ranks", "(LHeatStadiumModel$Event;)[I"⟩, 8) := ⟨⟨by decide +kernel, by decide +kernel⟩, List.mem_of_getElem? (i := 1106) (by decide +kernel), List.mem_of_getElem? (i := 1971) (by decide +kernel), List.mem_of_getElem? (i := 1972) (by decide +kernel)⟩
theorem lw_p77 : lw_okq (⟨"HeatStadiumModel", "worths", "(LHeatStadiumModel$Event;)[[I"⟩, 8) := ⟨⟨by decide +kernel, by decide +kernel⟩, List.mem_of_getElem? (i := 1106) (by decide +kernel), List.mem_of_getElem? (i := 1975) (by decide +kernel), List.mem_of_getElem? (i := 1976) (by decide +kernel)⟩
theorem lw_p78 : lw_okq (⟨"HeatStadiumModel", "raises", "(I)I"⟩, 8) := ⟨⟨by decide +kernel, by decide +kernel⟩, List.mem_of_getElem? (i := 1106) (by decide +kernel), List.mem_of_getElem? (i := 2025) (by decide +kernel), List.mem_of_getElem? (i := 2026) (by decide +kernel)⟩
theorem lw_p79 : lw_okq (⟨"HeatStadiumModel", "recordable", "(LHeatStadiumModel$Event;Ljava/util/ArrayList;)Ljava/util/ArrayList;"⟩, 8) := ⟨⟨by decide +kernel, by decide +kernel⟩, List.mem_of_getElem? (i := 1106) (by decide +kernel), List.mem_of_getElem? (i := 2068) (by decide +kernel), List.mem_of_getElem? (i := 2069) (by decide +kernel)⟩
def lw_privs_5 : List (MethodName × Nat) := [(⟨"HeatStadiumModel", "isEvent", "(I)Z"⟩, 8), (⟨"HeatStadiumModel", "isAthlete", "(I)Z"⟩, 8), (⟨"HeatStadiumModel", "noEvent", "(I)Z"⟩, 8), (⟨"HeatStadiumModel", "fieldOf", "(LHeatStadiumModel$Event;)Ljava/util/ArrayList;"⟩, 8), (⟨"HeatStadiumModel", "ready", "(LHeatStadiumModel$Event;)Ljava/util/ArrayList;"⟩, 8), (⟨"java/util/ArrayList", "rangeCheckForAdd", "(I)V"⟩, 3), (⟨"java/util/ArrayList", "outOfBoundsMsg", "(I)Ljava/lang/String;"⟩, 3), (⟨"HeatStadiumModel", "heatsOf", "(LHeatStadiumModel$Event;)Ljava/util/ArrayList;"⟩, 8), (⟨"HeatStadiumModel", "isIn", "(Ljava/util/ArrayList;I)Z"⟩, 8), (⟨"HeatStadiumModel", "race", "(III)LHeatStadiumModel$Event;"⟩, 8), (⟨"HeatStadiumModel", "finalOf", "(LHeatStadiumModel$Event;)Ljava/util/ArrayList;"⟩, 8), (⟨"HeatStadiumModel", "goesOut", "(LHeatStadiumModel$Entry;I)V"⟩, 8), (⟨"HeatStadiumModel", "ranks", "(LHeatStadiumModel$Event;)[I"⟩, 8), (⟨"HeatStadiumModel", "worths", "(LHeatStadiumModel$Event;)[[I"⟩, 8), (⟨"HeatStadiumModel", "raises", "(I)I"⟩, 8), (⟨"HeatStadiumModel", "recordable", "(LHeatStadiumModel$Event;Ljava/util/ArrayList;)Ljava/util/ArrayList;"⟩, 8)]
theorem lw_r5 : ∀ q ∈ lw_privs_5, lw_okq q := List.forall_mem_cons.mpr ⟨lw_p64, List.forall_mem_cons.mpr ⟨lw_p65, List.forall_mem_cons.mpr ⟨lw_p66, List.forall_mem_cons.mpr ⟨lw_p67, List.forall_mem_cons.mpr ⟨lw_p68, List.forall_mem_cons.mpr ⟨lw_p69, List.forall_mem_cons.mpr ⟨lw_p70, List.forall_mem_cons.mpr ⟨lw_p71, List.forall_mem_cons.mpr ⟨lw_p72, List.forall_mem_cons.mpr ⟨lw_p73, List.forall_mem_cons.mpr ⟨lw_p74, List.forall_mem_cons.mpr ⟨lw_p75, List.forall_mem_cons.mpr ⟨lw_p76, List.forall_mem_cons.mpr ⟨lw_p77, List.forall_mem_cons.mpr ⟨lw_p78, List.forall_mem_cons.mpr ⟨lw_p79, fun _ h => absurd h List.not_mem_nil⟩⟩⟩⟩⟩⟩⟩⟩⟩⟩⟩⟩⟩⟩⟩⟩
theorem lw_p80 : lw_okq (⟨"java/util/ArrayList", "equalsArrayList", "(Ljava/util/ArrayList;)Z"⟩, 3) := ⟨⟨by decide +kernel, by decide +kernel⟩, List.mem_of_getElem? (i := 1112) (by decide +kernel), List.mem_of_getElem? (i := 2138) (by decide +kernel), List.mem_of_getElem? (i := 2139) (by decide +kernel)⟩
theorem lw_p81 : lw_okq (⟨"java/util/ArrayList", "checkForComodification", "(I)V"⟩, 3) := ⟨⟨by decide +kernel, by decide +kernel⟩, List.mem_of_getElem? (i := 1112) (by decide +kernel), List.mem_of_getElem? (i := 2146) (by decide +kernel), List.mem_of_getElem? (i := 2147) (by decide +kernel)⟩
theorem lw_p82 : lw_okq (⟨"HeatStadiumModel", "medals", "()[[I"⟩, 8) := ⟨⟨by decide +kernel, by decide +kernel⟩, List.mem_of_getElem? (i := 1106) (by decide +kernel), List.mem_of_getElem? (i := 2182) (by decide +kernel), List.mem_of_getElem? (i := 2183) (by decide +kernel)⟩
def lw_privs_6 : List (MethodName × Nat) := [(⟨"java/util/ArrayList", "equalsArrayList", "(Ljava/util/ArrayList;)Z"⟩, 3), (⟨"java/util/ArrayList", "checkForComodification", "(I)V"⟩, 3), (⟨"HeatStadiumModel", "medals", "()[[I"⟩, 8)]
theorem lw_r6 : ∀ q ∈ lw_privs_6, lw_okq q := List.forall_mem_cons.mpr ⟨lw_p80, List.forall_mem_cons.mpr ⟨lw_p81, List.forall_mem_cons.mpr ⟨lw_p82, fun _ h => absurd h List.not_mem_nil⟩⟩⟩
def lw_privs : List (MethodName × Nat) := lw_privs_1 ++ (lw_privs_2 ++ (lw_privs_3 ++ (lw_privs_4 ++ (lw_privs_5 ++ (lw_privs_6)))))
def lw_tbl : List Cond := k2_sels lw_privs ++ tables_1
theorem lw_privs_ok : ∀ q ∈ lw_privs, lw_okq q := by
  show ∀ q ∈ lw_privs_1 ++ (lw_privs_2 ++ (lw_privs_3 ++ (lw_privs_4 ++ (lw_privs_5 ++ (lw_privs_6))))), lw_okq q
  exact List.forall_mem_append.mpr ⟨lw_r1, List.forall_mem_append.mpr ⟨lw_r2, List.forall_mem_append.mpr ⟨lw_r3, List.forall_mem_append.mpr ⟨lw_r4, List.forall_mem_append.mpr ⟨lw_r5, lw_r6⟩⟩⟩⟩⟩
/-- the streams that the claim lets the run draw from -/
abbrev lw_cs : List Choice := [Jvm.Choice.named "NaN.bits", Jvm.Choice.named "NaN.copy"]
theorem lw_bits : nanBits ∈ lw_cs := by first | decide | exact List.mem_cons_self | simp [lw_cs, nanBits]
-- ===== end of PART A; then your names; then what follows =====
end
section
/-! a word that the printed rows of 'new T[n][m]' name and this place's kit hasn't: the array class over an array type is there -/
def va_AOA (t : FieldType) (U : State) : Prop := (Cond.arrayOver (.array t)).before #[] U = true
theorem va_AOA.of {t : FieldType} {A : Array Value} {U : State} (h : (Cond.arrayOver (.array t)).before A U = true) : va_AOA t U := h
theorem va_AOA.use {t : FieldType} {A : Array Value} {U : State} (h : va_AOA t U) : (Cond.arrayOver (.array t)).before A U = true := h
theorem va_AOA.moved {t : FieldType} {u U : State} (hvm : u.vm.Alike U.vm) (h : va_AOA t u) : va_AOA t U := Jvm.Stand.arrayOver_alikeB hvm h
end
section
/-! ===== BEGIN words of one list among another's, by their places ===== -/
theorem goodIn_r {big : List Cond} (ws : List Cond) (ps : List Nat) (hp : ws = ps.filterMap (fun i => big[i]?)) (h : ws.all goodWord = true) : GoodIn big ws := by
  intro w hw
  have h1 := List.all_eq_true.mp h w hw
  rw [hp] at hw
  obtain ⟨i, -, hi⟩ := List.mem_filterMap.mp hw
  have hm : w ∈ big := by first | exact List.mem_of_getElem? hi | exact List.getElem?_mem hi
  exact ⟨hm, good_of_word h1⟩
theorem goodIn_app {big a b : List Cond} (ha : GoodIn big a) (hb : GoodIn big b) : GoodIn big (a ++ b) := fun w h => (List.mem_append.mp h).elim (ha w) (hb w)
theorem goodIn_ca {big a b : List Cond} {c : Cond} (ha : GoodIn big (c :: a)) (hb : GoodIn big b) : GoodIn big (c :: (a ++ b)) := fun w h => (List.mem_cons.mp h).elim (fun e => ha w (List.mem_cons.mpr (Or.inl e))) (fun h => (List.mem_append.mp h).elim (fun h => ha w (List.mem_cons.mpr (Or.inr h))) (hb w))
theorem goodIn_sub {big ws : List Cond} (hm : ∀ w ∈ ws, w ∈ big) (h : ws.all goodWord = true) : GoodIn big ws := fun w hw => ⟨hm w hw, good_of_word (List.all_eq_true.mp h w hw)⟩
/-! ===== END ===== -/

/-! ===== BEGIN new T[n][m]: the outer array a place, the inner ones among the pooled ===== -/
/-- f, but v at every address of l -/
def vr_up {α : Type} (f : Nat → α) (l : List Nat) (v : α) : Nat → α := fun a => if a ∈ l then v else f a
theorem vr_up_in {α : Type} {f : Nat → α} {l : List Nat} {v : α} {a : Nat} (h : a ∈ l) : vr_up f l v a = v := if_pos h
theorem vr_up_ne {α : Type} {f : Nat → α} {l : List Nat} {v : α} {a : Nat} (h : a ∉ l) : vr_up f l v a = f a := if_neg h
theorem vr_rows {L l : List Nat} {f : Nat → va_E} {e : va_E} (h : ∀ a, a ∈ l → a ∉ L) : va_pl L f ++ l.map (fun a => (a, e)) = va_pl (L ++ l) (vr_up f l e) := by
  unfold va_pl
  rw [List.map_append]
  congr 1
  · apply List.map_congr_left
    intro a ha
    rw [vr_up_ne (fun q => h a q ha)]
  · apply List.map_congr_left
    intro a ha
    rw [vr_up_in ha]
theorem vr_lay {X rows : va_W} {x : Nat × va_E} {pl : va_W} {D : va_G} {cl : List vw_C} {H : Heap} (hP : va_P D cl (((X ++ pl) ++ [x]) ++ rows) H) : va_P D cl ((X ++ [x]) ++ (pl ++ rows)) H := by
  rw [List.append_assoc (X ++ pl)] at hP
  have h := va_P.swap hP
  rw [← List.append_assoc X] at h
  have h2 := va_P.swap h
  rw [List.append_assoc (X ++ [x])] at h2
  exact h2
theorem vr_layD {X rows : va_W} {x : Nat × va_E} {pl : va_W} {A : Nat → Prop} (hD : va_D A (((X ++ pl) ++ [x]) ++ rows)) : va_D A ((X ++ [x]) ++ (pl ++ rows)) := by
  rw [List.append_assoc (X ++ pl)] at hD
  have h := va_D.swap hD
  rw [← List.append_assoc X] at h
  have h2 := va_D.swap h
  rw [List.append_assoc (X ++ [x])] at h2
  exact h2
theorem vr_outer (c : ClassId) (N h0 : Nat) : ∀ i : Nat, Jvm.Free.Multi.outerC c N h0 i = arrV c N (fun j => va_rf (if j < i then some (h0 + 1 + j) else none))
  | 0 => by
    show ({ cls := c, slots := Array.replicate N .null, vm := .none } : Cell) = _
    rw [arrV_new]
    refine congrArg (arrV c N) (funext fun j => ?_)
    simp [va_rf]
  | i + 1 => by
    show (Jvm.Free.Multi.outerC c N h0 i).setSlot i (.ref (h0 + 1 + i)) = _
    rw [vr_outer c N h0 i, arrV_store]
    refine congrArg (arrV c N) (funext fun j => ?_)
    by_cases e : j = i
    · subst e
      simp [updV, va_rf]
    · by_cases h : j < i
      · simp [updV, e, h, Nat.lt_succ_of_lt h]
      · simp [updV, e, h, show ¬ j < i + 1 by omega]
section VGM
variable {p : Program} {l : Launch} {e : Env} {R : Room} {s : State} {m : MethodId} {args : Array Value} {below : List Frame} {meth : Method} {c : Code} {H : Heap} {locs : List Loc} {cells slots : Nat} {Q : State → Prop}
variable {cc : ByteArray} {pc : Nat} {ls : Array Slot} {rest : List Value} {D : va_G} {cl : List vw_C} {A : Nat → Prop} {a : Nat} {tys : List (ClassId × FieldType)} {ws : va_W} {H0 : Heap}
theorem va_mna {X : va_W} {L : List Nat} {f : Nat → va_E} {cc : ByteArray} (hexec : p.tables.exec = Jvm.exec) (hb : c.code = cc) {own : String} {index : Nat} {ty : FieldType} {cy : ClassId} (hown : s.vm.findClass own = some m.cls) (hclink : (Cond.classLink own index ("[" ++ (FieldType.array ty).toString)).before args s = true) (hover : va_AOA ty s) (harr : (Cond.arrayClass ty).before args s = true) (hcy : s.vm.findClass (FieldType.array ty).toString = some cy)
    (hK : va_K D cl tys s) (hP : va_P D cl (X ++ va_pl L f) H) (hD : va_D A (X ++ va_pl L f)) (hS : va_S A H0 H locs) (hA : ∀ q, H0.size ≤ q → A q) {n k : Int32} {N' K' : Nat} {z : vp_A} (hn : ¬ n < 0) (hk : ¬ k < 0) (hN : n.toNatClampNeg = N') (hM : k.toNatClampNeg = K')
    (hb1 : N' * 4 ≤ 536870912) (hb2 : K' * componentBytes ty ≤ 536870912) (hb3 : K' ≤ 536870912) (hdf : fits ty (defaultValue ty) = true) (hdd : (defaultValue ty).isDefault = true) (hcells : cells + (1 + N') ≤ R.cells) (hslots : slots + (N' + N' * K') ≤ R.slots) (hz : ∀ c : ClassId, Jvm.Free.Multi.innerC c K' (defaultValue ty) = vp_cell c z) (hdg : decode cc pc = .ok (.multianewarray index 2, 4))
    (kk : ∀ (q : Nat) (r : Nat → Nat) (cA : ClassId) (H1 : Heap), (∀ i j : Nat, i < N' → j < N' → r i = r j → i = j) → (∀ i : Nat, i < N' → r i ∉ L) → va_K D cl (tys ++ [(cA, .array ty)]) s →
      va_P D cl ((X ++ [(q, .inl (cA, N', .inr (.inr (.inr (.inr (fun i => if i < N' then some (r i) else none))))))]) ++ va_pl (L ++ (List.range N').map r) (vr_up f ((List.range N').map r) (.inl (cy, z)))) H1 → va_D A ((X ++ [(q, .inl (cA, N', .inr (.inr (.inr (.inr (fun i => if i < N' then some (r i) else none))))))]) ++ va_pl (L ++ (List.range N').map r) (vr_up f ((List.range N').map r) (.inl (cy, z)))) → va_S A H0 H1 locs →
      W p l e R s m args below meth c H1 locs (cells + 1 + N') (slots + N' + N' * K') Q (F0 m (pc + 4) ls (.ref q :: rest))) : W p l e R s m args below meth c H locs cells slots Q (F0 m pc ls (.int k :: .int n :: rest)) := by
  subst hN
  subst hM
  intro T hT Xs
  obtain ⟨vm₁, cA, comp, -, fA, fC, hO, -, X', step⟩ := Xs.multianewarray2F hexec hown hclink (va_AOA.use hover) harr (g := F0 m pc ls (.int k :: .int n :: rest)) rfl (by rw [hb]; exact hdg) rfl hn hk hb1 hb2 hb3 hdf hdd hcells hslots
  have ec : some cy = some comp := hcy.symm.trans fC
  cases ec
  generalize hF : Jvm.Free.Multi.fill (T.setVm vm₁) cA cy n.toNatClampNeg k.toNatClampNeg (defaultValue ty) n.toNatClampNeg = F at X' step
  have hTh : (T.setVm vm₁).heap = H := hT
  obtain ⟨f1, f2, -, -⟩ := Jvm.Free.Multi.fill_facts (T.setVm vm₁) cA cy n.toNatClampNeg k.toNatClampNeg (defaultValue ty) n.toNatClampNeg
  rw [hF, hTh] at f1 f2
  have hold : ∀ x : Nat, x < H.size → F.heap[x]? = H[x]? := fun x hx => by
    have := Jvm.Free.Multi.fill_old (T.setVm vm₁) cA cy n.toNatClampNeg k.toNatClampNeg (defaultValue ty) (a := x) (by rw [hTh]; exact hx) n.toNatClampNeg
    rw [hF, hTh] at this
    exact this
  have hrow : ∀ j : Nat, j < n.toNatClampNeg → F.heap[H.size + 1 + j]? = some (vp_cell cy z) := fun j hj => by
    have := Jvm.Free.Multi.fill_inner (T.setVm vm₁) cA cy n.toNatClampNeg k.toNatClampNeg (defaultValue ty) n.toNatClampNeg j hj
    rw [hF, hTh, hz] at this
    exact this
  have hout : Jvm.Free.Multi.outerC cA n.toNatClampNeg H.size n.toNatClampNeg = vp_cell cA (n.toNatClampNeg, .inr (.inr (.inr (.inr (fun i => if i < n.toNatClampNeg then some (H.size + 1 + i) else none))))) := by
    rw [vp_cell_q]
    exact vr_outer cA n.toNatClampNeg H.size n.toNatClampNeg
  rw [hout] at f2
  have hlt : ∀ a, a ∈ L → a < H.size := fun a ha => by
    obtain ⟨k9, hk9⟩ := va_pl_get (X := X) (f := f) ha
    exact (hP k9 _ hk9).lt
  have hnl : ∀ i : Nat, i < n.toNatClampNeg → H.size + 1 + i ∉ L := fun i _ h => by
    have := hlt _ h
    omega
  have hnm : ∀ a, a ∈ (List.range n.toNatClampNeg).map (fun i => H.size + 1 + i) → a ∉ L := fun a ha h => by
    obtain ⟨i, -, rfl⟩ := List.mem_map.mp ha
    have := hlt _ h
    omega
  have hP0 : va_P D cl (X ++ va_pl L f) F.heap := hP.kept (fun k9 x hx => hold x.1 ((hP k9 x hx).lt))
  have hP1 : va_P D cl ((X ++ va_pl L f) ++ [(H.size, .inl (cA, n.toNatClampNeg, .inr (.inr (.inr (.inr (fun i => if i < n.toNatClampNeg then some (H.size + 1 + i) else none))))))]) F.heap := hP0.app (fun k9 x hx => by
    have h0 : k9 < 1 := (List.getElem?_eq_some_iff.mp hx).1
    rw [show k9 = 0 by omega] at hx
    cases hx
    exact f2)
  have hP2 : va_P D cl (((X ++ va_pl L f) ++ [(H.size, .inl (cA, n.toNatClampNeg, .inr (.inr (.inr (.inr (fun i => if i < n.toNatClampNeg then some (H.size + 1 + i) else none))))))]) ++ ((List.range n.toNatClampNeg).map (fun i => H.size + 1 + i)).map (fun a => (a, .inl (cy, z)))) F.heap := hP1.app (fun k9 x hx => by
    obtain ⟨a, ha, rfl⟩ := List.mem_map.mp (List.mem_of_getElem? hx)
    obtain ⟨i, hi, rfl⟩ := List.mem_map.mp ha
    exact hrow i (List.mem_range.mp hi))
  have hD2 : va_D A (((X ++ va_pl L f) ++ [(H.size, .inl (cA, n.toNatClampNeg, .inr (.inr (.inr (.inr (fun i => if i < n.toNatClampNeg then some (H.size + 1 + i) else none))))))]) ++ ((List.range n.toNatClampNeg).map (fun i => H.size + 1 + i)).map (fun a => (a, .inl (cy, z)))) := by
    have hD1 := hD.push (e := .inl (cA, n.toNatClampNeg, .inr (.inr (.inr (.inr (fun i => if i < n.toNatClampNeg then some (H.size + 1 + i) else none)))))) hP rfl (hA _ hS.1)
    generalize hW1 : (X ++ va_pl L f) ++ [(H.size, .inl (cA, n.toNatClampNeg, .inr (.inr (.inr (.inr (fun i => if i < n.toNatClampNeg then some (H.size + 1 + i) else none))))))] = W1 at hD1 hP1 ⊢
    have hle : ∀ (k9 : Nat) (x : Nat × va_E), W1[k9]? = some x → x.1 ≤ H.size := fun k9 x hx => by
      rw [← hW1] at hx
      by_cases hl : k9 < (X ++ va_pl L f).length
      · rw [List.getElem?_append_left hl] at hx
        exact Nat.le_of_lt ((hP k9 x hx).lt)
      · rw [List.getElem?_append_right (by omega)] at hx
        have h0 : k9 - (X ++ va_pl L f).length < 1 := (List.getElem?_eq_some_iff.mp hx).1
        rw [show k9 - (X ++ va_pl L f).length = 0 by omega] at hx
        cases hx
        exact Nat.le_refl _
    have hr : ∀ (k9 : Nat) (x : Nat × va_E), (((List.range n.toNatClampNeg).map (fun i => H.size + 1 + i)).map (fun a => ((a, .inl (cy, z)) : Nat × va_E)))[k9]? = some x → x.1 = H.size + 1 + k9 := fun k9 x hx => by
      rw [List.getElem?_map, List.getElem?_map] at hx
      by_cases h9 : k9 < n.toNatClampNeg
      · rw [List.getElem?_range h9] at hx
        cases hx
        rfl
      · have hn0 : (List.range n.toNatClampNeg)[k9]? = none := List.getElem?_eq_none (by rw [List.length_range]; omega)
        rw [hn0] at hx
        cases hx
    refine ⟨fun i j x y hi hj hxy => ?_, fun k9 x hx => ?_⟩
    · by_cases h1 : i < W1.length <;> by_cases h2 : j < W1.length
      · rw [List.getElem?_append_left h1] at hi
        rw [List.getElem?_append_left h2] at hj
        exact hD1.1 i j x y hi hj hxy
      · rw [List.getElem?_append_left h1] at hi
        rw [List.getElem?_append_right (by omega)] at hj
        have := hle _ _ hi
        have := hr _ _ hj
        omega
      · rw [List.getElem?_append_right (by omega)] at hi
        rw [List.getElem?_append_left h2] at hj
        have := hle _ _ hj
        have := hr _ _ hi
        omega
      · rw [List.getElem?_append_right (by omega)] at hi hj
        have := hr _ _ hi
        have := hr _ _ hj
        omega
    · by_cases h1 : k9 < W1.length
      · rw [List.getElem?_append_left h1] at hx
        exact hD1.2 k9 x hx
      · rw [List.getElem?_append_right (by omega)] at hx
        have := hr _ _ hx
        exact hA _ (by have := hS.1; omega)
  have hAr : ArrOfT s cA (.array ty) := fun N9 z9 => by
    obtain ⟨-, k9, hk9, cm9, hkk9⟩ := (hO 0 0 0).1
    exact ⟨(fun q hq => by cases hq), k9, hk9, cm9, hkk9⟩
  have hK2 : va_K D cl (tys ++ [(cA, .array ty)]) s := ⟨hK.1, fun k9 x hx => by
    by_cases hl : k9 < tys.length
    · rw [List.getElem?_append_left hl] at hx
      exact hK.2 k9 x hx
    · rw [List.getElem?_append_right (by omega)] at hx
      have h0 : k9 - tys.length < 1 := (List.getElem?_eq_some_iff.mp hx).1
      rw [show k9 - tys.length = 0 by omega] at hx
      cases hx
      exact ⟨hAr, fA⟩⟩
  obtain ⟨t, a1, b1⟩ := kk H.size (fun i => H.size + 1 + i) cA F.heap (fun i j _ _ h => by have h9 : H.size + 1 + i = H.size + 1 + j := h; omega) hnl hK2 (by rw [← vr_rows hnm]; exact vr_lay hP2) (by rw [← vr_rows hnm]; exact vr_layD hD2) ⟨by rw [f1]; have := hS.1; omega, fun x h1 h2 => (hold x (Nat.lt_of_lt_of_le h1 hS.1)).trans (hS.2.1 x h1 h2), hS.2.2⟩ F rfl X'
  refine ⟨t, step t ?_, b1⟩
  have e : T.heap.size = H.size := by rw [hT]
  rw [e]
  exact a1
end VGM
/-! ===== END ===== -/

/-! ===== BEGIN exceptions that leave a method, and their catching by the caller (launches without stack traces) ===== -/
section VXA
/-! The laws vx_back, vx_callV, vx_callS, vx_callSW, vx_throw0, vx_throwS follow proofs of the library, with one case more: JvmDerived/Free/Laws.lean (Back.of_free), Shelf42/LK1.lean (callV, callS), Shelf/KitTraced.lean (throwNew0V, throwNewS). -/
/-- where a method has thrown q: the class by its name, the cell, what was written, the world -/
def vx_T (XC : String → State → State → Prop) (st : State) (q : Addr) (t : State) (mc ms : Nat) (free : Addr → Prop) : Prop :=
  ∃ (E : String) (ce : Cell) (L : List Loc), XC E st t ∧ t.heap[q]? = some ce ∧ ce.vm = .none ∧ st.vm.findClass E = some ce.cls ∧ st.WarmedH t.vm ∧ st.sameButNew ({ t with vm := st.vm } : State) L mc ms ∧ ∀ z ∈ L, free z.base
def vx_Q (Qc : Array Value → State → Outcome → State → Prop) (XC : String → State → State → Prop) (mc ms : Nat) (free : Addr → Prop) : Array Value → State → Outcome → State → Prop := fun a st o t =>
  (Qc a st o t ∧ ∃ L, FrameEnd st o t L mc ms ∧ ∀ q ∈ L, free q.base) ∨ ∃ q, o = .threw q ∧ vx_T XC st q t mc ms free
/-- a callee that returns or throws -/
def vx_Met (l : Launch) (y : MethodName) (ws : List Cond) (rm : Room) (Pc : Array Value → State → Prop) (Qc : Array Value → State → Outcome → State → Prop) (XC : String → State → State → Prop) (mc ms : Nat) (free : Addr → Prop) : Prop :=
  MetFree l y (headSpec ws rm) Pc (fun _ _ _ _ _ => True) (vx_Q Qc XC mc ms free)
def vx_Post (XC : String → State → State → Prop) (mc ms : Nat) (free : Addr → Prop) : Pt → Array Value → Addr → Pt → Prop := fun A a q B =>
  ∃ (g : JFrame) (mk : MethodId) (t : State) (L : List Loc) (E : String) (ce : Cell), B.U.heap = t.heap ∧ B.U.vm = t.vm ∧ XC E (A.U.calling g mk a) t ∧ t.heap[q]? = some ce ∧ ce.vm = .none ∧ A.U.vm.findClass E = some ce.cls ∧ B.locs = A.locs ++ L ∧ (∀ z ∈ L, free z.base) ∧ B.cells = A.cells + mc ∧ B.slots = A.slots + ms
def vx_Back (l : Launch) (R : Room) (p : Program) (e : Env) (below : List Frame) (s : State) (sargs : Array Value) (y : MethodName) (len W9 : Nat)
    (Pre : Pt → Array Value → Prop) (Post : Pt → Array Value → Option Value → Pt → Prop) (PostX : Pt → Array Value → Addr → Pt → Prop) : Prop :=
  ∀ (m : MethodId) (meth : Method) (c : Code) (A : Pt) (g : JFrame) (ig : Instr) (mk : MethodId) (a : Array Value),
    Stand p l e R s m sargs below meth c A.U A.locs A.cells A.slots → g.method = m → g.locals.size = c.maxLocals → decode c.code g.pc = .ok (ig, len) →
    2 * g.monitorRoom + (g.stack.map fun v => v.category).sum ≤ W9 → A.U.methodNamed? y = some mk → Pre A a →
    (∃ (v : Option Value) (B : Pt), Stand p l e R s m sargs below meth c B.U B.locs B.cells B.slots ∧ Post A a v B ∧
      Steps p.tables e below (doInvoke e (A.U.setTop g) [] mk a).1 (B.U.setTop { g with pc := g.pc + len, stack := v.toList ++ g.stack })) ∨
    (∃ (q : Addr) (B : Pt), Stand p l e R s m sargs below meth c B.U B.locs B.cells B.slots ∧ PostX A a q B ∧
      Steps p.tables e below (doInvoke e (A.U.setTop g) [] mk a).1 ((B.U.setTop g).pushFrame (.throwing q)))
section Payer
variable {l : Launch} {R : Room} {p : Program} {e : Env} {below : List Frame} {s : State} {sargs : Array Value} {y : MethodName} {len W9 : Nat}
theorem vx_back {ws : List Cond} {rm : Room} {Pc : Array Value → State → Prop} {Qc : Array Value → State → Outcome → State → Prop} {XC : String → State → State → Prop} {mc ms : Nat} {free : Addr → Prop} {bytes : ByteArray} {maxL : Nat} {ret : Option FieldType}
    (hM : vx_Met l y ws rm Pc Qc XC mc ms free) (hblind : FrameBlind Pc) (hrc : rm.cells = mc) (hrs : rm.slots = ms)
    (hframes : rm.frames + 1 ≤ R.frames) (hlocals : W9 + (maxL + 11) + rm.locals ≤ R.locals)
    (hws : ∀ w ∈ ws, ∀ a' U, s.WarmedH U.vm → w.before a' U = true) (hcode : Cond.code y bytes maxL ret ∈ ws) (hinit : ∀ a' U, s.WarmedH U.vm → (Cond.initialized y.cls).before a' U = true) :
    vx_Back l R p e below s sargs y len W9 (PreOf R mc ms Pc) (PostOf Qc mc ms free) (vx_Post XC mc ms free) := by
  intro m meth c A g ig mk a X hg hsize hdg hW hn hp
  have h1 : (headSpec ws rm).pre.before a A.U = true := atoms_intro fun w hw => hws w hw _ _ X.warmed
  have h2 : (Cond.code y bytes maxL ret).before a A.U = true := hws _ hcode _ _ X.warmed
  have h3 : (Cond.initialized y.cls).before a A.U = true := hinit _ _ X.warmed
  have h4 : A.cells + (headSpec ws rm).room.cells ≤ R.cells := by rw [show (headSpec ws rm).room.cells = mc from hrc]; exact hp.1
  have h5 : A.slots + (headSpec ws rm).room.slots ≤ R.slots := by rw [show (headSpec ws rm).room.slots = ms from hrs]; exact hp.2.1
  have hPc : Pc a (A.U.calling g mk a) := hblind _ _ _ _ hp.2.2
  obtain ⟨U, Ls, c0, s0⟩ := A
  dsimp only [Pt.U, Pt.locs, Pt.cells, Pt.slots] at h1 h2 h3 h4 h5 X hn hPc ⊢
  obtain ⟨methY, cY, hmY, hcY, -, hlY, -, -, -, -⟩ := Cond.code_spec hn h2
  obtain ⟨kY, hkY, -⟩ := className_of_methodNamed hn
  have hinitY : kY.init = .initialized := Cond.initialized_spec (findClass_of_methodNamed hn) hkY h3
  have h : At U g.method c below := by rw [hg]; exact X.here
  have hlocals9 : W9 + (maxL + 11) + (headSpec ws rm).room.locals ≤ R.locals := hlocals
  have happ : (headSpec ws rm).appliesLoose y e.platform (U.calling g mk a) = true :=
    Spec.appliesLoose_calling (g := g) h hdg hn hkY hinitY
      (X.room_calling (g := g) (R' := (headSpec ws rm).room) hsize hmY hcY hframes (by rw [hlY]; omega) h4 h5) h1
  obtain ⟨mid, hmid⟩ := h.above
  have hfr : (U.setTop g).frames = (.java g :: mid) ++ below := by rw [State.frames_setTop' g h.top, hmid]; rfl
  obtain ⟨o, s₂, hsteps, -, hend, hq⟩ := Steps.callFree hM p X.admits X.cas X.clock (acts := []) hfr happ hPc trivial
  have hq' : vx_Q Qc XC mc ms free a (U.calling g mk a) o s₂ := hq
  rw [State.frames_setTop' g h.top] at hend
  obtain ⟨g₀, hg0⟩ := Option.isSome_iff_exists.mp h.top
  obtain ⟨r, hr⟩ := State.topJava?_eq_some.mp hg0
  have hr' : (({ U with heap := s₂.heap, slotsUsed := s₂.slotsUsed } : State).setVm s₂.vm).frames = .java g₀ :: r := hr
  rcases hq' with ⟨hqc, L, hfe, hL⟩ | ⟨q, rfl, E, ce, L, hx, hce, hcv, hcl, hW₂, hsm, hL⟩
  · obtain ⟨⟨v, rfl⟩, hW₂, e2, q2, q3, q4, q5, q6⟩ := id hfe
    have e3 : s₂ = ({ (U.calling g mk a).setFrames s₂.frames with heap := s₂.heap, slotsUsed := s₂.slotsUsed } : State).setVm s₂.vm := by
      have : s₂ = ({ s₂ with vm := (U.calling g mk a).vm } : State).setVm s₂.vm := rfl
      rw [e2] at this
      exact this
    obtain ⟨c₂, i₂, len₂, hc₂, hd₂, hf₂⟩ := hend
    have hW' : U.WarmedH s₂.vm := hW₂
    have hcc : c₂ = c := by
      have h1 : s₂.code? g.method = U.code? g.method := by
        rw [State.code?_eq, State.code?_eq, hW'.alike.method?]
      exact Option.some.inj (hc₂.symm.trans (h1.trans h.code))
    subst hcc
    have hlen : len₂ = len := by rw [hdg] at hd₂; cases hd₂; rfl
    subst hlen
    have hs₂ : s₂ = (({ U with heap := s₂.heap, slotsUsed := s₂.slotsUsed } : State).setVm s₂.vm).setTop { g with pc := g.pc + len₂, stack := v.toList ++ g.stack } := by
      refine e3.trans ?_
      rw [hf₂, State.calling_eq h.top, State.setFrames_setFrames, State.setTop_of_frames _ hr', hr]
      rfl
    have hsame : U.sameButNew ({ U with heap := s₂.heap, slotsUsed := s₂.slotsUsed } : State) L mc ms := by
      refine ⟨?_, q2, q3, q4, q5, q6⟩
      obtain ⟨t, ht, -⟩ := State.frames_cons hr
      show ({ U with heap := s₂.heap, slotsUsed := s₂.slotsUsed } : State) = { U.setFrames U.frames with heap := s₂.heap, slotsUsed := s₂.slotsUsed }
      rw [State.setFrames_self ht]
    subst hg
    refine Or.inl ⟨v, ⟨(({ U with heap := s₂.heap, slotsUsed := s₂.slotsUsed } : State).setVm s₂.vm), Ls ++ L, c0 + mc, s0 + ms⟩,
      ⟨X.admits, X.cas, X.clock, X.frames, X.room, X.hears, X.method, X.code, (X.here.setHeapUsed s₂.heap s₂.slotsUsed).setVm hW'.alike, X.tail, State.WarmedH.trans X.warmed hW', X.limits, X.bytes, X.same.trans (hsame.setVm s.vm)⟩,
      ⟨g, mk, s₂, L, rfl, rfl, hqc, rfl, hL, rfl, rfl⟩, ?_⟩
    show Steps p.tables e below _ ((({ U with heap := s₂.heap, slotsUsed := s₂.slotsUsed } : State).setVm s₂.vm).setTop { g with pc := g.pc + len₂, stack := v.toList ++ g.stack })
    rw [← hs₂]
    exact hsteps
  · obtain ⟨e2, q2, q3, q4, q5, q6⟩ := id hsm
    have e3 : s₂ = ({ (U.calling g mk a).setFrames s₂.frames with heap := s₂.heap, slotsUsed := s₂.slotsUsed } : State).setVm s₂.vm := by
      have : s₂ = ({ s₂ with vm := (U.calling g mk a).vm } : State).setVm s₂.vm := rfl
      rw [e2] at this
      exact this
    have hf₂ : s₂.frames = .throwing q :: .java g :: U.frames.tail := hend
    have hW' : U.WarmedH s₂.vm := hW₂
    have hs₂ : s₂ = ((({ U with heap := s₂.heap, slotsUsed := s₂.slotsUsed } : State).setVm s₂.vm).setTop g).pushFrame (.throwing q) := by
      refine e3.trans ?_
      rw [hf₂, State.calling_eq h.top, State.setFrames_setFrames, State.pushFrame, State.frames_setTop _ hr', State.setTop_of_frames _ hr', State.setFrames_setFrames, hr]
      rfl
    have hsame : U.sameButNew ({ U with heap := s₂.heap, slotsUsed := s₂.slotsUsed } : State) L mc ms := by
      refine ⟨?_, q2, q3, q4, q5, q6⟩
      obtain ⟨t, ht, -⟩ := State.frames_cons hr
      show ({ U with heap := s₂.heap, slotsUsed := s₂.slotsUsed } : State) = { U.setFrames U.frames with heap := s₂.heap, slotsUsed := s₂.slotsUsed }
      rw [State.setFrames_self ht]
    subst hg
    refine Or.inr ⟨q, ⟨(({ U with heap := s₂.heap, slotsUsed := s₂.slotsUsed } : State).setVm s₂.vm), Ls ++ L, c0 + mc, s0 + ms⟩,
      ⟨X.admits, X.cas, X.clock, X.frames, X.room, X.hears, X.method, X.code, (X.here.setHeapUsed s₂.heap s₂.slotsUsed).setVm hW'.alike, X.tail, State.WarmedH.trans X.warmed hW', X.limits, X.bytes, X.same.trans (hsame.setVm s.vm)⟩,
      ⟨g, mk, s₂, L, E, ce, rfl, rfl, hx, hce, hcv, hcl, rfl, hL, rfl, rfl⟩, ?_⟩
    show Steps p.tables e below _ (((({ U with heap := s₂.heap, slotsUsed := s₂.slotsUsed } : State).setVm s₂.vm).setTop g).pushFrame (.throwing q))
    rw [← hs₂]
    exact hsteps
end Payer
section Calls
variable {p : Program} {l : Launch} {e : Env} {R : Room} {s : State} {m : MethodId} {args : Array Value} {below : List Frame} {meth : Method} {c : Code} {T : State} {locs : List Loc} {cells slots : Nat}
theorem vx_callV (X : Stand p l e R s m args below meth c T locs cells slots) (hexec : p.tables.exec = Jvm.exec) {own C : String} {index : Nat} {y : MethodName} {bytes : ByteArray} {maxL : Nat} {ret : Option FieldType}
    (hown : s.vm.findClass own = some m.cls) (hlink : (Cond.methodLink own index y).before args s = true) (hinst : (Cond.instanceMethod y).before args s = true) (hsel : (Cond.selects C y y).before args s = true)
    (hcode : (Cond.code y bytes maxL ret).before args s = true) (hy : y.cls ≠ "java/lang/invoke/MethodHandle" ∧ y.cls ≠ "java/lang/invoke/VarHandle")
    {W9 : Nat} {Pre : Pt → Array Value → Prop} {Post : Pt → Array Value → Option Value → Pt → Prop} {PostX : Pt → Array Value → Addr → Pt → Prop} (hK : vx_Back l R p e below s args y 3 W9 Pre Post PostX)
    {b : Addr} {cellB : Cell} (hcell : T.heap[b]? = some cellB) (hobj : cellB.vm.isStatics = false) (hcls : s.vm.findClass C = some cellB.cls)
    {g : JFrame} (hg : g.method = m) (hsize : g.locals.size = c.maxLocals) {argsL rest : List Value} (hlen : ∀ sig, parseMethodDescriptor y.desc = some sig → argsL.length = sig.parameters.length)
    (hstack : g.stack = argsL.reverse ++ .ref b :: rest) (hW : 2 * g.monitorRoom + (rest.map fun v => v.category).sum ≤ W9) (hdg : decode c.code g.pc = .ok (.invokevirtual index, 3))
    (hpre : ∀ vm₁, s.WarmedH vm₁ → Pre ⟨T.setVm vm₁, locs, cells, slots⟩ (Value.ref b :: argsL).toArray) :
    (∃ (v : Option Value) (vm₁ : Vm) (B : Pt), s.WarmedH vm₁ ∧ Stand p l e R s m args below meth c B.U B.locs B.cells B.slots ∧ Post ⟨T.setVm vm₁, locs, cells, slots⟩ (Value.ref b :: argsL).toArray v B ∧
      ∀ target, Steps p.tables e below (B.U.setTop { g with pc := g.pc + 3, stack := v.toList ++ rest }) target → Steps p.tables e below (T.setTop g) target) ∨
    (∃ (q : Addr) (vm₁ : Vm) (B : Pt), s.WarmedH vm₁ ∧ Stand p l e R s m args below meth c B.U B.locs B.cells B.slots ∧ PostX ⟨T.setVm vm₁, locs, cells, slots⟩ (Value.ref b :: argsL).toArray q B ∧
      Steps p.tables e below (T.setTop g) ((B.U.setTop { g with stack := rest }).pushFrame (.throwing q))) := by
  obtain ⟨mk, methM, hnamed, hmethM, hstM, habM⟩ := Cond.instanceMethod_spec hinst
  obtain ⟨methM', cM, hmethM', -, -, -, -, -, -, hsigM⟩ := Cond.code_spec hnamed hcode
  cases hmethM.symm.trans hmethM'
  obtain ⟨c2, r2, m2, q1, q2, q3, q4, kP, hkP, hkPi⟩ := Cond.selects_spec hsel
  cases hcls.symm.trans q1
  cases (State.methodFound?_of_named hnamed hy).symm.trans q2
  cases hnamed.symm.trans q3
  have hselP : selectMethod e.platform s.vm cellB.cls mk = .method mk := by rw [Launch.admits_selectMethod X.admits]; exact q4
  obtain ⟨vm₁, X₁, hstep₁⟩ := X.invokevirtual hexec hown hlink hnamed hmethM hstM hkP hkPi hy (a := b) (cell := cellB) hcell
    (fun z h => by rw [h] at hobj; cases hobj) hselP hmethM habM hkP hkPi (g := g) hg (argsL := argsL) (rest := rest) (hlen _ hsigM) hstack hdg
  rcases hK m meth c ⟨T.setVm vm₁, locs, cells, slots⟩ { g with stack := rest } (.invokevirtual index) mk (Value.ref b :: argsL).toArray X₁ hg hsize hdg hW (X₁.named hnamed) (hpre vm₁ X₁.warmed) with ⟨v, B, X', hpost, hsteps⟩ | ⟨q, B, X', hpost, hsteps⟩
  · exact Or.inl ⟨v, vm₁, B, X₁.warmed, X', hpost, fun target h => hstep₁ _ fun acts => by rw [doInvoke_state]; exact hsteps.trans h⟩
  · exact Or.inr ⟨q, vm₁, B, X₁.warmed, X', hpost, hstep₁ _ fun acts => by rw [doInvoke_state]; exact hsteps⟩
theorem vx_callS (X : Stand p l e R s m args below meth c T locs cells slots) (hexec : p.tables.exec = Jvm.exec) {own : String} {index : Nat} {y : MethodName} {bytes : ByteArray} {maxL : Nat} {ret : Option FieldType}
    (hown : s.vm.findClass own = some m.cls) (hlink : (Cond.methodLink own index y).before args s = true) (hstat : (Cond.static y).before args s = true) (hinit : (Cond.initialized y.cls).before args s = true)
    (hcode : (Cond.code y bytes maxL ret).before args s = true) (hy : y.cls ≠ "java/lang/invoke/MethodHandle" ∧ y.cls ≠ "java/lang/invoke/VarHandle")
    {W9 : Nat} {Pre : Pt → Array Value → Prop} {Post : Pt → Array Value → Option Value → Pt → Prop} {PostX : Pt → Array Value → Addr → Pt → Prop} (hK : vx_Back l R p e below s args y 3 W9 Pre Post PostX)
    {g : JFrame} (hg : g.method = m) (hsize : g.locals.size = c.maxLocals) {argsL rest : List Value} (hlen : ∀ sig, parseMethodDescriptor y.desc = some sig → argsL.length = sig.parameters.length)
    (hstack : g.stack = argsL.reverse ++ rest) (hW : 2 * g.monitorRoom + (rest.map fun v => v.category).sum ≤ W9) (hdg : decode c.code g.pc = .ok (.invokestatic index, 3))
    (hpre : ∀ vm₁, s.WarmedH vm₁ → Pre ⟨T.setVm vm₁, locs, cells, slots⟩ argsL.toArray) :
    (∃ (v : Option Value) (vm₁ : Vm) (B : Pt), s.WarmedH vm₁ ∧ Stand p l e R s m args below meth c B.U B.locs B.cells B.slots ∧ Post ⟨T.setVm vm₁, locs, cells, slots⟩ argsL.toArray v B ∧
      ∀ target, Steps p.tables e below (B.U.setTop { g with pc := g.pc + 3, stack := v.toList ++ rest }) target → Steps p.tables e below (T.setTop g) target) ∨
    (∃ (q : Addr) (vm₁ : Vm) (B : Pt), s.WarmedH vm₁ ∧ Stand p l e R s m args below meth c B.U B.locs B.cells B.slots ∧ PostX ⟨T.setVm vm₁, locs, cells, slots⟩ argsL.toArray q B ∧
      Steps p.tables e below (T.setTop g) ((B.U.setTop { g with stack := rest }).pushFrame (.throwing q))) := by
  obtain ⟨mk, hnamed⟩ := Cond.code_named hcode
  obtain ⟨methM, cM, hmethM, -, -, -, -, -, -, hsigM⟩ := Cond.code_spec hnamed hcode
  have hstatic : methM.isStatic = true := Cond.static_spec hnamed hmethM hstat
  obtain ⟨kP, hkP, -⟩ := className_of_methodNamed hnamed
  have hinitP : kP.init = .initialized := Cond.initialized_spec (findClass_of_methodNamed hnamed) hkP hinit
  obtain ⟨vm₁, X₁, hstep₁⟩ := X.invokestatic hexec hown hlink hnamed hmethM hstatic hkP hinitP hy (g := g) hg (argsL := argsL) (rest := rest) (hlen _ hsigM) hstack hdg
  rcases hK m meth c ⟨T.setVm vm₁, locs, cells, slots⟩ { g with stack := rest } (.invokestatic index) mk argsL.toArray X₁ hg hsize hdg hW (X₁.named hnamed) (hpre vm₁ X₁.warmed) with ⟨v, B, X', hpost, hsteps⟩ | ⟨q, B, X', hpost, hsteps⟩
  · exact Or.inl ⟨v, vm₁, B, X₁.warmed, X', hpost, fun target h => hstep₁ _ fun acts => by rw [doInvoke_state]; exact hsteps.trans h⟩
  · exact Or.inr ⟨q, vm₁, B, X₁.warmed, X', hpost, hstep₁ _ fun acts => by rw [doInvoke_state]; exact hsteps⟩
end Calls
theorem vx_cls {s : State} {T : State} {vm₁ : Vm} {E : String} {k : ClassId} (hW : s.WarmedH vm₁) (h : (T.setVm vm₁).vm.findClass E = some k) : s.vm.findClass E = some k := by
  have h1 : vm₁.findClass E = some k := h
  rw [hW.alike.findClass] at h1
  exact h1
/-- the method's frame g, with q thrown over it -/
def vx_W (p : Program) (l : Launch) (e : Env) (R : Room) (s : State) (m : MethodId) (args : Array Value) (below : List Frame) (meth : Method) (c : Code) (H : Heap) (locs : List Loc) (cells slots : Nat) (Q : State → Prop) (g : JFrame) (q : Addr) : Prop :=
  ∀ T : State, T.heap = H → Stand p l e R s m args below meth c T locs cells slots → ∃ t, Steps p.tables e below ((T.setTop g).pushFrame (.throwing q)) t ∧ Q t
def vx_Run (p : Program) (l : Launch) (e : Env) (R : Room) (s : State) (m : MethodId) (args : Array Value) (below : List Frame) (meth : Method) (c : Code) (H : Heap) (locs : List Loc) (cells slots mc ms : Nat) (g : JFrame) (rest : List Value) (Qa : State → Outcome → State → Prop) (XC : String → State → State → Prop) (free : Addr → Prop) : Prop :=
  ∀ T : State, T.heap = H → Stand p l e R s m args below meth c T locs cells slots →
    (∃ (v : Option Value) (st₀ t T' : State) (L : List Loc), st₀.heap = H ∧ Stand p l e R s m args below meth c T' (locs ++ L) (cells + mc) (slots + ms) ∧ (∀ q ∈ L, free q.base) ∧ T'.heap = t.heap ∧ T'.vm = t.vm ∧ Qa st₀ (.returned v) t ∧
      Goes p e below T g T' { g with pc := g.pc + 3, stack := v.toList ++ rest }) ∨
    (∃ (q : Addr) (st₀ t T' : State) (L : List Loc) (E : String) (ce : Cell), st₀.heap = H ∧ Stand p l e R s m args below meth c T' (locs ++ L) (cells + mc) (slots + ms) ∧ (∀ z ∈ L, free z.base) ∧ T'.heap = t.heap ∧ T'.vm = t.vm ∧ XC E st₀ t ∧ t.heap[q]? = some ce ∧ ce.vm = .none ∧ s.vm.findClass E = some ce.cls ∧
      Steps p.tables e below (T.setTop g) ((T'.setTop { g with stack := rest }).pushFrame (.throwing q)))
def vx_X {S : Type} (px : S → Prop) (B : String → S → State → Prop) (A : Nat → Prop) : String → State → State → Prop := fun E st t => ∃ u : S, px u ∧ B E u t ∧ va_F A st t
section Runs
variable {p : Program} {l : Launch} {e : Env} {R : Room} {s : State} {m : MethodId} {args : Array Value} {below : List Frame} {meth : Method} {c : Code} {H : Heap} {locs : List Loc} {cells slots : Nat}
variable {y : MethodName} {bytes cc : ByteArray} {maxL nL mc ms n index : Nat} {ret : Option FieldType} {ws : List Cond} {rm : Room} {Pc : Array Value → State → Prop} {Qc : Array Value → State → Outcome → State → Prop} {XC : String → State → State → Prop} {free : Addr → Prop} {Ts : List Cond} {own C : String} {b : Addr} {As rest : List Value} {g : JFrame}
theorem vx_callBack (cb : CallB R s args own index y bytes maxL ret ws rm mc ms n) (hM : vx_Met l y ws rm Pc Qc XC mc ms free) (hbl : FrameBlind Pc) : vx_Back l R p e below s args y 3 8 (PreOf R mc ms Pc) (PostOf Qc mc ms free) (vx_Post XC mc ms free) := by
  obtain ⟨hrc, hrs, hfr, hlo, hws, hcw, -, hini, -⟩ := cb
  exact vx_back (bytes := bytes) (maxL := maxL) (ret := ret) hM hbl hrc hrs hfr hlo hws hcw (fun a' U hW => word_at hW (Or.inl (by first | rfl | simp [Cond.onTables, Cond.keeps, Cond.steady])) hini)
theorem vx_runV (S : CallFix p m c cc nL s args Ts own) (hM : vx_Met l y ws rm Pc Qc XC mc ms free) (cw : CallW R s args own C index y bytes maxL ret ws rm mc ms n) (hp : PreV s H C b Pc As)
    (hg : g.method = m) (hn : As.length = n) (hsize : g.locals.size = nL) (hstack : g.stack = As.reverse ++ .ref b :: rest) (hW : 2 * g.monitorRoom + (rest.map fun v => v.category).sum ≤ 8) (hdg : decode cc g.pc = .ok (.invokevirtual index, 3)) (hf : cells + mc ≤ R.cells ∧ slots + ms ≤ R.slots) :
    vx_Run p l e R s m args below meth c H locs cells slots mc ms g rest (Qc (Value.ref b :: As).toArray) XC free := by
  have hK : vx_Back l R p e below s args y 3 8 (PreOf R mc ms Pc) (PostOf Qc mc ms free) (vx_Post XC mc ms free) := vx_callBack cw.1 hM hp.1
  obtain ⟨⟨-, -, -, -, -, -, hcode, -, hy, hlen, hl⟩, hin, hse⟩ := cw
  obtain ⟨hx, hb, hml, ho, -⟩ := S
  obtain ⟨-, ⟨cellB, hcB, hoB, hclB⟩, hPc⟩ := hp
  intro T hT X
  rcases vx_callV X hx (C := C) (bytes := bytes) (maxL := maxL) (ret := ret) ho hl hin hse hcode hy hK (by rw [hT]; exact hcB) hoB hclB hg (hsize.trans hml.symm) (argsL := As) (rest := rest) (fun sig h => hn.trans (hlen sig h)) hstack hW (by rw [hb]; exact hdg)
    (fun vm₁ hW₁ => ⟨hf.1, hf.2, hPc (T.setVm vm₁) hT hW₁⟩) with ⟨v, vm₁, ⟨U', l2, c2, s2⟩, hW₁, X', ⟨g', mk, t, L, e1, e2, hq, h1, hL, h2, h3⟩, st⟩ | ⟨q, vm₁, ⟨U', l2, c2, s2⟩, hW₁, X', ⟨g', mk, t, L, E, ce, e1, e2, hq, hce, hcv, hcl, h1, hL, h2, h3⟩, st⟩
  · dsimp only [Pt.U, Pt.locs, Pt.cells, Pt.slots] at X' e1 e2 h1 h2 h3 st
    subst h1; subst h2; subst h3
    exact Or.inl ⟨v, (T.setVm vm₁).calling g' mk (Value.ref b :: As).toArray, t, U', L, hT, X', hL, e1, e2, hq, st⟩
  · dsimp only [Pt.U, Pt.locs, Pt.cells, Pt.slots] at X' e1 e2 h1 h2 h3 st hcl
    subst h1; subst h2; subst h3
    exact Or.inr ⟨q, (T.setVm vm₁).calling g' mk (Value.ref b :: As).toArray, t, U', L, E, ce, hT, X', hL, e1, e2, hq, hce, hcv, vx_cls hW₁ hcl, st⟩
theorem vx_runS (S : CallFix p m c cc nL s args Ts own) (hM : vx_Met l y ws rm Pc Qc XC mc ms free) (cw : CallB R s args own index y bytes maxL ret ws rm mc ms n ∧ (Cond.static y).before args s = true) (hp : PreS s H Pc As)
    (hg : g.method = m) (hn : As.length = n) (hsize : g.locals.size = nL) (hstack : g.stack = As.reverse ++ rest) (hW : 2 * g.monitorRoom + (rest.map fun v => v.category).sum ≤ 8) (hdg : decode cc g.pc = .ok (.invokestatic index, 3)) (hf : cells + mc ≤ R.cells ∧ slots + ms ≤ R.slots) :
    vx_Run p l e R s m args below meth c H locs cells slots mc ms g rest (Qc As.toArray) XC free := by
  have hK : vx_Back l R p e below s args y 3 8 (PreOf R mc ms Pc) (PostOf Qc mc ms free) (vx_Post XC mc ms free) := vx_callBack cw.1 hM hp.1
  obtain ⟨⟨-, -, -, -, -, -, hcode, hini, hy, hlen, hl⟩, hstt⟩ := cw
  obtain ⟨hx, hb, hml, ho, -⟩ := S
  intro T hT X
  rcases vx_callS X hx (bytes := bytes) (maxL := maxL) (ret := ret) ho hl hstt hini hcode hy hK hg (hsize.trans hml.symm) (argsL := As) (rest := rest) (fun sig h => hn.trans (hlen sig h)) hstack hW (by rw [hb]; exact hdg)
    (fun vm₁ hW₁ => ⟨hf.1, hf.2, hp.2 (T.setVm vm₁) hT hW₁⟩) with ⟨v, vm₁, ⟨U', l2, c2, s2⟩, hW₁, X', ⟨g', mk, t, L, e1, e2, hq, h1, hL, h2, h3⟩, st⟩ | ⟨q, vm₁, ⟨U', l2, c2, s2⟩, hW₁, X', ⟨g', mk, t, L, E, ce, e1, e2, hq, hce, hcv, hcl, h1, hL, h2, h3⟩, st⟩
  · dsimp only [Pt.U, Pt.locs, Pt.cells, Pt.slots] at X' e1 e2 h1 h2 h3 st
    subst h1; subst h2; subst h3
    exact Or.inl ⟨v, (T.setVm vm₁).calling g' mk As.toArray, t, U', L, hT, X', hL, e1, e2, hq, st⟩
  · dsimp only [Pt.U, Pt.locs, Pt.cells, Pt.slots] at X' e1 e2 h1 h2 h3 st hcl
    subst h1; subst h2; subst h3
    exact Or.inr ⟨q, (T.setVm vm₁).calling g' mk As.toArray, t, U', L, E, ce, hT, X', hL, e1, e2, hq, hce, hcv, vx_cls hW₁ hcl, st⟩
end Runs
section Rows
variable {p : Program} {l : Launch} {e : Env} {R : Room} {s : State} {m : MethodId} {args : Array Value} {below : List Frame} {meth : Method} {c : Code} {H : Heap} {locs : List Loc} {cells slots : Nat} {Q : State → Prop}
variable {mc ms : Nat} {free : Addr → Prop} {A0 A1 : Nat → Prop} {H0 : Heap} {a : Array Value} {pc : Nat} {ls : Array Slot} {st0 rest : List Value}
theorem vx_keep {st₀ t T' : State} {L : List Loc} (h0 : st₀.heap = H) (e1 : T'.heap = t.heap) (hS : va_S A0 H0 H locs) (hA : ∀ q, q < H.size → A1 q → A0 q) (hf : ∀ q, free q → A0 q) (hL : ∀ q ∈ L, free q.base) (hF : va_F A1 st₀ t) :
    H.size ≤ T'.heap.size ∧ (∀ q : Nat, q < H.size → ¬ A1 q → T'.heap[q]? = H[q]?) ∧ va_S A0 H0 T'.heap (locs ++ L) := by
  obtain ⟨hz, hk⟩ := hF
  rw [h0] at hz hk
  exact ⟨by rw [e1]; exact hz, fun q h1 h2 => by rw [e1]; exact hk q h1 h2,
    ⟨Nat.le_trans hS.1 (by rw [e1]; exact hz), fun q h1 h2 => by rw [e1, hk q (Nat.lt_of_lt_of_le h1 hS.1) (fun z => h2 (hA q (Nat.lt_of_lt_of_le h1 hS.1) z))]; exact hS.2.1 q h1 h2, fun q hq => by
      rcases List.mem_append.mp hq with h | h
      · exact hS.2.2 q h
      · exact hf _ (hL q h)⟩⟩
theorem vx_calli {S SX : Type} {post : Int32 → S → Prop} {px : SX → Prop} {B : S → State → Prop} {BX : String → SX → State → Prop} {AX : Nat → Prop} (hr : vx_Run p l e R s m args below meth c H locs cells slots mc ms (F0 m pc ls st0) rest (va_Qi post B A1 a) (vx_X px BX AX) free) (hS : va_S A0 H0 H locs) (hA : ∀ q, q < H.size → A1 q → A0 q) (hf : ∀ q, free q → A0 q) (hAX : ∀ q, q < H.size → AX q → A0 q)
    (kx : ∀ (E : String) (ce : Cell) (q9 : Addr) (u : SX) (t : State) (H1 : Heap) (locs1 : List Loc), t.heap = H1 → s.vm.Alike t.vm → px u → BX E u t → H.size ≤ H1.size → (∀ q : Nat, q < H.size → ¬ AX q → H1[q]? = H[q]?) → va_S A0 H0 H1 locs1 → H1[q9]? = some ce → ce.vm = .none → s.vm.findClass E = some ce.cls → vx_W p l e R s m args below meth c H1 locs1 (cells + mc) (slots + ms) Q (F0 m pc ls rest) q9)
    (kk : ∀ (r : Int32) (u : S) (t : State) (H1 : Heap) (locs1 : List Loc), t.heap = H1 → s.vm.Alike t.vm → post r u → B u t → H.size ≤ H1.size → (∀ q : Nat, q < H.size → ¬ A1 q → H1[q]? = H[q]?) → va_S A0 H0 H1 locs1 → W p l e R s m args below meth c H1 locs1 (cells + mc) (slots + ms) Q (F0 m (pc + 3) ls (.int r :: rest))) : W p l e R s m args below meth c H locs cells slots Q (F0 m pc ls st0) := by
  intro T hT X
  rcases hr T hT X with ⟨v, st₀, t, T', L, h0, X', hL, e1, e2, ⟨⟨r, u, hv, hp, hb⟩, hF⟩, st⟩ | ⟨q, st₀, t, T', L, E, ce, h0, X', hL, e1, e2, ⟨u, hp, hb, hF⟩, hce, hcv, hcl, st⟩
  · cases hv
    obtain ⟨k1, k2, k3⟩ := vx_keep h0 e1 hS hA hf hL hF
    obtain ⟨t2, a1, b1⟩ := kk r u t T'.heap (locs ++ L) e1.symm (by rw [← e2]; exact X'.warmed.alike) hp hb k1 k2 k3 T' rfl X'
    exact ⟨t2, st t2 a1, b1⟩
  · obtain ⟨k1, k2, k3⟩ := vx_keep h0 e1 hS hAX hf hL hF
    obtain ⟨t2, a1, b1⟩ := kx E ce q u t T'.heap (locs ++ L) e1.symm (by rw [← e2]; exact X'.warmed.alike) hp hb k1 k2 k3 (by rw [e1]; exact hce) hcv hcl T' rfl X'
    exact ⟨t2, st.trans a1, b1⟩
theorem vx_calll {S SX : Type} {post : Int64 → S → Prop} {px : SX → Prop} {B : S → State → Prop} {BX : String → SX → State → Prop} {AX : Nat → Prop} (hr : vx_Run p l e R s m args below meth c H locs cells slots mc ms (F0 m pc ls st0) rest (va_Ql post B A1 a) (vx_X px BX AX) free) (hS : va_S A0 H0 H locs) (hA : ∀ q, q < H.size → A1 q → A0 q) (hf : ∀ q, free q → A0 q) (hAX : ∀ q, q < H.size → AX q → A0 q)
    (kx : ∀ (E : String) (ce : Cell) (q9 : Addr) (u : SX) (t : State) (H1 : Heap) (locs1 : List Loc), t.heap = H1 → s.vm.Alike t.vm → px u → BX E u t → H.size ≤ H1.size → (∀ q : Nat, q < H.size → ¬ AX q → H1[q]? = H[q]?) → va_S A0 H0 H1 locs1 → H1[q9]? = some ce → ce.vm = .none → s.vm.findClass E = some ce.cls → vx_W p l e R s m args below meth c H1 locs1 (cells + mc) (slots + ms) Q (F0 m pc ls rest) q9)
    (kk : ∀ (r : Int64) (u : S) (t : State) (H1 : Heap) (locs1 : List Loc), t.heap = H1 → s.vm.Alike t.vm → post r u → B u t → H.size ≤ H1.size → (∀ q : Nat, q < H.size → ¬ A1 q → H1[q]? = H[q]?) → va_S A0 H0 H1 locs1 → W p l e R s m args below meth c H1 locs1 (cells + mc) (slots + ms) Q (F0 m (pc + 3) ls (.long r :: rest))) : W p l e R s m args below meth c H locs cells slots Q (F0 m pc ls st0) := by
  intro T hT X
  rcases hr T hT X with ⟨v, st₀, t, T', L, h0, X', hL, e1, e2, ⟨⟨r, u, hv, hp, hb⟩, hF⟩, st⟩ | ⟨q, st₀, t, T', L, E, ce, h0, X', hL, e1, e2, ⟨u, hp, hb, hF⟩, hce, hcv, hcl, st⟩
  · cases hv
    obtain ⟨k1, k2, k3⟩ := vx_keep h0 e1 hS hA hf hL hF
    obtain ⟨t2, a1, b1⟩ := kk r u t T'.heap (locs ++ L) e1.symm (by rw [← e2]; exact X'.warmed.alike) hp hb k1 k2 k3 T' rfl X'
    exact ⟨t2, st t2 a1, b1⟩
  · obtain ⟨k1, k2, k3⟩ := vx_keep h0 e1 hS hAX hf hL hF
    obtain ⟨t2, a1, b1⟩ := kx E ce q u t T'.heap (locs ++ L) e1.symm (by rw [← e2]; exact X'.warmed.alike) hp hb k1 k2 k3 (by rw [e1]; exact hce) hcv hcl T' rfl X'
    exact ⟨t2, st.trans a1, b1⟩
theorem vx_callf {S SX : Type} {post : UInt32 → S → Prop} {px : SX → Prop} {B : S → State → Prop} {BX : String → SX → State → Prop} {AX : Nat → Prop} (hr : vx_Run p l e R s m args below meth c H locs cells slots mc ms (F0 m pc ls st0) rest (va_Qf post B A1 a) (vx_X px BX AX) free) (hS : va_S A0 H0 H locs) (hA : ∀ q, q < H.size → A1 q → A0 q) (hf : ∀ q, free q → A0 q) (hAX : ∀ q, q < H.size → AX q → A0 q)
    (kx : ∀ (E : String) (ce : Cell) (q9 : Addr) (u : SX) (t : State) (H1 : Heap) (locs1 : List Loc), t.heap = H1 → s.vm.Alike t.vm → px u → BX E u t → H.size ≤ H1.size → (∀ q : Nat, q < H.size → ¬ AX q → H1[q]? = H[q]?) → va_S A0 H0 H1 locs1 → H1[q9]? = some ce → ce.vm = .none → s.vm.findClass E = some ce.cls → vx_W p l e R s m args below meth c H1 locs1 (cells + mc) (slots + ms) Q (F0 m pc ls rest) q9)
    (kk : ∀ (r : UInt32) (u : S) (t : State) (H1 : Heap) (locs1 : List Loc), t.heap = H1 → s.vm.Alike t.vm → post r u → B u t → H.size ≤ H1.size → (∀ q : Nat, q < H.size → ¬ A1 q → H1[q]? = H[q]?) → va_S A0 H0 H1 locs1 → W p l e R s m args below meth c H1 locs1 (cells + mc) (slots + ms) Q (F0 m (pc + 3) ls (.float r :: rest))) : W p l e R s m args below meth c H locs cells slots Q (F0 m pc ls st0) := by
  intro T hT X
  rcases hr T hT X with ⟨v, st₀, t, T', L, h0, X', hL, e1, e2, ⟨⟨r, u, hv, hp, hb⟩, hF⟩, st⟩ | ⟨q, st₀, t, T', L, E, ce, h0, X', hL, e1, e2, ⟨u, hp, hb, hF⟩, hce, hcv, hcl, st⟩
  · cases hv
    obtain ⟨k1, k2, k3⟩ := vx_keep h0 e1 hS hA hf hL hF
    obtain ⟨t2, a1, b1⟩ := kk r u t T'.heap (locs ++ L) e1.symm (by rw [← e2]; exact X'.warmed.alike) hp hb k1 k2 k3 T' rfl X'
    exact ⟨t2, st t2 a1, b1⟩
  · obtain ⟨k1, k2, k3⟩ := vx_keep h0 e1 hS hAX hf hL hF
    obtain ⟨t2, a1, b1⟩ := kx E ce q u t T'.heap (locs ++ L) e1.symm (by rw [← e2]; exact X'.warmed.alike) hp hb k1 k2 k3 (by rw [e1]; exact hce) hcv hcl T' rfl X'
    exact ⟨t2, st.trans a1, b1⟩
theorem vx_calld {S SX : Type} {post : UInt64 → S → Prop} {px : SX → Prop} {B : S → State → Prop} {BX : String → SX → State → Prop} {AX : Nat → Prop} (hr : vx_Run p l e R s m args below meth c H locs cells slots mc ms (F0 m pc ls st0) rest (va_Qd post B A1 a) (vx_X px BX AX) free) (hS : va_S A0 H0 H locs) (hA : ∀ q, q < H.size → A1 q → A0 q) (hf : ∀ q, free q → A0 q) (hAX : ∀ q, q < H.size → AX q → A0 q)
    (kx : ∀ (E : String) (ce : Cell) (q9 : Addr) (u : SX) (t : State) (H1 : Heap) (locs1 : List Loc), t.heap = H1 → s.vm.Alike t.vm → px u → BX E u t → H.size ≤ H1.size → (∀ q : Nat, q < H.size → ¬ AX q → H1[q]? = H[q]?) → va_S A0 H0 H1 locs1 → H1[q9]? = some ce → ce.vm = .none → s.vm.findClass E = some ce.cls → vx_W p l e R s m args below meth c H1 locs1 (cells + mc) (slots + ms) Q (F0 m pc ls rest) q9)
    (kk : ∀ (r : UInt64) (u : S) (t : State) (H1 : Heap) (locs1 : List Loc), t.heap = H1 → s.vm.Alike t.vm → post r u → B u t → H.size ≤ H1.size → (∀ q : Nat, q < H.size → ¬ A1 q → H1[q]? = H[q]?) → va_S A0 H0 H1 locs1 → W p l e R s m args below meth c H1 locs1 (cells + mc) (slots + ms) Q (F0 m (pc + 3) ls (.double r :: rest))) : W p l e R s m args below meth c H locs cells slots Q (F0 m pc ls st0) := by
  intro T hT X
  rcases hr T hT X with ⟨v, st₀, t, T', L, h0, X', hL, e1, e2, ⟨⟨r, u, hv, hp, hb⟩, hF⟩, st⟩ | ⟨q, st₀, t, T', L, E, ce, h0, X', hL, e1, e2, ⟨u, hp, hb, hF⟩, hce, hcv, hcl, st⟩
  · cases hv
    obtain ⟨k1, k2, k3⟩ := vx_keep h0 e1 hS hA hf hL hF
    obtain ⟨t2, a1, b1⟩ := kk r u t T'.heap (locs ++ L) e1.symm (by rw [← e2]; exact X'.warmed.alike) hp hb k1 k2 k3 T' rfl X'
    exact ⟨t2, st t2 a1, b1⟩
  · obtain ⟨k1, k2, k3⟩ := vx_keep h0 e1 hS hAX hf hL hF
    obtain ⟨t2, a1, b1⟩ := kx E ce q u t T'.heap (locs ++ L) e1.symm (by rw [← e2]; exact X'.warmed.alike) hp hb k1 k2 k3 (by rw [e1]; exact hce) hcv hcl T' rfl X'
    exact ⟨t2, st.trans a1, b1⟩
theorem vx_callv {S SX : Type} {post : S → Prop} {px : SX → Prop} {B : S → State → Prop} {BX : String → SX → State → Prop} {AX : Nat → Prop} (hr : vx_Run p l e R s m args below meth c H locs cells slots mc ms (F0 m pc ls st0) rest (va_Qv post B A1 a) (vx_X px BX AX) free) (hS : va_S A0 H0 H locs) (hA : ∀ q, q < H.size → A1 q → A0 q) (hf : ∀ q, free q → A0 q) (hAX : ∀ q, q < H.size → AX q → A0 q)
    (kx : ∀ (E : String) (ce : Cell) (q9 : Addr) (u : SX) (t : State) (H1 : Heap) (locs1 : List Loc), t.heap = H1 → s.vm.Alike t.vm → px u → BX E u t → H.size ≤ H1.size → (∀ q : Nat, q < H.size → ¬ AX q → H1[q]? = H[q]?) → va_S A0 H0 H1 locs1 → H1[q9]? = some ce → ce.vm = .none → s.vm.findClass E = some ce.cls → vx_W p l e R s m args below meth c H1 locs1 (cells + mc) (slots + ms) Q (F0 m pc ls rest) q9)
    (kk : ∀ (u : S) (t : State) (H1 : Heap) (locs1 : List Loc), t.heap = H1 → s.vm.Alike t.vm → post u → B u t → H.size ≤ H1.size → (∀ q : Nat, q < H.size → ¬ A1 q → H1[q]? = H[q]?) → va_S A0 H0 H1 locs1 → W p l e R s m args below meth c H1 locs1 (cells + mc) (slots + ms) Q (F0 m (pc + 3) ls (rest))) : W p l e R s m args below meth c H locs cells slots Q (F0 m pc ls st0) := by
  intro T hT X
  rcases hr T hT X with ⟨v, st₀, t, T', L, h0, X', hL, e1, e2, ⟨⟨u, hv, hp, hb⟩, hF⟩, st⟩ | ⟨q, st₀, t, T', L, E, ce, h0, X', hL, e1, e2, ⟨u, hp, hb, hF⟩, hce, hcv, hcl, st⟩
  · cases hv
    obtain ⟨k1, k2, k3⟩ := vx_keep h0 e1 hS hA hf hL hF
    obtain ⟨t2, a1, b1⟩ := kk u t T'.heap (locs ++ L) e1.symm (by rw [← e2]; exact X'.warmed.alike) hp hb k1 k2 k3 T' rfl X'
    exact ⟨t2, st t2 a1, b1⟩
  · obtain ⟨k1, k2, k3⟩ := vx_keep h0 e1 hS hAX hf hL hF
    obtain ⟨t2, a1, b1⟩ := kx E ce q u t T'.heap (locs ++ L) e1.symm (by rw [← e2]; exact X'.warmed.alike) hp hb k1 k2 k3 (by rw [e1]; exact hce) hcv hcl T' rfl X'
    exact ⟨t2, st.trans a1, b1⟩
/-- caught by the row x of this method's table; the rows ahead don't take it -/
theorem vx_catch {own name : String} {E : String} {ce : Cell} {q : Addr} (hown : s.vm.findClass own = some m.cls) (pre : List ExceptionTableEntry) (x : ExceptionTableEntry) (suf : List ExceptionTableEntry) (hsplit : c.exceptionTable.toList = pre ++ x :: suf)
    (hpass : ∀ z ∈ pre, covers z pc = false ∨ (z.catchType ≠ 0 ∧ ∃ nm : String, (Cond.classLink own z.catchType nm).before args s = true ∧ va_Nc E nm s)) (hx : covers x pc = true) (h0 : x.catchType ≠ 0)
    (hlink : (Cond.classLink own x.catchType name).before args s = true) (hcast : (Cond.castable E name).before args s = true) (hcell : H[q]? = some ce) (hv : ce.vm = .none) (hcl : s.vm.findClass E = some ce.cls)
    (kk : W p l e R s m args below meth c H locs cells slots Q (F0 m x.handlerPc ls [.ref q])) : vx_W p l e R s m args below meth c H locs cells slots Q (F0 m pc ls rest) q := by
  intro T hT X
  have hpl : e.platform.magicAccessors = ({} : Platform).magicAccessors := by rw [X.admits.platform]
  obtain ⟨c3, c4, hc3, hc4, hasg⟩ := Cond.castable_spec hcast
  cases Option.some.inj (hc3.symm.trans hcl)
  obtain ⟨c5, hc5, hcl5⟩ := Cond.classLink_spec hown hlink e.platform hpl
  cases Option.some.inj (hc4.symm.trans hc5)
  obtain ⟨vm', X', st⟩ := X.thenCaughtThrough q (g := F0 m pc ls rest) rfl (Steps.refl _) (by rw [hT]; exact hcell) (by rw [hv]; rfl) (by obtain ⟨k9, h9, -⟩ := Vm.findClass_spec hcl; exact ⟨k9, h9⟩) pre x suf hsplit
    (fun z hz => by
      rcases hpass z hz with h | ⟨hz0, nm, hl1, hn1⟩
      · exact Or.inl h
      · obtain ⟨c6, hc6, hcl6⟩ := Cond.classLink_spec hown hl1 e.platform hpl
        obtain ⟨a8, b8, h1, h2, h3⟩ := hn1
        cases Option.some.inj (h1.symm.trans hcl)
        cases Option.some.inj (h2.symm.trans hc6)
        exact Or.inr ⟨hz0, _, hcl6, h3⟩) hx (Or.inr ⟨h0, c4, hcl5, hasg⟩)
  obtain ⟨t, a1, b1⟩ := kk (T.setVm vm') hT X'
  exact ⟨t, st.trans a1, b1⟩
end Rows
section Ends
variable {p : Program} {l : Launch} {e : Env} {R : Room} {s : State} {m : MethodId} {args : Array Value} {below : List Frame} {meth : Method} {c : Code} {H : Heap} {locs : List Loc} {cells slots : Nat} {Q : State → Prop}
variable {mc ms : Nat} {free : Addr → Prop} {A0 A1 : Nat → Prop} {H0 : Heap} {a : Array Value} {ls : Array Slot} {st0 rest : List Value}
variable {Qc : Array Value → State → Outcome → State → Prop} {XC : String → State → State → Prop}
/-- what a body that may throw owes at its end -/
def vx_MQ (below : List Frame) (Qc : Array Value → State → Outcome → State → Prop) (XC : String → State → State → Prop) (a : Array Value) (s : State) (mc ms : Nat) (free : Addr → Prop) : State → Prop := fun t =>
  ∃ o, t.status = .running ∧ Ended t below o ∧ vx_Q Qc XC mc ms free a s o t
theorem vx_ret {g : JFrame} {mc ms : Nat} (k : W p l e R s m args below meth c H locs cells slots (MQ below Qc args s mc ms free) g) : W p l e R s m args below meth c H locs cells slots (vx_MQ below Qc XC args s mc ms free) g := by
  intro T hT X
  obtain ⟨t, a1, o, b1, b2, b3, b4⟩ := k T hT X
  exact ⟨t, a1, o, b1, b2, Or.inl ⟨b3, b4⟩⟩
/-- not caught here: it goes on to the caller -/
theorem vx_widen {g : JFrame} {q : Addr} {k n : Nat} (h1 : cells ≤ k) (h2 : slots ≤ n) (kk : vx_W p l e R s m args below meth c H locs k n Q g q) : vx_W p l e R s m args below meth c H locs cells slots Q g q := fun T hT X => kk T hT (stand_widen X h1 h2)
theorem vx_out {pc : Nat} {E : String} {ce : Cell} {q : Addr} {mc ms : Nat} (hout : ∀ x ∈ c.exceptionTable.toList, covers x pc = false) (hlocks : meth.locks = false) (hcell : H[q]? = some ce) (hv : ce.vm = .none) (hcl : s.vm.findClass E = some ce.cls)
    (hx : ∀ t : State, t.heap = H → s.vm.Alike t.vm → XC E s t) (hf : ∀ z ∈ locs, free z.base) (hc : cells ≤ mc) (hs : slots ≤ ms) :
    vx_W p l e R s m args below meth c H locs cells slots (vx_MQ below Qc XC args s mc ms free) (F0 m pc ls rest) q := by
  intro T hT X
  obtain ⟨st1, hrun, hend, hW, hsm⟩ := X.leaveThrown q (g := F0 m pc ls rest) rfl rfl rfl hout hlocks
  have hcell9 : (T.setFrames (.throwing q :: below)).heap[q]? = some ce := by
    show T.heap[q]? = some ce
    rw [hT]; exact hcell
  exact ⟨_, st1, .threw q, hrun, hend, Or.inr ⟨q, rfl, E, ce, locs, hx _ hT hW.alike, hcell9, hv, hcl, hW, hsm.mono hc hs, hf⟩⟩
theorem vx_frame {U : State} {k n : Nat} (h : s.sameButNew ({ U with vm := s.vm } : State) locs k n) : s.heap.size ≤ U.heap.size ∧ ∀ q : Nat, q < s.heap.size → (∀ z ∈ locs, z.base ≠ q) → U.heap[q]? = s.heap[q]? := by
  obtain ⟨-, h2, -, -, -, h6⟩ := h
  refine ⟨h2, fun q hq hz => ?_⟩
  obtain ⟨c9, e1, e2, e3, e4⟩ := h6 q _ (Array.getElem?_eq_getElem hq)
  have hs : c9.slots = (s.heap[q]).slots := Array.ext_getElem? fun i => e4 i fun hm => hz _ hm rfl
  have h9 : c9 = s.heap[q] := by
    rw [hs] at e2
    exact e2
  have e5 : U.heap[q]? = some c9 := e1
  rw [e5, h9, Array.getElem?_eq_getElem hq]
/-- the words of a throw but the four that speak of the heap -/
def vx_no (w : Cond) : Bool := decide (w ≠ .isRef (.static Bundle.tN "UNASSIGNED_STACK" Bundle.steD)) && decide (w ≠ .isRef (.static Bundle.tN "SUPPRESSED_SENTINEL" Bundle.listD)) && decide (w ≠ .laysStatic Bundle.tN "UNASSIGNED_STACK" Bundle.steD) && decide (w ≠ .laysStatic Bundle.tN "SUPPRESSED_SENTINEL" Bundle.listD)
def vx_at0 (own : String) (ic : Nat) (X : String) (names : List String) : List Cond := (Bundle.ownAtoms0 own ic X names).filter vx_no
def vx_atS (own : String) (ic : Nat) (X : String) (names : List String) : List Cond := (Bundle.ownAtoms own ic X names).filter vx_no
/-- a word that the tables alone decide, or a good one -/
def vx_ot (w : Cond) : Bool := w.onTables || goodWord w
theorem vx_ot_at {args a' : Array Value} {s U : State} {w : Cond} (hW : s.WarmedH U.vm) (hvm : s.vm = U.vm) (hg : vx_ot w = true) (h : w.before args s = true) : w.before a' U = true := by
  simp only [vx_ot, Bool.or_eq_true] at hg
  rcases hg with hg | hg
  · exact va_tabs hg hvm h
  · exact word_at hW (good_of_word hg) h
/-- a list's words: the good ones out of the method's own list, the others by premises of their own -/
theorem vx_hat {args : Array Value} {s : State} {L B : List Cond} (h1 : ∀ w ∈ L.filter goodWord, w.before args s = true) (h2 : ∀ w ∈ L.filter (fun w => !goodWord w), w ∈ B) (h3 : ∀ w ∈ B, w.before args s = true) : ∀ w ∈ L, w.before args s = true := by
  intro w hw
  by_cases g : goodWord w = true
  · exact h1 w (List.mem_filter.mpr ⟨hw, g⟩)
  · refine h3 w (h2 w (List.mem_filter.mpr ⟨hw, ?_⟩))
    show (!goodWord w) = true
    cases hgw : goodWord w
    · rfl
    · exact absurd hgw g
theorem vx_c {args : Array Value} {s : State} {w : Cond} {B : List Cond} (h : w.before args s = true) (t : ∀ w ∈ B, w.before args s = true) : ∀ w' ∈ w :: B, w'.before args s = true := fun w' h' => (List.mem_cons.mp h').elim (fun e => by rw [e]; exact h) (t w')
theorem vx_n {args : Array Value} {s : State} : ∀ w ∈ ([] : List Cond), w.before args s = true := fun _ h => nomatch h
theorem vx_own {args : Array Value} {s : State} {L : List Cond} (h1 : ∀ w ∈ L.filter vx_no, w.before args s = true)
    (hU : (Cond.isRef (.static Bundle.tN "UNASSIGNED_STACK" Bundle.steD)).before args s = true) (hN : (Cond.isRef (.static Bundle.tN "SUPPRESSED_SENTINEL" Bundle.listD)).before args s = true)
    (lU : (Cond.laysStatic Bundle.tN "UNASSIGNED_STACK" Bundle.steD).before args s = true) (lN : (Cond.laysStatic Bundle.tN "SUPPRESSED_SENTINEL" Bundle.listD).before args s = true) : ∀ w ∈ L, w.before args s = true := by
  intro w hw
  by_cases e1 : w = .isRef (.static Bundle.tN "UNASSIGNED_STACK" Bundle.steD)
  · rw [e1]; exact hU
  · by_cases e2 : w = .isRef (.static Bundle.tN "SUPPRESSED_SENTINEL" Bundle.listD)
    · rw [e2]; exact hN
    · by_cases e3 : w = .laysStatic Bundle.tN "UNASSIGNED_STACK" Bundle.steD
      · rw [e3]; exact lU
      · by_cases e4 : w = .laysStatic Bundle.tN "SUPPRESSED_SENTINEL" Bundle.listD
        · rw [e4]; exact lN
        · exact h1 w (List.mem_filter.mpr ⟨hw, by unfold vx_no; rw [decide_eq_true e1, decide_eq_true e2, decide_eq_true e3, decide_eq_true e4]; rfl⟩)
/-- where a static field lies, its class's statics cell in H -/
def vx_L (C n d : String) (A : Nat → Prop) (U : State) (H : Heap) : Prop := ∃ (c : ClassId) (k : Class) (i : Nat) (f : Field) (a : Nat) (cell : Cell), U.vm.findClass C = some c ∧ U.fieldFound? C n d = some (c, k, i, f) ∧ f.isStatic = true ∧ k.statics = some a ∧ H[a]? = some cell ∧ cell.vm.isStatics = true ∧ cell.cls = c ∧ f.slot < cell.slots.size ∧ k.staticTypes[f.slot]? = some f.type ∧ ¬ A a
theorem vx_L.moved {C n d : String} {A : Nat → Prop} {u U : State} {H : Heap} (hvm : u.vm.Alike U.vm) (h : vx_L C n d A u H) : vx_L C n d A U H := by
  obtain ⟨c, k, i, f, a, cell, h1, h2, h3, h4, h5, h6, h7, h8, h9, h10⟩ := h
  obtain ⟨k', hi', he⟩ := State.fieldFound?_setVm hvm h2
  exact ⟨c, k', i, f, a, cell, by rw [hvm.findClass]; exact h1, hi', h3, by rw [he]; exact h4, h5, h6, h7, h8, by rw [he]; exact h9, h10⟩
theorem vx_L.kept {C n d : String} {A : Nat → Prop} {U : State} {H H1 : Heap} (h : vx_L C n d A U H) (hq : ∀ a : Nat, a < H.size → ¬ A a → H1[a]? = H[a]?) : vx_L C n d A U H1 := by
  obtain ⟨c, k, i, f, a, cell, h1, h2, h3, h4, h5, h6, h7, h8, h9, h10⟩ := h
  exact ⟨c, k, i, f, a, cell, h1, h2, h3, h4, by rw [hq a (Array.getElem?_eq_some_iff.mp h5).1 h10]; exact h5, h6, h7, h8, h9, h10⟩
theorem vx_L.narrow {C n d : String} {A B : Nat → Prop} {U : State} {H : Heap} (h : vx_L C n d A U H) (hAB : ∀ q, B q → A q) : vx_L C n d B U H := by
  obtain ⟨c, k, i, f, a, cell, h1, h2, h3, h4, h5, h6, h7, h8, h9, h10⟩ := h
  exact ⟨c, k, i, f, a, cell, h1, h2, h3, h4, h5, h6, h7, h8, h9, fun z => h10 (hAB _ z)⟩
theorem vx_L.word {C n d : String} {A : Nat → Prop} {s : State} {args : Array Value} (h : vx_L C n d A s s.heap) : (Cond.laysStatic C n d).before args s = true := by
  obtain ⟨c, k, i, f, a, cell, h1, h2, h3, h4, h5, h6, h7, h8, h9, -⟩ := h
  show (Cond.laysStatic C n d).holds args s none s [] = true
  exact Cond.laysStatic_of h1 h2 h3 h4 h5 h6 h7 h8 h9
/-- .. and what it holds: null or some reference -/
def vx_Zq (C n d : String) (A : Nat → Prop) (U : State) (H : Heap) : Prop := va_Zq C n d A U H ∧ vx_L C n d A U H
theorem vx_Zq.moved {C n d : String} {A : Nat → Prop} {u U : State} {H : Heap} (hvm : u.vm.Alike U.vm) (h : vx_Zq C n d A u H) : vx_Zq C n d A U H := ⟨va_Zq.moved hvm h.1, vx_L.moved hvm h.2⟩
theorem vx_Zq.kept {C n d : String} {A : Nat → Prop} {U : State} {H H1 : Heap} (h : vx_Zq C n d A U H) (hq : ∀ a : Nat, a < H.size → ¬ A a → H1[a]? = H[a]?) : vx_Zq C n d A U H1 := ⟨va_Zq.kept h.1 hq, vx_L.kept h.2 hq⟩
theorem vx_Zq.narrow {C n d : String} {A B : Nat → Prop} {U : State} {H : Heap} (h : vx_Zq C n d A U H) (hAB : ∀ q, B q → A q) : vx_Zq C n d B U H := ⟨va_Zq.narrow h.1 hAB, vx_L.narrow h.2 hAB⟩
theorem vx_Zqof {args : Array Value} {s : State} {C n d : String} {A : Nat → Prop} (hl : (Cond.laysStatic C n d).before args s = true) (hini : (Cond.initialized C).before args s = true) (h : (Cond.isRef (.static C n d)).before args s = true) (hA : ∀ a : Nat, a < s.heap.size → ¬ A a) : vx_Zq C n d A s s.heap := by
  refine ⟨va_Zqof hl hini h hA, ?_⟩
  obtain ⟨c, k, i, f, a, cell, h1, h2, h3, h4, h5, h6, h7, h8, h9⟩ := Cond.laysStatic_spec hl
  exact ⟨c, k, i, f, a, cell, h1, h2, h3, h4, h5, h6, h7, h8, h9, hA a (Array.getElem?_eq_some_iff.mp h5).1⟩
theorem vx_isRef {C n d : String} {v : Value} {A : Nat → Prop} {s : State} {args : Array Value} (h : va_Z C n d v A s s.heap) (hv : v.isRef = true) : (Cond.isRef (.static C n d)).before args s = true := by
  obtain ⟨cf, kf, fi, f, a, cell, h1, h2, h3, h4, h5, h6, h7, -⟩ := h
  have he : (Term.static C n d).eval args s none [] s = some v := by
    simp [Term.eval, State.fieldNamed?, h1, h2, h4, h5, h6, h7]
  simp only [Cond.before, Cond.holds, Cond.value, he]
  cases v <;> simp_all [Value.isRef]
theorem vx_isRefq {C n d : String} {A : Nat → Prop} {s : State} {args : Array Value} (h : va_Zq C n d A s s.heap) : (Cond.isRef (.static C n d)).before args s = true := by
  rcases h with h | ⟨t, h⟩
  · exact vx_isRef h rfl
  · exact vx_isRef h rfl
/-- the same frame, seen from here: as if the method were called anew in this heap -/
theorem vx_rebase {T : State} (X : Stand p l e R s m args below meth c T locs cells slots) {R' : Room} (hf : R'.frames ≤ R.frames) (hl : R'.locals ≤ R.locals) (hc : cells + R'.cells ≤ R.cells) (hs : slots + R'.slots ≤ R.slots) :
    Stand p l e R' ((T.setVm s.vm).setFrames (.invoking m args :: below)) m args below meth c T [] 0 0 := by
  have htop : (T.setVm s.vm).topJava?.isSome := X.here.top
  have hF : ((T.setVm s.vm).setFrames (.invoking m args :: below)).frames = .invoking m args :: below := State.frames_setFrames _ (State.cur_lt_of_top htop)
  obtain ⟨g₀, hg0⟩ := Option.isSome_iff_exists.mp htop
  obtain ⟨r, hr⟩ := State.topJava?_eq_some.mp hg0
  have hl9 : e.platform.stackLimits (T.setVm s.vm).me = e.platform.stackLimits s.me := X.limits
  have hb9 : (T.setVm s.vm).me.stackBytes = s.me.stackBytes := X.bytes
  refine ⟨X.admits, X.cas, X.clock, hF, ?_, X.hears, X.method, X.code, X.here, X.tail, X.warmed, ?_, ?_, ?_⟩
  · have h := X.room
    have hU : ((T.setVm s.vm).setFrames (.invoking m args :: below)).localsInUse = s.localsInUse := by
      rw [State.localsInUse_invoking hF (meth := meth) (c := c) X.method X.code, State.localsInUse_invoking X.frames X.method X.code]
    simp only [State.hasRoom, Bool.and_eq_true, decide_eq_true_eq] at h ⊢
    obtain ⟨⟨⟨⟨h1, h2, h3, h4, h5, h6⟩, h7⟩, h8⟩, h9⟩ := h
    rw [X.frames, List.length_cons] at h2 h3
    have q1 := X.heapSize
    have q2 := X.used
    simp only [hF, hU, List.length_cons, State.stackLimits_setFrames, State.stackBytes_setFrames, hl9, hb9]
    refine ⟨⟨⟨⟨by omega, by omega, by omega, by omega, by omega, h6⟩, ?_⟩, ?_⟩, X.book⟩
    · show T.heap.size + R'.cells ≤ e.platform.maxCells
      omega
    · show T.slotsUsed + R'.slots ≤ e.platform.maxSlots
      omega
  · rw [State.stackLimits_setFrames]; rfl
  · rw [State.stackBytes_setFrames]; rfl
  · refine ⟨?_, Nat.le_refl _, Nat.le_refl _, ?_, ?_, fun a c9 h9 => ⟨c9, h9, rfl, rfl, fun _ _ => rfl⟩⟩
    · obtain ⟨t, ht, -⟩ := State.frames_cons hr
      show T.setVm s.vm = { ((T.setVm s.vm).setFrames (.invoking m args :: below)).setFrames (T.setVm s.vm).frames with heap := T.heap, slotsUsed := T.slotsUsed }
      rw [State.setFrames_setFrames, State.setFrames_self ht]
      rfl
    · show T.slotsUsed = T.slotsUsed + ((T.heap.toList.drop T.heap.size).map (·.slots.size)).sum
      rw [List.drop_eq_nil_of_le (Nat.le_of_eq Array.length_toList)]
      rfl
    · show ((T.heap.toList.drop T.heap.size).map (·.slots.size)).sum ≤ 0
      rw [List.drop_eq_nil_of_le (Nat.le_of_eq Array.length_toList)]
      exact Nat.le_refl _
/-- 'throw new E()': new; dup; invokespecial; athrow -/
theorem vx_throw0 {cc : ByteArray} {pc : Nat} (hexec : p.tables.exec = Jvm.exec) (hb : c.code = cc) (hl : l.stackTraces = false) {own cls : String} {names : List String} {ik ic mc ms : Nat} {A : Nat → Prop}
    (hown : s.vm.findClass own = some m.cls) (hcls : Bundle.fit cls = true) (hnames : ∀ n ∈ names, Bundle.fit n = true)
    (hk : (Cond.classLink own ik cls).before args s = true) (hini : (Cond.initialized cls).before args s = true) (hat : ∀ w ∈ vx_at0 own ic cls names, w.before args s = true)
    (hgood : ∀ w ∈ Cond.classLink own ik cls :: Cond.initialized cls :: vx_at0 own ic cls names, vx_ot w = true)
    (hU : vx_Zq Bundle.tN "UNASSIGNED_STACK" Bundle.steD A s s.heap) (hN : vx_Zq Bundle.tN "SUPPRESSED_SENTINEL" Bundle.listD A s s.heap) (hS : va_S A s.heap H locs) (hsize : ls.size = c.maxLocals)
    (d0 : decode cc pc = .ok (.new ik, 3)) (d3 : decode cc (pc + 3) = .ok (.dup, 1)) (d4 : decode cc (pc + 4) = .ok (.invokespecial ic, 3)) (d7 : decode cc (pc + 7) = .ok (.athrow, 1))
    (hout : ∀ x ∈ c.exceptionTable.toList, covers x (pc + 7) = false)
    (hRframes : names.length + 3 < R.frames) (hRlocals : (rest.map fun v => v.category).sum + (13 * (names.length + 1) + 42) ≤ R.locals) (hRcells : cells + 1 ≤ R.cells) (hRslots : slots + 6 ≤ R.slots) (hlocks : meth.locks = false)
    (hx : ∀ t : State, s.vm.Alike t.vm → H.size ≤ t.heap.size → (∀ q : Nat, q < H.size → t.heap[q]? = H[q]?) → XC cls s t)
    (hf : ∀ z ∈ locs, free z.base) (hc : cells + 1 ≤ mc) (hs : slots + 6 ≤ ms) :
    W p l e R s m args below meth c H locs cells slots (vx_MQ below Qc XC args s mc ms free) (F0 m pc ls rest) := by
  intro T hT X
  have htr : e.platform.stackTraces = false := (show e.platform.stackTraces = l.stackTraces by rw [X.admits.platform]).trans hl
  have Y := vx_rebase X (R' := { frames := R.frames, locals := R.locals, cells := 1, slots := 6 }) (Nat.le_refl _) (Nat.le_refl _) hRcells hRslots
  obtain ⟨s', hA⟩ : ∃ z, z = (T.setVm s.vm).setFrames (.invoking m args :: below) := ⟨_, rfl⟩
  rw [← hA] at Y
  have hvm : s'.vm = s.vm := by rw [hA]; rfl
  have hhp : s'.heap = H := by rw [hA]; exact hT
  have hW0 : s.WarmedH s'.vm := by rw [hvm]; exact State.WarmedH.refl s
  have hat' : ∀ w ∈ vx_at0 own ic cls names, w.before args s' = true := fun w hw => vx_ot_at hW0 hvm.symm (hgood w (List.mem_cons_of_mem _ (List.mem_cons_of_mem _ hw))) (hat w hw)
  have hk' : (Cond.classLink own ik cls).before args s' = true := vx_ot_at hW0 hvm.symm (hgood _ List.mem_cons_self) hk
  have hini' : (Cond.initialized cls).before args s' = true := vx_ot_at hW0 hvm.symm (hgood _ (List.mem_cons_of_mem _ List.mem_cons_self)) hini
  have hU' : vx_Zq Bundle.tN "UNASSIGNED_STACK" Bundle.steD A s' s'.heap := by rw [hhp]; exact vx_Zq.moved hW0.alike (hU.kept hS.2.1)
  have hN' : vx_Zq Bundle.tN "SUPPRESSED_SENTINEL" Bundle.listD A s' s'.heap := by rw [hhp]; exact vx_Zq.moved hW0.alike (hN.kept hS.2.1)
  have h : ∀ w ∈ Bundle.ownAtoms0 own ic cls names, w.before args s' = true := vx_own hat' (vx_isRefq hU'.1) (vx_isRefq hN'.1) hU'.2.word hN'.2.word
  have hown' : s'.vm.findClass own = some m.cls := by rw [hvm]; exact hown
  have hins : (Cond.instantiable cls 6).before args s' = true := h _ (by simp [Bundle.ownAtoms0])
  obtain ⟨vm₁, cX, kX, hfX, hkX, -, -, X₁, st1⟩ := Y.newCold hexec (own := own) (C := cls) (index := ik) (n := 6) hown' hk' hins hini'
    (g := F0 m pc ls rest) rfl (by rw [hb]; exact d0) (Nat.le_refl _) (Nat.le_refl _)
  generalize hT1 : (T.setVm vm₁).pushCell { cls := cX, slots := kX.instanceTypes.map defaultValue, vm := .none } = T1 at X₁ st1
  have hcat : (Value.ref T.heap.size).category = 1 := rfl
  have hcellA : T1.heap[T.heap.size]? = some (freshCell cX kX) := by rw [← hT1]; exact State.heap_pushCell_size _ _
  have d3' : decode c.code (pc + 3) = .ok (.dup, 1) := by rw [hb]; exact d3
  obtain ⟨U, hsteps, hrun, hend, hW, hsame, ce, hce, hO⟩ := X₁.ctorThrow0 hexec htr (own := own) (cls := cls) (names := names) (ic := ic) hown' hcls hnames h (fun x hx => nomatch hx) hfX hkX hcellA (by rw [hhp, hT]; exact Nat.le_refl _)
    (g := { method := m, pc := pc + 4, locals := ls, stack := .ref T.heap.size :: .ref T.heap.size :: rest, locked := none }) rfl hsize rfl rfl (rest := rest) rfl
    (by rw [hb]; exact d4) (by rw [hb]; exact d7) hout hRframes (by simp only [List.map_cons, List.sum_cons, hcat]; omega) hlocks
  obtain ⟨f1, f2⟩ := vx_frame hsame
  rw [hhp] at f1 f2
  have hWs : s.WarmedH U.vm := State.WarmedH.trans hW0 hW
  have hcl : s.vm.findClass cls = some ce.cls := by
    have h9 := hO.cls
    rw [hvm] at h9
    exact h9
  have hall : s.sameButNew ({ U with vm := s.vm } : State) locs mc ms := by
    subst hA
    obtain ⟨e1, e2⟩ := hsame
    rw [State.setFrames_setFrames] at e1
    have h2 : (T.setVm s.vm).sameButNew ({ U with vm := s.vm } : State) [] (0 + 1) (0 + 6) := ⟨e1, e2⟩
    have h3 := X.same.trans h2
    rw [List.append_nil] at h3
    exact h3.mono hc hs
  refine ⟨U, ?_, .threw T.heap.size, hrun, hend, Or.inr ⟨T.heap.size, rfl, cls, ce, locs, hx U hWs.alike f1 (fun q hq => f2 q hq (fun z hz => nomatch hz)), hce, hO.vm, hcl, hWs, hall, hf⟩⟩
  refine st1 _ ?_
  show Steps p.tables e below (T1.setTop { method := m, pc := pc + 3, locals := ls, stack := .ref T.heap.size :: rest, locked := none }) _
  jvm_step X₁.here [X₁.here.top, hexec, d3', Value.category]
  exact hsteps
/-- 'throw new E("text")': new; dup; ldc; invokespecial; athrow -/
theorem vx_throwS {cc : ByteArray} {pc : Nat} (hexec : p.tables.exec = Jvm.exec) (hb : c.code = cc) (hl : l.stackTraces = false) {own cls text : String} {names : List String} {ik is ic mc ms sa : Nat} {A : Nat → Prop}
    (hown : s.vm.findClass own = some m.cls) (hcls : Bundle.fit cls = true) (hnames : ∀ n ∈ names, Bundle.fit n = true)
    (hk : (Cond.classLink own ik cls).before args s = true) (hini : (Cond.initialized cls).before args s = true) (hstr : vk_R own is text sa s) (hat : ∀ w ∈ vx_atS own ic cls names, w.before args s = true)
    (hgood : ∀ w ∈ Cond.classLink own ik cls :: Cond.initialized cls :: vx_atS own ic cls names, vx_ot w = true)
    (hU : vx_Zq Bundle.tN "UNASSIGNED_STACK" Bundle.steD A s s.heap) (hN : vx_Zq Bundle.tN "SUPPRESSED_SENTINEL" Bundle.listD A s s.heap) (hS : va_S A s.heap H locs) (hsize : ls.size = c.maxLocals)
    (d0 : decode cc pc = .ok (.new ik, 3)) (d3 : decode cc (pc + 3) = .ok (.dup, 1)) (d4 : decode cc (pc + 4) = .ok (.ldc is, 2)) (d6 : decode cc (pc + 6) = .ok (.invokespecial ic, 3)) (d9 : decode cc (pc + 9) = .ok (.athrow, 1))
    (hout : ∀ x ∈ c.exceptionTable.toList, covers x (pc + 9) = false)
    (hRframes : names.length + 3 < R.frames) (hRlocals : (rest.map fun v => v.category).sum + (13 * (names.length + 1) + 43) ≤ R.locals) (hRcells : cells + 1 ≤ R.cells) (hRslots : slots + 6 ≤ R.slots) (hlocks : meth.locks = false)
    (hx : ∀ t : State, s.vm.Alike t.vm → H.size ≤ t.heap.size → (∀ q : Nat, q < H.size → t.heap[q]? = H[q]?) → XC cls s t)
    (hf : ∀ z ∈ locs, free z.base) (hc : cells + 1 ≤ mc) (hs : slots + 6 ≤ ms) :
    W p l e R s m args below meth c H locs cells slots (vx_MQ below Qc XC args s mc ms free) (F0 m pc ls rest) := by
  intro T hT X
  have htr : e.platform.stackTraces = false := (show e.platform.stackTraces = l.stackTraces by rw [X.admits.platform]).trans hl
  have Y := vx_rebase X (R' := { frames := R.frames, locals := R.locals, cells := 1, slots := 6 }) (Nat.le_refl _) (Nat.le_refl _) hRcells hRslots
  obtain ⟨s', hA⟩ : ∃ z, z = (T.setVm s.vm).setFrames (.invoking m args :: below) := ⟨_, rfl⟩
  rw [← hA] at Y
  have hvm : s'.vm = s.vm := by rw [hA]; rfl
  have hhp : s'.heap = H := by rw [hA]; exact hT
  have hW0 : s.WarmedH s'.vm := by rw [hvm]; exact State.WarmedH.refl s
  have hat' : ∀ w ∈ vx_atS own ic cls names, w.before args s' = true := fun w hw => vx_ot_at hW0 hvm.symm (hgood w (List.mem_cons_of_mem _ (List.mem_cons_of_mem _ hw))) (hat w hw)
  have hk' : (Cond.classLink own ik cls).before args s' = true := vx_ot_at hW0 hvm.symm (hgood _ List.mem_cons_self) hk
  have hini' : (Cond.initialized cls).before args s' = true := vx_ot_at hW0 hvm.symm (hgood _ (List.mem_cons_of_mem _ List.mem_cons_self)) hini
  have hU' : vx_Zq Bundle.tN "UNASSIGNED_STACK" Bundle.steD A s' s'.heap := by rw [hhp]; exact vx_Zq.moved hW0.alike (hU.kept hS.2.1)
  have hN' : vx_Zq Bundle.tN "SUPPRESSED_SENTINEL" Bundle.listD A s' s'.heap := by rw [hhp]; exact vx_Zq.moved hW0.alike (hN.kept hS.2.1)
  have h : ∀ w ∈ Bundle.ownAtoms own ic cls names, w.before args s' = true := vx_own hat' (vx_isRefq hU'.1) (vx_isRefq hN'.1) hU'.2.word hN'.2.word
  have hown' : s'.vm.findClass own = some m.cls := by rw [hvm]; exact hown
  have hins : (Cond.instantiable cls 6).before args s' = true := h _ (by simp [Bundle.ownAtoms])
  obtain ⟨vm₁, cX, kX, hfX, hkX, -, -, X₁, st1⟩ := Y.newCold hexec (own := own) (C := cls) (index := ik) (n := 6) hown' hk' hins hini'
    (g := F0 m pc ls rest) rfl (by rw [hb]; exact d0) (Nat.le_refl _) (Nat.le_refl _)
  generalize hT1 : (T.setVm vm₁).pushCell { cls := cX, slots := kX.instanceTypes.map defaultValue, vm := .none } = T1 at X₁ st1
  have hcat : (Value.ref T.heap.size).category = 1 := rfl
  have hcellA : T1.heap[T.heap.size]? = some (freshCell cX kX) := by rw [← hT1]; exact State.heap_pushCell_size _ _
  have d3' : decode c.code (pc + 3) = .ok (.dup, 1) := by rw [hb]; exact d3
  have d4' : decode c.code (pc + 4) = .ok (.ldc is, 2) := by rw [hb]; exact d4
  have hstr' : vk_R own is text sa s' := vk_R.warm hW0 hstr
  obtain ⟨U, hsteps, hrun, hend, hW, hsame, ce, hce, hO⟩ := X₁.ctorThrowS hexec htr (own := own) (cls := cls) (names := names) (ic := ic) hown' hcls hnames h (fun x hx => nomatch hx) hfX hkX hcellA (by rw [hhp, hT]; exact Nat.le_refl _) (msg := .ref sa) rfl
    (g := { method := m, pc := pc + 6, locals := ls, stack := .ref sa :: .ref T.heap.size :: .ref T.heap.size :: rest, locked := none }) rfl hsize rfl rfl (rest := rest) rfl
    (by rw [hb]; exact d6) (by rw [hb]; exact d9) hout hRframes (by simp only [List.map_cons, List.sum_cons, hcat]; omega) hlocks
  obtain ⟨f1, f2⟩ := vx_frame hsame
  rw [hhp] at f1 f2
  have hWs : s.WarmedH U.vm := State.WarmedH.trans hW0 hW
  have hcl : s.vm.findClass cls = some ce.cls := by
    have h9 := hO.cls
    rw [hvm] at h9
    exact h9
  have hall : s.sameButNew ({ U with vm := s.vm } : State) locs mc ms := by
    subst hA
    obtain ⟨e1, e2⟩ := hsame
    rw [State.setFrames_setFrames] at e1
    have h2 : (T.setVm s.vm).sameButNew ({ U with vm := s.vm } : State) [] (0 + 1) (0 + 6) := ⟨e1, e2⟩
    have h3 := X.same.trans h2
    rw [List.append_nil] at h3
    exact h3.mono hc hs
  refine ⟨U, ?_, .threw T.heap.size, hrun, hend, Or.inr ⟨T.heap.size, rfl, cls, ce, locs, hx U hWs.alike f1 (fun q hq => f2 q hq (fun z hz => nomatch hz)), hce, hO.vm, hcl, hWs, hall, hf⟩⟩
  refine st1 _ ?_
  show Steps p.tables e below (T1.setTop { method := m, pc := pc + 3, locals := ls, stack := .ref T.heap.size :: rest, locked := none }) _
  jvm_step X₁.here [X₁.here.top, hexec, d3', Value.category]
  exact X₁.ldcString hexec (own := own) (text := text) (index := is) (a := sa) hown' hstr'.1 hstr'.2
    (g := { method := m, pc := pc + 4, locals := ls, stack := .ref T.heap.size :: .ref T.heap.size :: rest, locked := none }) rfl d4' _ hsteps
/-- 'throw new E("text")', the text by a wide index -/
theorem vx_throwSW {cc : ByteArray} {pc : Nat} (hexec : p.tables.exec = Jvm.exec) (hb : c.code = cc) (hl : l.stackTraces = false) {own cls text : String} {names : List String} {ik is ic mc ms sa : Nat} {A : Nat → Prop}
    (hown : s.vm.findClass own = some m.cls) (hcls : Bundle.fit cls = true) (hnames : ∀ n ∈ names, Bundle.fit n = true)
    (hk : (Cond.classLink own ik cls).before args s = true) (hini : (Cond.initialized cls).before args s = true) (hstr : vk_R own is text sa s) (hat : ∀ w ∈ vx_atS own ic cls names, w.before args s = true)
    (hgood : ∀ w ∈ Cond.classLink own ik cls :: Cond.initialized cls :: vx_atS own ic cls names, vx_ot w = true)
    (hU : vx_Zq Bundle.tN "UNASSIGNED_STACK" Bundle.steD A s s.heap) (hN : vx_Zq Bundle.tN "SUPPRESSED_SENTINEL" Bundle.listD A s s.heap) (hS : va_S A s.heap H locs) (hsize : ls.size = c.maxLocals)
    (d0 : decode cc pc = .ok (.new ik, 3)) (d3 : decode cc (pc + 3) = .ok (.dup, 1)) (d4 : decode cc (pc + 4) = .ok (.ldc_w is, 3)) (d7 : decode cc (pc + 7) = .ok (.invokespecial ic, 3)) (d10 : decode cc (pc + 10) = .ok (.athrow, 1))
    (hout : ∀ x ∈ c.exceptionTable.toList, covers x (pc + 10) = false)
    (hRframes : names.length + 3 < R.frames) (hRlocals : (rest.map fun v => v.category).sum + (13 * (names.length + 1) + 43) ≤ R.locals) (hRcells : cells + 1 ≤ R.cells) (hRslots : slots + 6 ≤ R.slots) (hlocks : meth.locks = false)
    (hx : ∀ t : State, s.vm.Alike t.vm → H.size ≤ t.heap.size → (∀ q : Nat, q < H.size → t.heap[q]? = H[q]?) → XC cls s t)
    (hf : ∀ z ∈ locs, free z.base) (hc : cells + 1 ≤ mc) (hs : slots + 6 ≤ ms) :
    W p l e R s m args below meth c H locs cells slots (vx_MQ below Qc XC args s mc ms free) (F0 m pc ls rest) := by
  intro T hT X
  have htr : e.platform.stackTraces = false := (show e.platform.stackTraces = l.stackTraces by rw [X.admits.platform]).trans hl
  have Y := vx_rebase X (R' := { frames := R.frames, locals := R.locals, cells := 1, slots := 6 }) (Nat.le_refl _) (Nat.le_refl _) hRcells hRslots
  obtain ⟨s', hA⟩ : ∃ z, z = (T.setVm s.vm).setFrames (.invoking m args :: below) := ⟨_, rfl⟩
  rw [← hA] at Y
  have hvm : s'.vm = s.vm := by rw [hA]; rfl
  have hhp : s'.heap = H := by rw [hA]; exact hT
  have hW0 : s.WarmedH s'.vm := by rw [hvm]; exact State.WarmedH.refl s
  have hat' : ∀ w ∈ vx_atS own ic cls names, w.before args s' = true := fun w hw => vx_ot_at hW0 hvm.symm (hgood w (List.mem_cons_of_mem _ (List.mem_cons_of_mem _ hw))) (hat w hw)
  have hk' : (Cond.classLink own ik cls).before args s' = true := vx_ot_at hW0 hvm.symm (hgood _ List.mem_cons_self) hk
  have hini' : (Cond.initialized cls).before args s' = true := vx_ot_at hW0 hvm.symm (hgood _ (List.mem_cons_of_mem _ List.mem_cons_self)) hini
  have hU' : vx_Zq Bundle.tN "UNASSIGNED_STACK" Bundle.steD A s' s'.heap := by rw [hhp]; exact vx_Zq.moved hW0.alike (hU.kept hS.2.1)
  have hN' : vx_Zq Bundle.tN "SUPPRESSED_SENTINEL" Bundle.listD A s' s'.heap := by rw [hhp]; exact vx_Zq.moved hW0.alike (hN.kept hS.2.1)
  have h : ∀ w ∈ Bundle.ownAtoms own ic cls names, w.before args s' = true := vx_own hat' (vx_isRefq hU'.1) (vx_isRefq hN'.1) hU'.2.word hN'.2.word
  have hown' : s'.vm.findClass own = some m.cls := by rw [hvm]; exact hown
  have hins : (Cond.instantiable cls 6).before args s' = true := h _ (by simp [Bundle.ownAtoms])
  obtain ⟨vm₁, cX, kX, hfX, hkX, -, -, X₁, st1⟩ := Y.newCold hexec (own := own) (C := cls) (index := ik) (n := 6) hown' hk' hins hini'
    (g := F0 m pc ls rest) rfl (by rw [hb]; exact d0) (Nat.le_refl _) (Nat.le_refl _)
  generalize hT1 : (T.setVm vm₁).pushCell { cls := cX, slots := kX.instanceTypes.map defaultValue, vm := .none } = T1 at X₁ st1
  have hcat : (Value.ref T.heap.size).category = 1 := rfl
  have hcellA : T1.heap[T.heap.size]? = some (freshCell cX kX) := by rw [← hT1]; exact State.heap_pushCell_size _ _
  have d3' : decode c.code (pc + 3) = .ok (.dup, 1) := by rw [hb]; exact d3
  have d4' : decode c.code (pc + 4) = .ok (.ldc_w is, 3) := by rw [hb]; exact d4
  have hstr' : vk_R own is text sa s' := vk_R.warm hW0 hstr
  obtain ⟨U, hsteps, hrun, hend, hW, hsame, ce, hce, hO⟩ := X₁.ctorThrowS hexec htr (own := own) (cls := cls) (names := names) (ic := ic) hown' hcls hnames h (fun x hx => nomatch hx) hfX hkX hcellA (by rw [hhp, hT]; exact Nat.le_refl _) (msg := .ref sa) rfl
    (g := { method := m, pc := pc + 7, locals := ls, stack := .ref sa :: .ref T.heap.size :: .ref T.heap.size :: rest, locked := none }) rfl hsize rfl rfl (rest := rest) rfl
    (by rw [hb]; exact d7) (by rw [hb]; exact d10) hout hRframes (by simp only [List.map_cons, List.sum_cons, hcat]; omega) hlocks
  obtain ⟨f1, f2⟩ := vx_frame hsame
  rw [hhp] at f1 f2
  have hWs : s.WarmedH U.vm := State.WarmedH.trans hW0 hW
  have hcl : s.vm.findClass cls = some ce.cls := by
    have h9 := hO.cls
    rw [hvm] at h9
    exact h9
  have hall : s.sameButNew ({ U with vm := s.vm } : State) locs mc ms := by
    subst hA
    obtain ⟨e1, e2⟩ := hsame
    rw [State.setFrames_setFrames] at e1
    have h2 : (T.setVm s.vm).sameButNew ({ U with vm := s.vm } : State) [] (0 + 1) (0 + 6) := ⟨e1, e2⟩
    have h3 := X.same.trans h2
    rw [List.append_nil] at h3
    exact h3.mono hc hs
  refine ⟨U, ?_, .threw T.heap.size, hrun, hend, Or.inr ⟨T.heap.size, rfl, cls, ce, locs, hx U hWs.alike f1 (fun q hq => f2 q hq (fun z hz => nomatch hz)), hce, hO.vm, hcl, hWs, hall, hf⟩⟩
  refine st1 _ ?_
  show Steps p.tables e below (T1.setTop { method := m, pc := pc + 3, locals := ls, stack := .ref T.heap.size :: rest, locked := none }) _
  jvm_step X₁.here [X₁.here.top, hexec, d3', Value.category]
  exact X₁.ldcStringW hexec (own := own) (text := text) (index := is) (a := sa) hown' hstr'.1 hstr'.2
    (g := { method := m, pc := pc + 4, locals := ls, stack := .ref T.heap.size :: .ref T.heap.size :: rest, locked := none }) rfl d4' _ hsteps
end Ends
section Bodies
variable {l : Launch}
theorem vx_ofW {y : MethodName} {ws ws' : List Cond} {rm : Room} {Pc : Array Value → State → Prop} {Qc : Array Value → State → Outcome → State → Prop} {XC : String → State → State → Prop} {mc ms : Nat} {free : Addr → Prop} {cc : ByteArray} {maxL : Nat} {ret : Option FieldType}
    (hy : plainName y.cls = true) (hw : ws = Cond.code y cc maxL ret :: ws')
    (body : ∀ p e s m args below meth c s₁, BodyLoose p l y (headSpec ws rm) cc maxL ret e s m args below meth c s₁ → c.maxLocals = maxL → (∀ x ∈ c.exceptionTable.toList, False) → Pc args s →
      W p l e (headSpec ws rm).room s m args below meth c s.heap [] 0 0 (vx_MQ below Qc XC args s mc ms free) (entryFrame m args maxL)) : vx_Met l y ws rm Pc Qc XC mc ms free := by
  refine MetFree.of_bodyS (code := cc) (maxLocals := maxL) (ret := ret) hy ?_ ?_
  · intro args s m h hn
    obtain ⟨meth, c, h1, h2, h3, h4, h5, h6, -, -⟩ := Cond.code_spec hn (atoms_spec (ws := ws) h _ (by rw [hw]; exact List.mem_cons_self))
    exact ⟨meth, c, h1, h2, h3, h4, h5, h6⟩
  · intro p e s m args below meth c s₁ B hml hP _
    have hh0 : s₁.heap = s.heap := by rw [B.state]; rfl
    have ht : ∀ x ∈ c.exceptionTable.toList, False := by
      obtain ⟨meth9, c9, h1, h2, -, -, -, -, h7, -⟩ := Cond.code_spec B.named (atoms_spec (ws := ws) B.pre _ (by rw [hw]; exact List.mem_cons_self))
      cases Option.some.inj (h1.symm.trans B.method)
      cases Option.some.inj (h2.symm.trans (Stand.of_body B).code)
      intro x hx
      rw [Array.isEmpty_iff.mp h7] at hx
      cases hx
    obtain ⟨t, a1, o, b1, b2, b3⟩ := body p e s m args below meth c s₁ B hml ht hP s₁ hh0 (Stand.of_body B)
    exact ⟨t, o, a1, b1, b2, b3⟩
/-- the table of a body with handlers -/
theorem vx_table {p : Program} {x y : MethodName} {S : Spec} {cc bytes : ByteArray} {maxL maxL' : Nat} {ret ret' : Option FieldType} {e : Env} {s s₁ : State} {m : MethodId} {args : Array Value} {below : List Frame} {meth : Method} {c : Code} {hh : List (Nat × Nat × Nat × Nat)}
    (B : BodyLoose p l y S cc maxL ret e s m args below meth c s₁) (h : (Cond.codeWith y bytes maxL' ret' hh).before args s = true) : c.exceptionTable.toList = tableOf hh := by
  obtain ⟨m9, meth9, c9, hn9, h1, h2, -, -, h6, -⟩ := Cond.codeWith_spec h
  cases Option.some.inj (hn9.symm.trans B.named)
  cases Option.some.inj (h1.symm.trans B.method)
  cases Option.some.inj (h2.symm.trans (Stand.of_body B).code)
  rw [← h6, table_eq]
end Bodies
end VXA
/-! ===== END ===== -/
/-! ===== BEGIN a static call of a method with an exception table ===== -/
section VXS
variable {p : Program} {l : Launch} {e : Env} {R : Room} {s : State} {m : MethodId} {args : Array Value} {below : List Frame} {meth : Method} {c : Code} {T : State} {H : Heap} {locs : List Loc} {cells slots : Nat}
abbrev vx_CSW (R : Room) (s : State) (args : Array Value) (own : String) (index : Nat) (y : MethodName) (bytes : ByteArray) (maxL : Nat) (ret : Option FieldType) (hh : List (Nat × Nat × Nat × Nat)) (ws : List Cond) (rm : Room) (mc ms n : Nat) : Prop :=
  (rm.cells = mc ∧ rm.slots = ms ∧ rm.frames + 1 ≤ R.frames ∧ 8 + (maxL + 11) + rm.locals ≤ R.locals ∧ (∀ w ∈ ws, ∀ (a' : Array Value) (U : State), s.WarmedH U.vm → w.before a' U = true) ∧ Cond.codeWith y bytes maxL ret hh ∈ ws) ∧
  (Cond.codeWith y bytes maxL ret hh).before args s = true ∧ (Cond.initialized y.cls).before args s = true ∧ (y.cls ≠ "java/lang/invoke/MethodHandle" ∧ y.cls ≠ "java/lang/invoke/VarHandle") ∧
  (∀ sig, parseMethodDescriptor y.desc = some sig → n = sig.parameters.length) ∧ (Cond.methodLink own index y).before args s = true ∧ (Cond.static y).before args s = true
theorem vx_cwSW {own : String} {index maxL mc ms : Nat} {y : MethodName} {bytes : ByteArray} {ret : Option FieldType} {hh : List (Nat × Nat × Nat × Nat)} {Ts ws ws' : List Cond} {rm : Room} (n : Nat) (ht : ∀ w ∈ Ts, w.before args s = true) (hT : GoodIn Ts (va_wsS own index y ws)) (hw : ws = Cond.codeWith y bytes maxL ret hh :: ws') (hrc : rm.cells = mc) (hrs : rm.slots = ms)
    (hd : y.cls ≠ "java/lang/invoke/MethodHandle" ∧ y.cls ≠ "java/lang/invoke/VarHandle" ∧ (parseMethodDescriptor y.desc).map (fun d => d.parameters.length) = some n) (hR : rm.frames + 1 ≤ R.frames ∧ 8 + (maxL + 11) + rm.locals ≤ R.locals) :
    vx_CSW R s args own index y bytes maxL ret hh ws rm mc ms n := by
  have ok : ∀ w ∈ va_wsS own index y ws, w.before args s = true := fun w h => ht w (hT w h).1
  have hG : GoodIn Ts ws := fun w h => hT w (by unfold va_wsS; exact List.mem_append_right _ h)
  have hc : Cond.codeWith y bytes maxL ret hh ∈ ws := by rw [hw]; exact List.mem_cons_self
  refine ⟨⟨hrc, hrs, hR.1, hR.2, pay_in ht hG, hc⟩, ht _ (hG _ hc).1, ok _ (by simp [va_wsS]), ⟨hd.1, hd.2.1⟩, fun sig h => ?_, ok _ (by simp [va_wsS]), ok _ (by simp [va_wsS])⟩
  have h2 := hd.2.2
  rw [h] at h2
  exact (Option.some.inj h2).symm
theorem vx_callSW (X : Stand p l e R s m args below meth c T locs cells slots) (hexec : p.tables.exec = Jvm.exec) {own : String} {index : Nat} {y : MethodName} {bytes : ByteArray} {maxL : Nat} {ret : Option FieldType} {hh : List (Nat × Nat × Nat × Nat)}
    (hown : s.vm.findClass own = some m.cls) (hlink : (Cond.methodLink own index y).before args s = true) (hstat : (Cond.static y).before args s = true) (hinit : (Cond.initialized y.cls).before args s = true)
    (hcode : (Cond.codeWith y bytes maxL ret hh).before args s = true) (hy : y.cls ≠ "java/lang/invoke/MethodHandle" ∧ y.cls ≠ "java/lang/invoke/VarHandle")
    {W9 : Nat} {Pre : Pt → Array Value → Prop} {Post : Pt → Array Value → Option Value → Pt → Prop} (hK : Back l R p e below s args y 3 W9 Pre Post)
    {g : JFrame} (hg : g.method = m) (hsize : g.locals.size = c.maxLocals) {argsL rest : List Value} (hlen : ∀ sig, parseMethodDescriptor y.desc = some sig → argsL.length = sig.parameters.length)
    (hstack : g.stack = argsL.reverse ++ rest) (hW : 2 * g.monitorRoom + (rest.map fun v => v.category).sum ≤ W9) (hdg : decode c.code g.pc = .ok (.invokestatic index, 3))
    (hpre : ∀ vm₁, s.WarmedH vm₁ → Pre ⟨T.setVm vm₁, locs, cells, slots⟩ argsL.toArray) :
    ∃ (v : Option Value) (vm₁ : Vm) (B : Pt), s.WarmedH vm₁ ∧ Stand p l e R s m args below meth c B.U B.locs B.cells B.slots ∧ Post ⟨T.setVm vm₁, locs, cells, slots⟩ argsL.toArray v B ∧
      ∀ target, Steps p.tables e below (B.U.setTop { g with pc := g.pc + 3, stack := v.toList ++ rest }) target → Steps p.tables e below (T.setTop g) target := by
  obtain ⟨mk, methM, cM, hnamed, hmethM, -, -, -, -, -, -, hsigM⟩ := Cond.codeWith_spec hcode
  have hstatic : methM.isStatic = true := Cond.static_spec hnamed hmethM hstat
  obtain ⟨kP, hkP, -⟩ := className_of_methodNamed hnamed
  have hinitP : kP.init = .initialized := Cond.initialized_spec (findClass_of_methodNamed hnamed) hkP hinit
  obtain ⟨vm₁, X₁, hstep₁⟩ := X.invokestatic hexec hown hlink hnamed hmethM hstatic hkP hinitP hy (g := g) hg (argsL := argsL) (rest := rest) (hlen _ hsigM) hstack hdg
  obtain ⟨v, B, X', hpost, hsteps⟩ := hK m meth c ⟨T.setVm vm₁, locs, cells, slots⟩ { g with stack := rest } (.invokestatic index) mk argsL.toArray X₁ hg hsize hdg hW (X₁.named hnamed) (hpre vm₁ X₁.warmed)
  exact ⟨v, vm₁, B, X₁.warmed, X', hpost, fun target h => hstep₁ _ fun acts => by rw [doInvoke_state]; exact hsteps.trans h⟩
theorem vx_runSW {y : MethodName} {bytes cc : ByteArray} {maxL nL mc ms n index : Nat} {ret : Option FieldType} {hh : List (Nat × Nat × Nat × Nat)} {ws : List Cond} {rm : Room} {Pc : Array Value → State → Prop} {Qc : Array Value → State → Outcome → State → Prop} {free : Addr → Prop} {Ts : List Cond} {own : String} {As rest : List Value} {g : JFrame}
    (S : CallFix p m c cc nL s args Ts own) (hM : Met l y ws rm Pc Qc mc ms free) (cw : vx_CSW R s args own index y bytes maxL ret hh ws rm mc ms n) (hp : PreS s H Pc As)
    (hg : g.method = m) (hn : As.length = n) (hsize : g.locals.size = nL) (hstack : g.stack = As.reverse ++ rest) (hW : 2 * g.monitorRoom + (rest.map fun v => v.category).sum ≤ 8) (hdg : decode cc g.pc = .ok (.invokestatic index, 3)) (hf : cells + mc ≤ R.cells ∧ slots + ms ≤ R.slots) :
    va_Run p l e R s m args below meth c H locs cells slots mc ms g rest (Qc As.toArray) (free) := by
  obtain ⟨⟨hrc, hrs, hfr, hlo, hws, hcw⟩, hcode, hini, hy, hlen, hl, hstt⟩ := cw
  have hK : Back l R p e below s args y 3 8 (PreOf R mc ms Pc) (PostOf Qc mc ms free) := va_backW (hh := hh) (bytes := bytes) (maxL := maxL) (ret := ret) hM hp.1 hrc hrs hfr hlo hws hcw (fun a' U hW => word_at hW (Or.inl (by first | rfl | simp [Cond.onTables, Cond.keeps, Cond.steady])) hini)
  obtain ⟨hx, hb, hml, ho, -⟩ := S
  intro T hT X
  obtain ⟨v, vm₁, ⟨U', l2, c2, s2⟩, hW₁, X', ⟨g', mk, t, L, e1, e2, hq, h1, hL, h2, h3⟩, st⟩ := vx_callSW X hx (hh := hh) (bytes := bytes) (maxL := maxL) (ret := ret) ho hl hstt hini hcode hy hK hg (hsize.trans hml.symm) (argsL := As) (rest := rest) (fun sig h => hn.trans (hlen sig h)) hstack hW (by rw [hb]; exact hdg)
    (fun vm₁ hW₁ => ⟨hf.1, hf.2, hp.2 (T.setVm vm₁) hT hW₁⟩)
  dsimp only [Pt.U, Pt.locs, Pt.cells, Pt.slots] at X' e1 e2 h1 h2 h3 st
  subst h1; subst h2; subst h3
  exact ⟨v, (T.setVm vm₁).calling g' mk As.toArray, t, U', L, hT, X', hL, e1, e2, hq, st⟩
/-- not caught here, past rows that name other classes: it goes on to the caller -/
theorem vx_outP {p : Program} {l : Launch} {e : Env} {R : Room} {s : State} {m : MethodId} {args : Array Value} {below : List Frame} {meth : Method} {c : Code} {H : Heap} {locs : List Loc} {cells slots : Nat} {free : Addr → Prop} {ls : Array Slot} {rest : List Value} {Qc : Array Value → State → Outcome → State → Prop} {XC : String → State → State → Prop}
    {pc : Nat} {own E : String} {ce : Cell} {q : Addr} {mc ms : Nat} (hown : s.vm.findClass own = some m.cls) (hlocks : meth.locks = false)
    (hpass : ∀ z ∈ c.exceptionTable.toList, covers z pc = false ∨ (z.catchType ≠ 0 ∧ ∃ nm : String, (Cond.classLink own z.catchType nm).before args s = true ∧ va_Nc E nm s)) (hcell : H[q]? = some ce) (hv : ce.vm = .none) (hcl : s.vm.findClass E = some ce.cls)
    (hx : ∀ t : State, t.heap = H → s.vm.Alike t.vm → XC E s t) (hf : ∀ z ∈ locs, free z.base) (hc : cells ≤ mc) (hs : slots ≤ ms) :
    vx_W p l e R s m args below meth c H locs cells slots (vx_MQ below Qc XC args s mc ms free) (F0 m pc ls rest) q := by
  intro T hT X
  have hpl : e.platform.magicAccessors = ({} : Platform).magicAccessors := by rw [X.admits.platform]
  obtain ⟨vm', hW', X', st⟩ := X.outThrough hlocks q (g := F0 m pc ls rest) rfl rfl rfl (cell := ce) (by rw [hT]; exact hcell) (by rw [hv]; rfl)
    (by obtain ⟨k9, h9, -⟩ := Vm.findClass_spec hcl; exact ⟨k9, h9⟩) (fun z hz => by
      rcases hpass z hz with h | ⟨hz0, nm, hl1, hn1⟩
      · exact Or.inl h
      · obtain ⟨c6, hc6, hcl6⟩ := Cond.classLink_spec hown hl1 e.platform hpl
        obtain ⟨a8, b8, h1, h2, h3⟩ := hn1
        cases Option.some.inj (h1.symm.trans hcl)
        cases Option.some.inj (h2.symm.trans hc6)
        exact Or.inr ⟨hz0, _, hcl6, h3⟩)
  obtain ⟨g₀, hfr⟩ := X'.frames_eq
  have hcell9 : ((T.setVm vm').setFrames (.throwing q :: below)).heap[q]? = some ce := by
    show T.heap[q]? = some ce
    rw [hT]; exact hcell
  have hend : Ended ((T.setVm vm').setFrames (.throwing q :: below)) below (.threw q) := State.frames_setFrames _ (State.cur_lt_of_frames hfr)
  refine ⟨(T.setVm vm').setFrames (.throwing q :: below), ?_, .threw q, X'.here.running, hend, Or.inr ⟨q, rfl, E, ce, locs, hx _ hT (X'.ends _).1.alike, hcell9, hv, hcl, (X'.ends _).1, (X'.ends _).2.mono hc hs, hf⟩⟩
  rw [X.pushThrowing_eq]
  exact st
/-- a thing of a world lies in the heap -/
theorem vx_lt {D : va_G} {cl : List vw_C} {ws : va_W} {H1 : Heap} (h : va_P D cl ws H1) {k : Nat} {q : Nat × va_E} (hk : ws[k]? = some q) : q.1 < H1.size := (h k q hk).lt
end VXS
/-! ===== END ===== -/
/-! ===== BEGIN methods with a table of their own: called by a name, returning or throwing ===== -/
section VXH
/-! vx_backW, vx_callVX, vx_callSX, vx_callVW, vx_runVW, vx_runVX, vx_runSX, vx_ofWH follow the same proofs as their sisters above (Free/Laws.lean, Shelf42/LK1.lean); vx_outP calls Shelf42/NT130.lean (outThrough). -/
section
variable {l : Launch} {R : Room} {p : Program} {e : Env} {below : List Frame} {s : State} {sargs : Array Value} {y : MethodName} {len W9 : Nat}
theorem vx_backW {ws : List Cond} {rm : Room} {Pc : Array Value → State → Prop} {Qc : Array Value → State → Outcome → State → Prop} {XC : String → State → State → Prop} {mc ms : Nat} {free : Addr → Prop} {bytes : ByteArray} {maxL : Nat} {ret : Option FieldType} {hh : List (Nat × Nat × Nat × Nat)}
    (hM : vx_Met l y ws rm Pc Qc XC mc ms free) (hblind : FrameBlind Pc) (hrc : rm.cells = mc) (hrs : rm.slots = ms)
    (hframes : rm.frames + 1 ≤ R.frames) (hlocals : W9 + (maxL + 11) + rm.locals ≤ R.locals)
    (hws : ∀ w ∈ ws, ∀ a' U, s.WarmedH U.vm → w.before a' U = true) (hcode : Cond.codeWith y bytes maxL ret hh ∈ ws) (hinit : ∀ a' U, s.WarmedH U.vm → (Cond.initialized y.cls).before a' U = true) :
    vx_Back l R p e below s sargs y len W9 (PreOf R mc ms Pc) (PostOf Qc mc ms free) (vx_Post XC mc ms free) := by
  intro m meth c A g ig mk a X hg hsize hdg hW hn hp
  have h1 : (headSpec ws rm).pre.before a A.U = true := atoms_intro fun w hw => hws w hw _ _ X.warmed
  have h2 : (Cond.codeWith y bytes maxL ret hh).before a A.U = true := hws _ hcode _ _ X.warmed
  have h3 : (Cond.initialized y.cls).before a A.U = true := hinit _ _ X.warmed
  have h4 : A.cells + (headSpec ws rm).room.cells ≤ R.cells := by rw [show (headSpec ws rm).room.cells = mc from hrc]; exact hp.1
  have h5 : A.slots + (headSpec ws rm).room.slots ≤ R.slots := by rw [show (headSpec ws rm).room.slots = ms from hrs]; exact hp.2.1
  have hPc : Pc a (A.U.calling g mk a) := hblind _ _ _ _ hp.2.2
  obtain ⟨U, Ls, c0, s0⟩ := A
  dsimp only [Pt.U, Pt.locs, Pt.cells, Pt.slots] at h1 h2 h3 h4 h5 X hn hPc ⊢
  obtain ⟨m9, methY, cY, hn9, hmY, hcY, -, hlY, -⟩ := Cond.codeWith_spec h2
  cases Option.some.inj (hn9.symm.trans hn)
  obtain ⟨kY, hkY, -⟩ := className_of_methodNamed hn
  have hinitY : kY.init = .initialized := Cond.initialized_spec (findClass_of_methodNamed hn) hkY h3
  have h : At U g.method c below := by rw [hg]; exact X.here
  have hlocals9 : W9 + (maxL + 11) + (headSpec ws rm).room.locals ≤ R.locals := hlocals
  have happ : (headSpec ws rm).appliesLoose y e.platform (U.calling g mk a) = true :=
    Spec.appliesLoose_calling (g := g) h hdg hn hkY hinitY
      (X.room_calling (g := g) (R' := (headSpec ws rm).room) hsize hmY hcY hframes (by rw [hlY]; omega) h4 h5) h1
  obtain ⟨mid, hmid⟩ := h.above
  have hfr : (U.setTop g).frames = (.java g :: mid) ++ below := by rw [State.frames_setTop' g h.top, hmid]; rfl
  obtain ⟨o, s₂, hsteps, -, hend, hq⟩ := Steps.callFree hM p X.admits X.cas X.clock (acts := []) hfr happ hPc trivial
  have hq' : vx_Q Qc XC mc ms free a (U.calling g mk a) o s₂ := hq
  rw [State.frames_setTop' g h.top] at hend
  obtain ⟨g₀, hg0⟩ := Option.isSome_iff_exists.mp h.top
  obtain ⟨r, hr⟩ := State.topJava?_eq_some.mp hg0
  have hr' : (({ U with heap := s₂.heap, slotsUsed := s₂.slotsUsed } : State).setVm s₂.vm).frames = .java g₀ :: r := hr
  rcases hq' with ⟨hqc, L, hfe, hL⟩ | ⟨q, rfl, E, ce, L, hx, hce, hcv, hcl, hW₂, hsm, hL⟩
  · obtain ⟨⟨v, rfl⟩, hW₂, e2, q2, q3, q4, q5, q6⟩ := id hfe
    have e3 : s₂ = ({ (U.calling g mk a).setFrames s₂.frames with heap := s₂.heap, slotsUsed := s₂.slotsUsed } : State).setVm s₂.vm := by
      have : s₂ = ({ s₂ with vm := (U.calling g mk a).vm } : State).setVm s₂.vm := rfl
      rw [e2] at this
      exact this
    obtain ⟨c₂, i₂, len₂, hc₂, hd₂, hf₂⟩ := hend
    have hW' : U.WarmedH s₂.vm := hW₂
    have hcc : c₂ = c := by
      have h1 : s₂.code? g.method = U.code? g.method := by
        rw [State.code?_eq, State.code?_eq, hW'.alike.method?]
      exact Option.some.inj (hc₂.symm.trans (h1.trans h.code))
    subst hcc
    have hlen : len₂ = len := by rw [hdg] at hd₂; cases hd₂; rfl
    subst hlen
    have hs₂ : s₂ = (({ U with heap := s₂.heap, slotsUsed := s₂.slotsUsed } : State).setVm s₂.vm).setTop { g with pc := g.pc + len₂, stack := v.toList ++ g.stack } := by
      refine e3.trans ?_
      rw [hf₂, State.calling_eq h.top, State.setFrames_setFrames, State.setTop_of_frames _ hr', hr]
      rfl
    have hsame : U.sameButNew ({ U with heap := s₂.heap, slotsUsed := s₂.slotsUsed } : State) L mc ms := by
      refine ⟨?_, q2, q3, q4, q5, q6⟩
      obtain ⟨t, ht, -⟩ := State.frames_cons hr
      show ({ U with heap := s₂.heap, slotsUsed := s₂.slotsUsed } : State) = { U.setFrames U.frames with heap := s₂.heap, slotsUsed := s₂.slotsUsed }
      rw [State.setFrames_self ht]
    subst hg
    refine Or.inl ⟨v, ⟨(({ U with heap := s₂.heap, slotsUsed := s₂.slotsUsed } : State).setVm s₂.vm), Ls ++ L, c0 + mc, s0 + ms⟩,
      ⟨X.admits, X.cas, X.clock, X.frames, X.room, X.hears, X.method, X.code, (X.here.setHeapUsed s₂.heap s₂.slotsUsed).setVm hW'.alike, X.tail, State.WarmedH.trans X.warmed hW', X.limits, X.bytes, X.same.trans (hsame.setVm s.vm)⟩,
      ⟨g, mk, s₂, L, rfl, rfl, hqc, rfl, hL, rfl, rfl⟩, ?_⟩
    show Steps p.tables e below _ ((({ U with heap := s₂.heap, slotsUsed := s₂.slotsUsed } : State).setVm s₂.vm).setTop { g with pc := g.pc + len₂, stack := v.toList ++ g.stack })
    rw [← hs₂]
    exact hsteps
  · obtain ⟨e2, q2, q3, q4, q5, q6⟩ := id hsm
    have e3 : s₂ = ({ (U.calling g mk a).setFrames s₂.frames with heap := s₂.heap, slotsUsed := s₂.slotsUsed } : State).setVm s₂.vm := by
      have : s₂ = ({ s₂ with vm := (U.calling g mk a).vm } : State).setVm s₂.vm := rfl
      rw [e2] at this
      exact this
    have hf₂ : s₂.frames = .throwing q :: .java g :: U.frames.tail := hend
    have hW' : U.WarmedH s₂.vm := hW₂
    have hs₂ : s₂ = ((({ U with heap := s₂.heap, slotsUsed := s₂.slotsUsed } : State).setVm s₂.vm).setTop g).pushFrame (.throwing q) := by
      refine e3.trans ?_
      rw [hf₂, State.calling_eq h.top, State.setFrames_setFrames, State.pushFrame, State.frames_setTop _ hr', State.setTop_of_frames _ hr', State.setFrames_setFrames, hr]
      rfl
    have hsame : U.sameButNew ({ U with heap := s₂.heap, slotsUsed := s₂.slotsUsed } : State) L mc ms := by
      refine ⟨?_, q2, q3, q4, q5, q6⟩
      obtain ⟨t, ht, -⟩ := State.frames_cons hr
      show ({ U with heap := s₂.heap, slotsUsed := s₂.slotsUsed } : State) = { U.setFrames U.frames with heap := s₂.heap, slotsUsed := s₂.slotsUsed }
      rw [State.setFrames_self ht]
    subst hg
    refine Or.inr ⟨q, ⟨(({ U with heap := s₂.heap, slotsUsed := s₂.slotsUsed } : State).setVm s₂.vm), Ls ++ L, c0 + mc, s0 + ms⟩,
      ⟨X.admits, X.cas, X.clock, X.frames, X.room, X.hears, X.method, X.code, (X.here.setHeapUsed s₂.heap s₂.slotsUsed).setVm hW'.alike, X.tail, State.WarmedH.trans X.warmed hW', X.limits, X.bytes, X.same.trans (hsame.setVm s.vm)⟩,
      ⟨g, mk, s₂, L, E, ce, rfl, rfl, hx, hce, hcv, hcl, rfl, hL, rfl, rfl⟩, ?_⟩
    show Steps p.tables e below _ (((({ U with heap := s₂.heap, slotsUsed := s₂.slotsUsed } : State).setVm s₂.vm).setTop g).pushFrame (.throwing q))
    rw [← hs₂]
    exact hsteps
end
variable {p : Program} {l : Launch} {e : Env} {R : Room} {s : State} {m : MethodId} {args : Array Value} {below : List Frame} {meth : Method} {c : Code} {T : State} {H : Heap} {locs : List Loc} {cells slots : Nat}
theorem vx_callVX (X : Stand p l e R s m args below meth c T locs cells slots) (hexec : p.tables.exec = Jvm.exec) {own C : String} {index : Nat} {y : MethodName} {bytes : ByteArray} {maxL : Nat} {ret : Option FieldType} {hh : List (Nat × Nat × Nat × Nat)}
    (hown : s.vm.findClass own = some m.cls) (hlink : (Cond.methodLink own index y).before args s = true) (hinst : (Cond.instanceMethod y).before args s = true) (hsel : (Cond.selects C y y).before args s = true)
    (hcode : (Cond.codeWith y bytes maxL ret hh).before args s = true) (hy : y.cls ≠ "java/lang/invoke/MethodHandle" ∧ y.cls ≠ "java/lang/invoke/VarHandle")
    {W9 : Nat} {Pre : Pt → Array Value → Prop} {Post : Pt → Array Value → Option Value → Pt → Prop} {PostX : Pt → Array Value → Addr → Pt → Prop} (hK : vx_Back l R p e below s args y 3 W9 Pre Post PostX)
    {b : Addr} {cellB : Cell} (hcell : T.heap[b]? = some cellB) (hobj : cellB.vm.isStatics = false) (hcls : s.vm.findClass C = some cellB.cls)
    {g : JFrame} (hg : g.method = m) (hsize : g.locals.size = c.maxLocals) {argsL rest : List Value} (hlen : ∀ sig, parseMethodDescriptor y.desc = some sig → argsL.length = sig.parameters.length)
    (hstack : g.stack = argsL.reverse ++ .ref b :: rest) (hW : 2 * g.monitorRoom + (rest.map fun v => v.category).sum ≤ W9) (hdg : decode c.code g.pc = .ok (.invokevirtual index, 3))
    (hpre : ∀ vm₁, s.WarmedH vm₁ → Pre ⟨T.setVm vm₁, locs, cells, slots⟩ (Value.ref b :: argsL).toArray) :
    (∃ (v : Option Value) (vm₁ : Vm) (B : Pt), s.WarmedH vm₁ ∧ Stand p l e R s m args below meth c B.U B.locs B.cells B.slots ∧ Post ⟨T.setVm vm₁, locs, cells, slots⟩ (Value.ref b :: argsL).toArray v B ∧
      ∀ target, Steps p.tables e below (B.U.setTop { g with pc := g.pc + 3, stack := v.toList ++ rest }) target → Steps p.tables e below (T.setTop g) target) ∨
    (∃ (q : Addr) (vm₁ : Vm) (B : Pt), s.WarmedH vm₁ ∧ Stand p l e R s m args below meth c B.U B.locs B.cells B.slots ∧ PostX ⟨T.setVm vm₁, locs, cells, slots⟩ (Value.ref b :: argsL).toArray q B ∧
      Steps p.tables e below (T.setTop g) ((B.U.setTop { g with stack := rest }).pushFrame (.throwing q))) := by
  obtain ⟨mk, methM, hnamed, hmethM, hstM, habM⟩ := Cond.instanceMethod_spec hinst
  obtain ⟨m8, methM', cM, hn8, hmethM', -, -, -, -, -, -, hsigM⟩ := Cond.codeWith_spec hcode
  cases Option.some.inj (hn8.symm.trans hnamed)
  cases hmethM.symm.trans hmethM'
  obtain ⟨c2, r2, m2, q1, q2, q3, q4, kP, hkP, hkPi⟩ := Cond.selects_spec hsel
  cases hcls.symm.trans q1
  cases (State.methodFound?_of_named hnamed hy).symm.trans q2
  cases hnamed.symm.trans q3
  have hselP : selectMethod e.platform s.vm cellB.cls mk = .method mk := by rw [Launch.admits_selectMethod X.admits]; exact q4
  obtain ⟨vm₁, X₁, hstep₁⟩ := X.invokevirtual hexec hown hlink hnamed hmethM hstM hkP hkPi hy (a := b) (cell := cellB) hcell
    (fun z h => by rw [h] at hobj; cases hobj) hselP hmethM habM hkP hkPi (g := g) hg (argsL := argsL) (rest := rest) (hlen _ hsigM) hstack hdg
  rcases hK m meth c ⟨T.setVm vm₁, locs, cells, slots⟩ { g with stack := rest } (.invokevirtual index) mk (Value.ref b :: argsL).toArray X₁ hg hsize hdg hW (X₁.named hnamed) (hpre vm₁ X₁.warmed) with ⟨v, B, X', hpost, hsteps⟩ | ⟨q, B, X', hpost, hsteps⟩
  · exact Or.inl ⟨v, vm₁, B, X₁.warmed, X', hpost, fun target h => hstep₁ _ fun acts => by rw [doInvoke_state]; exact hsteps.trans h⟩
  · exact Or.inr ⟨q, vm₁, B, X₁.warmed, X', hpost, hstep₁ _ fun acts => by rw [doInvoke_state]; exact hsteps⟩
theorem vx_callSX (X : Stand p l e R s m args below meth c T locs cells slots) (hexec : p.tables.exec = Jvm.exec) {own : String} {index : Nat} {y : MethodName} {bytes : ByteArray} {maxL : Nat} {ret : Option FieldType} {hh : List (Nat × Nat × Nat × Nat)}
    (hown : s.vm.findClass own = some m.cls) (hlink : (Cond.methodLink own index y).before args s = true) (hstat : (Cond.static y).before args s = true) (hinit : (Cond.initialized y.cls).before args s = true)
    (hcode : (Cond.codeWith y bytes maxL ret hh).before args s = true) (hy : y.cls ≠ "java/lang/invoke/MethodHandle" ∧ y.cls ≠ "java/lang/invoke/VarHandle")
    {W9 : Nat} {Pre : Pt → Array Value → Prop} {Post : Pt → Array Value → Option Value → Pt → Prop} {PostX : Pt → Array Value → Addr → Pt → Prop} (hK : vx_Back l R p e below s args y 3 W9 Pre Post PostX)
    {g : JFrame} (hg : g.method = m) (hsize : g.locals.size = c.maxLocals) {argsL rest : List Value} (hlen : ∀ sig, parseMethodDescriptor y.desc = some sig → argsL.length = sig.parameters.length)
    (hstack : g.stack = argsL.reverse ++ rest) (hW : 2 * g.monitorRoom + (rest.map fun v => v.category).sum ≤ W9) (hdg : decode c.code g.pc = .ok (.invokestatic index, 3))
    (hpre : ∀ vm₁, s.WarmedH vm₁ → Pre ⟨T.setVm vm₁, locs, cells, slots⟩ argsL.toArray) :
    (∃ (v : Option Value) (vm₁ : Vm) (B : Pt), s.WarmedH vm₁ ∧ Stand p l e R s m args below meth c B.U B.locs B.cells B.slots ∧ Post ⟨T.setVm vm₁, locs, cells, slots⟩ argsL.toArray v B ∧
      ∀ target, Steps p.tables e below (B.U.setTop { g with pc := g.pc + 3, stack := v.toList ++ rest }) target → Steps p.tables e below (T.setTop g) target) ∨
    (∃ (q : Addr) (vm₁ : Vm) (B : Pt), s.WarmedH vm₁ ∧ Stand p l e R s m args below meth c B.U B.locs B.cells B.slots ∧ PostX ⟨T.setVm vm₁, locs, cells, slots⟩ argsL.toArray q B ∧
      Steps p.tables e below (T.setTop g) ((B.U.setTop { g with stack := rest }).pushFrame (.throwing q))) := by
  obtain ⟨mk, methM, cM, hnamed, hmethM, -, -, -, -, -, -, hsigM⟩ := Cond.codeWith_spec hcode
  have hstatic : methM.isStatic = true := Cond.static_spec hnamed hmethM hstat
  obtain ⟨kP, hkP, -⟩ := className_of_methodNamed hnamed
  have hinitP : kP.init = .initialized := Cond.initialized_spec (findClass_of_methodNamed hnamed) hkP hinit
  obtain ⟨vm₁, X₁, hstep₁⟩ := X.invokestatic hexec hown hlink hnamed hmethM hstatic hkP hinitP hy (g := g) hg (argsL := argsL) (rest := rest) (hlen _ hsigM) hstack hdg
  rcases hK m meth c ⟨T.setVm vm₁, locs, cells, slots⟩ { g with stack := rest } (.invokestatic index) mk argsL.toArray X₁ hg hsize hdg hW (X₁.named hnamed) (hpre vm₁ X₁.warmed) with ⟨v, B, X', hpost, hsteps⟩ | ⟨q, B, X', hpost, hsteps⟩
  · exact Or.inl ⟨v, vm₁, B, X₁.warmed, X', hpost, fun target h => hstep₁ _ fun acts => by rw [doInvoke_state]; exact hsteps.trans h⟩
  · exact Or.inr ⟨q, vm₁, B, X₁.warmed, X', hpost, hstep₁ _ fun acts => by rw [doInvoke_state]; exact hsteps⟩
theorem vx_callVW (X : Stand p l e R s m args below meth c T locs cells slots) (hexec : p.tables.exec = Jvm.exec) {own C : String} {index : Nat} {y : MethodName} {bytes : ByteArray} {maxL : Nat} {ret : Option FieldType} {hh : List (Nat × Nat × Nat × Nat)}
    (hown : s.vm.findClass own = some m.cls) (hlink : (Cond.methodLink own index y).before args s = true) (hinst : (Cond.instanceMethod y).before args s = true) (hsel : (Cond.selects C y y).before args s = true)
    (hcode : (Cond.codeWith y bytes maxL ret hh).before args s = true) (hy : y.cls ≠ "java/lang/invoke/MethodHandle" ∧ y.cls ≠ "java/lang/invoke/VarHandle")
    {W9 : Nat} {Pre : Pt → Array Value → Prop} {Post : Pt → Array Value → Option Value → Pt → Prop} (hK : Back l R p e below s args y 3 W9 Pre Post)
    {b : Addr} {cellB : Cell} (hcell : T.heap[b]? = some cellB) (hobj : cellB.vm.isStatics = false) (hcls : s.vm.findClass C = some cellB.cls)
    {g : JFrame} (hg : g.method = m) (hsize : g.locals.size = c.maxLocals) {argsL rest : List Value} (hlen : ∀ sig, parseMethodDescriptor y.desc = some sig → argsL.length = sig.parameters.length)
    (hstack : g.stack = argsL.reverse ++ .ref b :: rest) (hW : 2 * g.monitorRoom + (rest.map fun v => v.category).sum ≤ W9) (hdg : decode c.code g.pc = .ok (.invokevirtual index, 3))
    (hpre : ∀ vm₁, s.WarmedH vm₁ → Pre ⟨T.setVm vm₁, locs, cells, slots⟩ (Value.ref b :: argsL).toArray) :
    ∃ (v : Option Value) (vm₁ : Vm) (B : Pt), s.WarmedH vm₁ ∧ Stand p l e R s m args below meth c B.U B.locs B.cells B.slots ∧ Post ⟨T.setVm vm₁, locs, cells, slots⟩ (Value.ref b :: argsL).toArray v B ∧
      ∀ target, Steps p.tables e below (B.U.setTop { g with pc := g.pc + 3, stack := v.toList ++ rest }) target → Steps p.tables e below (T.setTop g) target := by
  obtain ⟨mk, methM, hnamed, hmethM, hstM, habM⟩ := Cond.instanceMethod_spec hinst
  obtain ⟨m8, methM', cM, hn8, hmethM', -, -, -, -, -, -, hsigM⟩ := Cond.codeWith_spec hcode
  cases Option.some.inj (hn8.symm.trans hnamed)
  cases hmethM.symm.trans hmethM'
  obtain ⟨c2, r2, m2, q1, q2, q3, q4, kP, hkP, hkPi⟩ := Cond.selects_spec hsel
  cases hcls.symm.trans q1
  cases (State.methodFound?_of_named hnamed hy).symm.trans q2
  cases hnamed.symm.trans q3
  have hselP : selectMethod e.platform s.vm cellB.cls mk = .method mk := by rw [Launch.admits_selectMethod X.admits]; exact q4
  obtain ⟨vm₁, X₁, hstep₁⟩ := X.invokevirtual hexec hown hlink hnamed hmethM hstM hkP hkPi hy (a := b) (cell := cellB) hcell
    (fun z h => by rw [h] at hobj; cases hobj) hselP hmethM habM hkP hkPi (g := g) hg (argsL := argsL) (rest := rest) (hlen _ hsigM) hstack hdg
  obtain ⟨v, B, X', hpost, hsteps⟩ := hK m meth c ⟨T.setVm vm₁, locs, cells, slots⟩ { g with stack := rest } (.invokevirtual index) mk (Value.ref b :: argsL).toArray X₁ hg hsize hdg hW (X₁.named hnamed) (hpre vm₁ X₁.warmed)
  exact ⟨v, vm₁, B, X₁.warmed, X', hpost, fun target h => hstep₁ _ fun acts => by rw [doInvoke_state]; exact hsteps.trans h⟩
abbrev vx_CVW (R : Room) (s : State) (args : Array Value) (own C : String) (index : Nat) (y : MethodName) (bytes : ByteArray) (maxL : Nat) (ret : Option FieldType) (hh : List (Nat × Nat × Nat × Nat)) (ws : List Cond) (rm : Room) (mc ms n : Nat) : Prop :=
  (rm.cells = mc ∧ rm.slots = ms ∧ rm.frames + 1 ≤ R.frames ∧ 8 + (maxL + 11) + rm.locals ≤ R.locals ∧ (∀ w ∈ ws, ∀ (a' : Array Value) (U : State), s.WarmedH U.vm → w.before a' U = true) ∧ Cond.codeWith y bytes maxL ret hh ∈ ws) ∧
  (Cond.codeWith y bytes maxL ret hh).before args s = true ∧ (Cond.initialized y.cls).before args s = true ∧ (y.cls ≠ "java/lang/invoke/MethodHandle" ∧ y.cls ≠ "java/lang/invoke/VarHandle") ∧
  (∀ sig, parseMethodDescriptor y.desc = some sig → n = sig.parameters.length) ∧ (Cond.methodLink own index y).before args s = true ∧ (Cond.instanceMethod y).before args s = true ∧ (Cond.selects C y y).before args s = true
theorem vx_cwVW {own C : String} {index maxL mc ms : Nat} {y : MethodName} {bytes : ByteArray} {ret : Option FieldType} {hh : List (Nat × Nat × Nat × Nat)} {Ts ws ws' : List Cond} {rm : Room} (n : Nat) (ht : ∀ w ∈ Ts, w.before args s = true) (hT : GoodIn Ts (wsV own index C y ws)) (hw : ws = Cond.codeWith y bytes maxL ret hh :: ws') (hrc : rm.cells = mc) (hrs : rm.slots = ms)
    (hd : y.cls = C ∧ y.cls ≠ "java/lang/invoke/MethodHandle" ∧ y.cls ≠ "java/lang/invoke/VarHandle" ∧ (parseMethodDescriptor y.desc).map (fun d => d.parameters.length) = some n) (hR : rm.frames + 1 ≤ R.frames ∧ 8 + (maxL + 11) + rm.locals ≤ R.locals) :
    vx_CVW R s args own C index y bytes maxL ret hh ws rm mc ms n := by
  obtain ⟨hC, hd⟩ := hd
  subst hC
  have ok : ∀ w ∈ wsV own index y.cls y ws, w.before args s = true := fun w h => ht w (hT w h).1
  have hG : GoodIn Ts ws := fun w h => hT w (by unfold wsV; exact List.mem_append_right _ h)
  have hc : Cond.codeWith y bytes maxL ret hh ∈ ws := by rw [hw]; exact List.mem_cons_self
  refine ⟨⟨hrc, hrs, hR.1, hR.2, pay_in ht hG, hc⟩, ht _ (hG _ hc).1, ok _ (by simp [wsV]), ⟨hd.1, hd.2.1⟩, fun sig h => ?_, ok _ (by simp [wsV]), ok _ (by simp [wsV]), ok _ (by simp [wsV])⟩
  have h2 := hd.2.2
  rw [h] at h2
  exact (Option.some.inj h2).symm
theorem vx_runVW {y : MethodName} {bytes cc : ByteArray} {maxL nL mc ms n index : Nat} {ret : Option FieldType} {hh : List (Nat × Nat × Nat × Nat)} {ws : List Cond} {rm : Room} {Pc : Array Value → State → Prop} {Qc : Array Value → State → Outcome → State → Prop} {free : Addr → Prop} {Ts : List Cond} {own C : String} {b : Addr} {As rest : List Value} {g : JFrame}
    (S : CallFix p m c cc nL s args Ts own) (hM : Met l y ws rm Pc Qc mc ms free) (cw : vx_CVW R s args own C index y bytes maxL ret hh ws rm mc ms n) (hp : PreV s H C b Pc As)
    (hg : g.method = m) (hn : As.length = n) (hsize : g.locals.size = nL) (hstack : g.stack = As.reverse ++ .ref b :: rest) (hW : 2 * g.monitorRoom + (rest.map fun v => v.category).sum ≤ 8) (hdg : decode cc g.pc = .ok (.invokevirtual index, 3)) (hf : cells + mc ≤ R.cells ∧ slots + ms ≤ R.slots) :
    va_Run p l e R s m args below meth c H locs cells slots mc ms g rest (Qc (Value.ref b :: As).toArray) free := by
  obtain ⟨⟨hrc, hrs, hfr, hlo, hws, hcw⟩, hcode, hini, hy, hlen, hl, hin, hse⟩ := cw
  have hK : Back l R p e below s args y 3 8 (PreOf R mc ms Pc) (PostOf Qc mc ms free) := va_backW (hh := hh) (bytes := bytes) (maxL := maxL) (ret := ret) hM hp.1 hrc hrs hfr hlo hws hcw (fun a' U hW => word_at hW (Or.inl (by first | rfl | simp [Cond.onTables, Cond.keeps, Cond.steady])) hini)
  obtain ⟨hx, hb, hml, ho, -⟩ := S
  obtain ⟨-, ⟨cellB, hcB, hoB, hclB⟩, hPc⟩ := hp
  intro T hT X
  obtain ⟨v, vm₁, ⟨U', l2, c2, s2⟩, hW₁, X', ⟨g', mk, t, L, e1, e2, hq, h1, hL, h2, h3⟩, st⟩ := vx_callVW X hx (C := C) (hh := hh) (bytes := bytes) (maxL := maxL) (ret := ret) ho hl hin hse hcode hy hK (by rw [hT]; exact hcB) hoB hclB hg (hsize.trans hml.symm) (argsL := As) (rest := rest) (fun sig h => hn.trans (hlen sig h)) hstack hW (by rw [hb]; exact hdg)
    (fun vm₁ hW₁ => ⟨hf.1, hf.2, hPc (T.setVm vm₁) hT hW₁⟩)
  dsimp only [Pt.U, Pt.locs, Pt.cells, Pt.slots] at X' e1 e2 h1 h2 h3 st
  subst h1; subst h2; subst h3
  exact ⟨v, (T.setVm vm₁).calling g' mk (Value.ref b :: As).toArray, t, U', L, hT, X', hL, e1, e2, hq, st⟩
section
variable {y : MethodName} {bytes cc : ByteArray} {maxL nL mc ms n index : Nat} {ret : Option FieldType} {ws : List Cond} {rm : Room} {Pc : Array Value → State → Prop} {Qc : Array Value → State → Outcome → State → Prop} {XC : String → State → State → Prop} {free : Addr → Prop} {Ts : List Cond} {own C : String} {b : Addr} {As rest : List Value} {g : JFrame}
theorem vx_runVX {hh : List (Nat × Nat × Nat × Nat)} (S : CallFix p m c cc nL s args Ts own) (hM : vx_Met l y ws rm Pc Qc XC mc ms free) (cw : vx_CVW R s args own C index y bytes maxL ret hh ws rm mc ms n) (hp : PreV s H C b Pc As)
    (hg : g.method = m) (hn : As.length = n) (hsize : g.locals.size = nL) (hstack : g.stack = As.reverse ++ .ref b :: rest) (hW : 2 * g.monitorRoom + (rest.map fun v => v.category).sum ≤ 8) (hdg : decode cc g.pc = .ok (.invokevirtual index, 3)) (hf : cells + mc ≤ R.cells ∧ slots + ms ≤ R.slots) :
    vx_Run p l e R s m args below meth c H locs cells slots mc ms g rest (Qc (Value.ref b :: As).toArray) XC free := by
  obtain ⟨⟨hrc, hrs, hfr, hlo, hws, hcw⟩, hcode, hini, hy, hlen, hl, hin, hse⟩ := cw
  have hK : vx_Back l R p e below s args y 3 8 (PreOf R mc ms Pc) (PostOf Qc mc ms free) (vx_Post XC mc ms free) := vx_backW (hh := hh) (bytes := bytes) (maxL := maxL) (ret := ret) hM hp.1 hrc hrs hfr hlo hws hcw (fun a' U hW => word_at hW (Or.inl (by first | rfl | simp [Cond.onTables, Cond.keeps, Cond.steady])) hini)
  obtain ⟨hx, hb, hml, ho, -⟩ := S
  obtain ⟨-, ⟨cellB, hcB, hoB, hclB⟩, hPc⟩ := hp
  intro T hT X
  rcases vx_callVX X hx (C := C) (hh := hh) (bytes := bytes) (maxL := maxL) (ret := ret) ho hl hin hse hcode hy hK (by rw [hT]; exact hcB) hoB hclB hg (hsize.trans hml.symm) (argsL := As) (rest := rest) (fun sig h => hn.trans (hlen sig h)) hstack hW (by rw [hb]; exact hdg)
    (fun vm₁ hW₁ => ⟨hf.1, hf.2, hPc (T.setVm vm₁) hT hW₁⟩) with ⟨v, vm₁, ⟨U', l2, c2, s2⟩, hW₁, X', ⟨g', mk, t, L, e1, e2, hq, h1, hL, h2, h3⟩, st⟩ | ⟨q, vm₁, ⟨U', l2, c2, s2⟩, hW₁, X', ⟨g', mk, t, L, E, ce, e1, e2, hq, hce, hcv, hcl, h1, hL, h2, h3⟩, st⟩
  · dsimp only [Pt.U, Pt.locs, Pt.cells, Pt.slots] at X' e1 e2 h1 h2 h3 st
    subst h1; subst h2; subst h3
    exact Or.inl ⟨v, (T.setVm vm₁).calling g' mk (Value.ref b :: As).toArray, t, U', L, hT, X', hL, e1, e2, hq, st⟩
  · dsimp only [Pt.U, Pt.locs, Pt.cells, Pt.slots] at X' e1 e2 h1 h2 h3 st hcl
    subst h1; subst h2; subst h3
    exact Or.inr ⟨q, (T.setVm vm₁).calling g' mk (Value.ref b :: As).toArray, t, U', L, E, ce, hT, X', hL, e1, e2, hq, hce, hcv, vx_cls hW₁ hcl, st⟩
theorem vx_runSX {hh : List (Nat × Nat × Nat × Nat)} (S : CallFix p m c cc nL s args Ts own) (hM : vx_Met l y ws rm Pc Qc XC mc ms free) (cw : vx_CSW R s args own index y bytes maxL ret hh ws rm mc ms n) (hp : PreS s H Pc As)
    (hg : g.method = m) (hn : As.length = n) (hsize : g.locals.size = nL) (hstack : g.stack = As.reverse ++ rest) (hW : 2 * g.monitorRoom + (rest.map fun v => v.category).sum ≤ 8) (hdg : decode cc g.pc = .ok (.invokestatic index, 3)) (hf : cells + mc ≤ R.cells ∧ slots + ms ≤ R.slots) :
    vx_Run p l e R s m args below meth c H locs cells slots mc ms g rest (Qc As.toArray) XC free := by
  obtain ⟨⟨hrc, hrs, hfr, hlo, hws, hcw⟩, hcode, hini, hy, hlen, hl, hstt⟩ := cw
  have hK : vx_Back l R p e below s args y 3 8 (PreOf R mc ms Pc) (PostOf Qc mc ms free) (vx_Post XC mc ms free) := vx_backW (hh := hh) (bytes := bytes) (maxL := maxL) (ret := ret) hM hp.1 hrc hrs hfr hlo hws hcw (fun a' U hW => word_at hW (Or.inl (by first | rfl | simp [Cond.onTables, Cond.keeps, Cond.steady])) hini)
  obtain ⟨hx, hb, hml, ho, -⟩ := S
  intro T hT X
  rcases vx_callSX X hx (hh := hh) (bytes := bytes) (maxL := maxL) (ret := ret) ho hl hstt hini hcode hy hK hg (hsize.trans hml.symm) (argsL := As) (rest := rest) (fun sig h => hn.trans (hlen sig h)) hstack hW (by rw [hb]; exact hdg)
    (fun vm₁ hW₁ => ⟨hf.1, hf.2, hp.2 (T.setVm vm₁) hT hW₁⟩) with ⟨v, vm₁, ⟨U', l2, c2, s2⟩, hW₁, X', ⟨g', mk, t, L, e1, e2, hq, h1, hL, h2, h3⟩, st⟩ | ⟨q, vm₁, ⟨U', l2, c2, s2⟩, hW₁, X', ⟨g', mk, t, L, E, ce, e1, e2, hq, hce, hcv, hcl, h1, hL, h2, h3⟩, st⟩
  · dsimp only [Pt.U, Pt.locs, Pt.cells, Pt.slots] at X' e1 e2 h1 h2 h3 st
    subst h1; subst h2; subst h3
    exact Or.inl ⟨v, (T.setVm vm₁).calling g' mk As.toArray, t, U', L, hT, X', hL, e1, e2, hq, st⟩
  · dsimp only [Pt.U, Pt.locs, Pt.cells, Pt.slots] at X' e1 e2 h1 h2 h3 st hcl
    subst h1; subst h2; subst h3
    exact Or.inr ⟨q, (T.setVm vm₁).calling g' mk As.toArray, t, U', L, E, ce, hT, X', hL, e1, e2, hq, hce, hcv, vx_cls hW₁ hcl, st⟩
end
end VXH
theorem vx_ofWH {l : Launch} {y : MethodName} {ws ws' : List Cond} {rm : Room} {Pc : Array Value → State → Prop} {Qc : Array Value → State → Outcome → State → Prop} {XC : String → State → State → Prop} {mc ms : Nat} {free : Addr → Prop} {cc : ByteArray} {maxL : Nat} {ret : Option FieldType} {hh : List (Nat × Nat × Nat × Nat)}
    (hy : plainName y.cls = true) (hw : ws = Cond.codeWith y cc maxL ret hh :: ws')
    (body : ∀ p e s m args below meth c s₁, BodyLoose p l y (headSpec ws rm) cc maxL ret e s m args below meth c s₁ → c.maxLocals = maxL → Pc args s →
      W p l e (headSpec ws rm).room s m args below meth c s.heap [] 0 0 (vx_MQ below Qc XC args s mc ms free) (entryFrame m args maxL)) : vx_Met l y ws rm Pc Qc XC mc ms free := by
  refine MetFree.of_bodyS (code := cc) (maxLocals := maxL) (ret := ret) hy ?_ ?_
  · intro args s m h hn
    obtain ⟨m9, meth, c, hn9, h1, h2, h3, h4, -, h5, h6, -⟩ := Cond.codeWith_spec (atoms_spec (ws := ws) h _ (by rw [hw]; exact List.mem_cons_self))
    cases hn.symm.trans hn9
    exact ⟨meth, c, h1, h2, h3, h4, h5, h6⟩
  · intro p e s m args below meth c s₁ B hml hP _
    have hh0 : s₁.heap = s.heap := by rw [B.state]; rfl
    obtain ⟨t, a1, o, b1, b2, b3⟩ := body p e s m args below meth c s₁ B hml hP s₁ hh0 (Stand.of_body B)
    exact ⟨t, o, a1, b1, b2, b3⟩
/-! ===== END ===== -/

/-! ===== BEGIN what the machine throws by itself, no traces kept ===== -/
section VXM
set_option maxHeartbeats 1000000 in
/-- the machine throws cls with the message text, no traces kept: from its note over the frame g to 'throwing' over the same frame (follows the proofs of Stand.vmThrowsMessage, Shelf/KitTracedVmS.lean, and Stand.throwsMessageColdBareV, StandMessageColdV.lean, without the step out of the frame) -/
theorem vx_vmAt {p : Program} {l : Launch} {e : Env} {R : Room} {s : State} {m₀ : MethodId} {args : Array Value} {below : List Frame} {meth : Method} {c : Code} {W : State} {locs : List Loc} {cells slots : Nat}
    (X : Stand p l e R s m₀ args below meth c W locs cells slots) (hexec : p.tables.exec = Jvm.exec) (htr : e.platform.stackTraces = false) {cls : String} {names : List String} {text : String}
    (hcls : Bundle.fit cls = true) (hnames : ∀ n ∈ names, Bundle.fit n = true) (hsoe : (cls == "java/lang/StackOverflowError") = false) (hoom : (cls == "java/lang/OutOfMemoryError") = false)
    (h : ∀ a ∈ Bundle.messageArmAtoms cls names, a.before args s = true)
    (hlocs : ∀ x ∈ locs, ∀ cell, s.heap[x.base]? = some cell → cell.vm.isStatics = false)
    (htext : (text == notModelled) = false) (hlimit : ¬ (stringBytes (stringToUtf16 text)).size > e.platform.arrayLengthLimit) (hheap : ¬ (stringBytes (stringToUtf16 text)).size * componentBytes .byte > e.platform.maxHeapBytes)
    {g : JFrame} (hg : g.method = m₀) (hsize : g.locals.size = c.maxLocals)
    (hRframes : names.length + 4 < R.frames) (hRlocals : 2 * g.monitorRoom + (g.stack.map fun v => v.category).sum + 10240 ≤ R.locals) (hshort : 13 * names.length + 55 ≤ 10240)
    (hRcells : cells + 3 ≤ R.cells) (hRslots : slots + ((stringBytes (stringToUtf16 text)).size + 4 + 6) ≤ R.slots) (hlocks : meth.locks = false) :
    ∃ (S : State) (q : Addr) (ce : Cell), (∀ target, Steps p.tables e below ((S.setTop g).pushFrame (.throwing q)) target → Steps p.tables e below ((W.setTop g).pushFrame (.throwNew cls (some text) none)) target) ∧
      Stand p l e R s m₀ args below meth c S locs (cells + 3) (slots + ((stringBytes (stringToUtf16 text)).size + 4 + 6)) ∧ S.heap[q]? = some ce ∧ s.vm.findClass cls = some ce.cls ∧ ce.vm = .none := by
  have howns : e.platform.frameOwnsMonitors = true := by rw [X.admits.platform]
  have hfin : e.platform.finalization = false := by rw [X.admits.platform]
  have hpl : e.platform.magicAccessors = ({} : Platform).magicAccessors := by rw [X.admits.platform]
  have a : ∀ x, x ∈ Bundle.messageArmAtoms cls names → x.holds args s none s [] = true := fun x hx => h x hx
  obtain ⟨T, Z0, L, -, Y⟩ := ThrowableC.of_atoms (args := args) howns hfin hpl (fun x hx => h x (by simp [Bundle.messageArmAtoms, hx]))
  obtain ⟨Z, M, LZ, LM, hnZ⟩ := Init0T.ofS_atoms (args := args) hpl L Y (fun x hx => h x (by simp [Bundle.messageArmAtoms, hx]))
  obtain ⟨P1, Ps, hlen, L1, hL, hP1m, hlink1, hlink⟩ := Bundle.chainS (args := args) hpl hnZ names cls hcls hnames (fun x hx => h x (by simp [Bundle.messageArmAtoms, hx]))
  obtain ⟨Zs, LZs, hn4, hfitv, hfitc⟩ := StringT.of_atoms (args := args) (fun x hx => h x (by simp [Bundle.messageArmAtoms, hx]))
  have hfound : s.vm.findClass cls = some P1.m.cls := findClass_of_methodNamed hP1m
  obtain ⟨c1, kX, hc1, hk, hord, -, -, hn6⟩ := Cond.instantiable_spec (a (.instantiable cls 6) (by simp [Bundle.messageArmAtoms]))
  cases Option.some.inj (hc1.symm.trans hfound)
  have hinit := Cond.initialized_spec hfound hk (a (.initialized cls) (by simp [Bundle.messageArmAtoms]))
  have hctor : kX.findMethod "<init>" "(Ljava/lang/String;)V" = some P1.m.idx := findMethod_of_methodNamed hP1m hk
  have hsel0 : selectMethod e.platform s.vm P1.m.cls T.fill0 = .method T.fill0 := by
    obtain ⟨c2, r2, m2, q1, q2, q3, q4, -⟩ := Cond.selects_spec (a (.selects cls Bundle.tFill0 Bundle.tFill0) (by simp [Bundle.messageArmAtoms]))
    cases Option.some.inj (q1.symm.trans hfound)
    cases Option.some.inj (q2.symm.trans (State.methodFound?_of_named Y.fill0 (by decide)))
    cases Option.some.inj (q3.symm.trans Y.fill0)
    rw [Launch.admits_selectMethod X.admits]; exact q4
  have hselF : selectMethod e.platform s.vm P1.m.cls T.fill = .method T.fill := by
    obtain ⟨c2, r2, m2, q1, q2, q3, q4, -⟩ := Cond.selects_spec (a (.selects cls Bundle.tFill Bundle.tFill) (by simp [Bundle.messageArmAtoms]))
    cases Option.some.inj (q1.symm.trans hfound)
    cases Option.some.inj (q2.symm.trans (State.methodFound?_of_named Y.fill (by decide)))
    cases Option.some.inj (q3.symm.trans Y.fill)
    rw [Launch.admits_selectMethod X.admits]; exact q4
  obtain ⟨cellS0, hcS0, hiss⟩ := Y.statics
  obtain ⟨u0, hu0⟩ := Cond.staticRefV Y.unassigned L.unassignedStatic L.statics hcS0 hiss (a (.isRef (.static Bundle.tN "UNASSIGNED_STACK" Bundle.steD)) (by simp [Bundle.messageArmAtoms]))
  obtain ⟨sen, hsen⟩ := Cond.staticRefV Y.sentinel L.sentinelStatic L.statics hcS0 hiss (a (.isRef (.static Bundle.tN "SUPPRESSED_SENTINEL" Bundle.listD)) (by simp [Bundle.messageArmAtoms]))
  obtain ⟨ci198, i198, fB, hk198, hg198, ha198, hsB, -, hnB, htB, hffB⟩ := Cond.ownField (t := .object "java/lang/Object") Y.found L.cls (by decide +kernel) (a (.fieldLink Bundle.tN 198 Bundle.tN "backtrace" "Ljava/lang/Object;") (by simp [Bundle.messageArmAtoms])) (a (.lays Bundle.tN Bundle.tN "backtrace" "Ljava/lang/Object;") (by simp [Bundle.messageArmAtoms])) e.platform hpl
  obtain ⟨cellS, hcS', heS, -, hkeep⟩ := X.same.2.2.2.2.2 T.aS cellS0 hcS0
  have hcellS : W.heap[T.aS]? = some cellS := hcS'
  have hout' : ∀ i, (⟨T.aS, i⟩ : Loc) ∉ locs := fun i hmem => by
    have := hlocs _ hmem cellS0 hcS0
    rw [hiss] at this; cases this
  have hknownS : cellS.vm ≠ .unknown := by
    rw [heS]; intro hu
    rw [show cellS0.vm = .unknown from hu] at hiss
    cases hiss
  have hvU : cellS.slots[T.fUnassigned.slot]? = some u0.v := by rw [hkeep _ (hout' _)]; exact hu0
  have hvSen : cellS.slots[T.fSentinel.slot]? = some sen.v := by rw [hkeep _ (hout' _)]; exact hsen
  obtain ⟨iM, hffM⟩ := Y.msg
  obtain ⟨tyC, dC, hdC, hdnC⟩ := Cond.laysAt hfound hk Y.cause (a (.lays cls Bundle.tN "cause" "Ljava/lang/Throwable;") (by simp [Bundle.messageArmAtoms]))
  obtain ⟨tyS, dS, hdS, hdnS⟩ := Cond.laysAt hfound hk Y.stack (a (.lays cls Bundle.tN "stackTrace" Bundle.steD) (by simp [Bundle.messageArmAtoms]))
  obtain ⟨tyP, dP, hdP, hdnP⟩ := Cond.laysAt hfound hk Y.supp (a (.lays cls Bundle.tN "suppressedExceptions" Bundle.listD) (by simp [Bundle.messageArmAtoms]))
  obtain ⟨tyM, dM, hdM, hdnM⟩ := Cond.laysAt hfound hk hffM (a (.lays cls Bundle.tN "detailMessage" "Ljava/lang/String;") (by simp [Bundle.messageArmAtoms]))
  obtain ⟨tyB, dB, hdB, hdnB⟩ := Cond.laysAt hfound hk hffB (a (.lays cls Bundle.tN "backtrace" "Ljava/lang/Object;") (by simp [Bundle.messageArmAtoms]))
  have bC := Cond.laysApart hdB hdC hdnB hdnC (by rw [hnB, Y.causeName]; decide)
  have bS := Cond.laysApart hdB hdS hdnB hdnS (by rw [hnB, Y.stackName]; decide)
  have bP := Cond.laysApart hdB hdP hdnB hdnP (by rw [hnB, Y.suppName]; decide)
  have hbk : ((preparedCellV T.toThrowableT (freshCell P1.m.cls kX) (W.heap.size + 2) u0 sen).withEntry W.cur).slots[fB.slot]? = some .null := by
    have := fresh_default (c := P1.m.cls) tyB
    rw [htB] at this
    simpa [preparedCellV, Cell.setSlot, Cell.withEntry, Array.getElem?_setIfInBounds, bC, bS, bP, bC.symm, bS.symm, bP.symm, defaultValue] using this
  have tkC := Takes.of_laid (v := .ref (W.heap.size + 2)) hk hord tyC (by rw [Y.causeType]; rfl)
  have tkS := Takes.of_laid (v := u0.v) hk hord tyS (by rw [Y.stackType]; exact fits_refV_array _ u0)
  have tkP := Takes.of_laid (v := sen.v) hk hord tyP (by rw [Y.suppType]; exact fits_refV_object _ sen)
  have tkM := Takes.of_laid (v := .ref (W.heap.size + 1)) hk hord tyM (by rw [Y.msgType]; rfl)
  have hskip : SkipFacts T e.platform s (fun u => u) u0 ((preparedCellV T.toThrowableT (freshCell P1.m.cls kX) (W.heap.size + 2) u0 sen).withEntry W.cur) := ⟨{ ci198 := ci198, i198 := i198, fBack := fB }, ⟨hk198, hg198, ha198, hsB⟩, hbk, fun _ _ => rfl⟩
  have h0 : At W g.method c below := by rw [hg]; exact X.here
  obtain ⟨hbeyond, hfreeW⟩ := X.vmMayThrow hsize (.throwNew cls (some text) none) (fun f hf => by cases hf) rfl hRlocals
  have hfr' : W.frames.length + Ps.length + 4 < (e.platform.stackLimits W.me).1 := by have := X.framesAbove hRframes; omega
  have hwd' : (stackUse (.java g :: W.frames.tail)).2 + 13 * Ps.length + 55 ≤ (e.platform.stackLimits W.me).2 := by have := X.stackAbove hsize (K := 13 * Ps.length + 55) (by omega); omega
  have hslots : W.slotsUsed + (stringBytes (stringToUtf16 text)).size + Zs.kS.instanceTypes.size + kX.instanceTypes.size ≤ e.platform.maxSlots := by
    have := X.slotsAbove hRslots
    rw [hn4, hn6]
    omega
  obtain ⟨vm', hW', st⟩ := Steps.vmThrowsMessageColdByV p (s₀ := s) (S := W) (g := g) h0 hexec T L Z LZ M LM X.warmed (t := W.cur) rfl Zs LZs P1 L1 Ps hL hlink1 hlink hsoe hoom hfound hk hinit hord hctor
    (Launch.admits_hotImplicitExceptions X.admits) hbeyond hfreeW htext hlimit hheap (X.cellsAbove hRcells) hslots (hfitv _) (hfitc _)
    (Nn := fun u => u) heapOnly_id (fun _ _ => rfl) (fun _ => rfl) (fun u x y => setCell_twice _ _ _ _) (fun _ => Nat.le_refl _) (cN := ((preparedCellV T.toThrowableT (freshCell P1.m.cls kX) (W.heap.size + 2) u0 sen).withEntry W.cur))
    hsel0 hcellS hknownS hvU tkS (fun _ hu => hu) (fun _ hu => hu) rfl rfl rfl (by simp [preparedCellV, Cell.setSlot, Cell.withEntry]) hskip (fun _ _ hA hW _ hroom _ hrest => L.nativeOff p htr hA hW hroom hrest) hselF hvSen tkC tkP tkM Y.objLocals rfl hfr' hwd'
  rw [plainBareV_eq T.toThrowableT (W.heap.size + 2) u0 sen (.ref (W.heap.size + 1)) W.cur rfl rfl] at st
  obtain ⟨-, -, w3, w4, -, -, -⟩ := withThrown_facts e.platform W Zs text P1.m.cls kX
  have X3 := ((X.pushed (bytesOf Zs.cB (stringToUtf16 text))).pushed (stringAt Zs.cS Zs.kS Zs.fv Zs.fc (stringToUtf16 text) W.heap.size)).pushed (freshCell P1.m.cls kX)
  rw [← withString_eq] at X3
  have X4 := X3.noted hW'
  have ha : (W.heap.size + 2) < ((withThrown W Zs text P1.m.cls kX).setVm vm').heap.size := by show _ < (withThrown W Zs text P1.m.cls kX).heap.size; rw [w3]; omega
  have hcell : ((withThrown W Zs text P1.m.cls kX).setVm vm').heap[(W.heap.size + 2)]? = some (freshCell P1.m.cls kX) := w4
  have X5 := ((((X4.stored hcell T.fCause.slot (.ref (W.heap.size + 2))).storedAgain ha T.fStack.slot u0.v).storedAgain ha T.fSupp.slot sen.v).storedAgain ha T.fStack.slot u0.v).storedAgain ha T.fMsg.slot (.ref (W.heap.size + 1))
  obtain ⟨g₁, hfrM⟩ := X5.frames_eq
  have hU : ((((withThrown W Zs text P1.m.cls kX).setVm vm').setCell (W.heap.size + 2) (plainBareV T.toThrowableT (freshCell P1.m.cls kX) (W.heap.size + 2) u0 sen (.ref (W.heap.size + 1)))).setTop g).pushFrame (.throwing (W.heap.size + 2)) = (((withThrown W Zs text P1.m.cls kX).setVm vm').setCell (W.heap.size + 2) (plainBareV T.toThrowableT (freshCell P1.m.cls kX) (W.heap.size + 2) u0 sen (.ref (W.heap.size + 1)))).setFrames (.throwing (W.heap.size + 2) :: .java g :: below) := by
    rw [State.pushFrame, State.frames_setTop _ hfrM, State.setTop_of_frames _ hfrM, State.setFrames_setFrames]
  have b1 : (bytesOf Zs.cB (stringToUtf16 text)).slots.size = (stringBytes (stringToUtf16 text)).size := by
    rw [(Cell.writeAll_facts _ _).2.2]; simp [bytes0]
  have b2 : (stringAt Zs.cS Zs.kS Zs.fv Zs.fc (stringToUtf16 text) W.heap.size).slots.size = 4 := by simp [string0, Cell.setSlot, hn4]
  have b3 : (freshCell P1.m.cls kX).slots.size = 6 := by simp [hn6]
  rw [b1, b2, b3] at X5
  have e9 : slots + (stringBytes (stringToUtf16 text)).size + 4 + 6 = slots + ((stringBytes (stringToUtf16 text)).size + 4 + 6) := by omega
  rw [e9] at X5
  simp only [List.append_assoc, List.cons_append, List.nil_append] at X5
  refine ⟨((withThrown W Zs text P1.m.cls kX).setVm vm').setCell (W.heap.size + 2) (plainBareV T.toThrowableT (freshCell P1.m.cls kX) (W.heap.size + 2) u0 sen (.ref (W.heap.size + 1))), W.heap.size + 2, _, fun target ht => st _ (by rw [X.tail, ← hU]; exact ht),
    X5.forget (fun y hy => ?_), heapAt_setCell_self _ ha, hfound, rfl⟩
  simp only [List.mem_cons, List.not_mem_nil, or_false] at hy
  have hge : s.heap.size ≤ W.heap.size := X.same.2.1
  rcases hy with rfl | rfl | rfl | rfl | rfl <;> exact Nat.le_trans hge (Nat.le_add_right _ 2)
set_option maxHeartbeats 1000000 in
/-- the machine throws NullPointerException, no traces kept: from its note over the frame g to 'throwing' over the same frame (follows the proof of Stand.vmThrowsNpe, Shelf42/KT2.lean; throwsNpeColdBareVAt, Shelf42/NT91.lean, called) -/
theorem vx_npeAt {p : Program} {l : Launch} {e : Env} {R : Room} {s : State} {m₀ : MethodId} {args : Array Value} {below : List Frame} {meth : Method} {c : Code} {W : State} {locs : List Loc} {cells slots : Nat}
    (X : Stand p l e R s m₀ args below meth c W locs cells slots) (hexec : p.tables.exec = Jvm.exec) (htr : e.platform.stackTraces = false) {n : Nat}
    (h : ∀ a ∈ Bundle.npeArmAtoms n, a.before args s = true)
    (hlocs : ∀ x ∈ locs, ∀ cell, s.heap[x.base]? = some cell → cell.vm.isStatics = false)
    {g : JFrame} (hg : g.method = m₀) (hsize : g.locals.size = c.maxLocals)
    (hRframes : 7 < R.frames) (hRlocals : 2 * g.monitorRoom + (g.stack.map fun v => v.category).sum + 10240 ≤ R.locals)
    (hRcells : cells + 1 ≤ R.cells) (hRslots : slots + n ≤ R.slots) (hlocks : meth.locks = false) :
    ∃ (S : State) (q : Addr) (ce : Cell), (∀ target, Steps p.tables e below ((S.setTop g).pushFrame (.throwing q)) target → Steps p.tables e below ((W.setTop g).pushFrame (.throwNew "java/lang/NullPointerException" none none)) target) ∧
      Stand p l e R s m₀ args below meth c S locs (cells + 1) (slots + n) ∧ S.heap[q]? = some ce ∧ s.vm.findClass "java/lang/NullPointerException" = some ce.cls ∧ ce.vm = .none := by
  have howns : e.platform.frameOwnsMonitors = true := by rw [X.admits.platform]
  have hfin : e.platform.finalization = false := by rw [X.admits.platform]
  have hpl : e.platform.magicAccessors = ({} : Platform).magicAccessors := by rw [X.admits.platform]
  have hpl2 : e.platform.arrayCloneIsPublic = true := by rw [X.admits.platform]
  have a' : ∀ x, x ∈ Bundle.npeArmAtoms n → x.holds args s none s [] = true := fun x hx => h x hx
  obtain ⟨T, Z, L, LZ, Y⟩ := ThrowableC.of_atoms (args := args) howns hfin hpl (fun x hx => h x (by simp [Bundle.npeArmAtoms, hx]))
  obtain ⟨N, LN, hcN, hnNF, hordN, hffS⟩ := NpeC.of_atoms (args := args) hpl hpl2 L Y (fun x hx => h x (by simp [Bundle.npeArmAtoms, hx]))
  obtain ⟨P1, L1, hP1m, hP1s⟩ := PassC.of_atoms (args := args) (s := s) hpl (X := Bundle.nN) (Y := Bundle.rN) (by decide) (by decide) LibCode.NullPointerException.Init0.at_0 LibCode.NullPointerException.Init0.at_1 LibCode.NullPointerException.Init0.at_4 (fun x hx => h x (by simp [Bundle.npeArmAtoms, hx]))
  obtain ⟨PR, LR, hPRm, hPRs⟩ := PassC.of_atoms (args := args) (s := s) hpl (X := Bundle.rN) (Y := Bundle.eN) (by decide) (by decide) LibCode.RuntimeException.Init0.at_0 LibCode.RuntimeException.Init0.at_1 LibCode.RuntimeException.Init0.at_4 (fun x hx => h x (by simp [Bundle.npeArmAtoms, hx]))
  obtain ⟨PE, LEx, hPEm, hPEs⟩ := PassC.of_atoms (args := args) (s := s) hpl (X := Bundle.eN) (Y := Bundle.tN) (by decide) (by decide) LibCode.Exception.Init0.at_0 LibCode.Exception.Init0.at_1 LibCode.Exception.Init0.at_4 (fun x hx => h x (by simp [Bundle.npeArmAtoms, hx]))
  have hfound : s.vm.findClass Bundle.nN = some P1.m.cls := findClass_of_methodNamed hP1m
  have ecls : N.cN = P1.m.cls := Option.some.inj (hcN.symm.trans hfound)
  have hk : s.vm.classes[P1.m.cls]? = some N.kN := by rw [← ecls]; exact LN.cls
  have hinit := Cond.initialized_spec hfound hk (a' (.initialized Bundle.nN) (by simp [Bundle.npeArmAtoms]))
  have hctor : N.kN.findMethod "<init>" "()V" = some P1.m.idx := findMethod_of_methodNamed hP1m hk
  obtain ⟨c1, k1, hc1, hk1, -, -, -, hn⟩ := Cond.instantiable_spec (a' (.instantiable Bundle.nN n) (by simp [Bundle.npeArmAtoms]))
  cases Option.some.inj (hc1.symm.trans hfound)
  cases Option.some.inj (hk1.symm.trans hk)
  have hfsz : (freshCell P1.m.cls N.kN).slots.size = n := by simp [hn]
  have hlink1 : P1.sup = PR.m := Option.some.inj (hP1s.symm.trans hPRm)
  have hlinkR : PR.sup = PE.m := Option.some.inj (hPRs.symm.trans hPEm)
  have hlinkE : PE.sup = Z.m T.toThrowableT := Option.some.inj (hPEs.symm.trans Y.init0)
  have hLs : ∀ P, P ∈ [PR, PE] → P.Links0 e.platform s := fun P hP => by
    simp only [List.mem_cons, List.not_mem_nil, or_false] at hP
    rcases hP with rfl | rfl
    · exact LR
    · exact LEx
  have hsel0 : selectMethod e.platform s.vm P1.m.cls T.fill0 = .method T.fill0 := by
    obtain ⟨c2, r2, m2, q1, q2, q3, q4, -⟩ := Cond.selects_spec (a' (.selects Bundle.nN Bundle.tFill0 Bundle.tFill0) (by simp [Bundle.npeArmAtoms]))
    cases Option.some.inj (q1.symm.trans hfound)
    cases Option.some.inj (q2.symm.trans (State.methodFound?_of_named Y.fill0 (by decide)))
    cases Option.some.inj (q3.symm.trans Y.fill0)
    rw [Launch.admits_selectMethod X.admits]; exact q4
  have hselF : selectMethod e.platform s.vm P1.m.cls T.fill = .method N.fill := by
    obtain ⟨c2, r2, m2, q1, q2, q3, q4, -⟩ := Cond.selects_spec (a' (.selects Bundle.nN Bundle.tFill Bundle.nFill) (by simp [Bundle.npeArmAtoms]))
    cases Option.some.inj (q1.symm.trans hfound)
    cases Option.some.inj (q2.symm.trans (State.methodFound?_of_named Y.fill (by decide)))
    cases Option.some.inj (q3.symm.trans hnNF)
    rw [Launch.admits_selectMethod X.admits]; exact q4
  obtain ⟨cellS0, hcS0, hiss⟩ := Y.statics
  obtain ⟨u0, hu0⟩ := Cond.staticRefV Y.unassigned L.unassignedStatic L.statics hcS0 hiss (a' (.isRef (.static Bundle.tN "UNASSIGNED_STACK" Bundle.steD)) (by simp [Bundle.npeArmAtoms]))
  obtain ⟨sen, hsen⟩ := Cond.staticRefV Y.sentinel L.sentinelStatic L.statics hcS0 hiss (a' (.isRef (.static Bundle.tN "SUPPRESSED_SENTINEL" Bundle.listD)) (by simp [Bundle.npeArmAtoms]))
  obtain ⟨ci198, i198, fB, hk198, hg198, ha198, hsB, -, hnB, htB, hffB⟩ := Cond.ownField (t := .object "java/lang/Object") Y.found L.cls (by decide +kernel) (a' (.fieldLink Bundle.tN 198 Bundle.tN "backtrace" Bundle.objD) (by simp [Bundle.npeArmAtoms])) (a' (.lays Bundle.tN Bundle.tN "backtrace" Bundle.objD) (by simp [Bundle.npeArmAtoms])) e.platform hpl
  obtain ⟨cellS, hcS', heS, -, hkeep⟩ := X.same.2.2.2.2.2 T.aS cellS0 hcS0
  have hcellS : W.heap[T.aS]? = some cellS := hcS'
  have hout' : ∀ i, (⟨T.aS, i⟩ : Loc) ∉ locs := fun i hmem => by
    have := hlocs _ hmem cellS0 hcS0
    rw [hiss] at this; cases this
  have hknownS : cellS.vm ≠ .unknown := by
    rw [heS]; intro hu
    rw [show cellS0.vm = .unknown from hu] at hiss
    cases hiss
  have hvU : cellS.slots[T.fUnassigned.slot]? = some u0.v := by rw [hkeep _ (hout' _)]; exact hu0
  have hvSen : cellS.slots[T.fSentinel.slot]? = some sen.v := by rw [hkeep _ (hout' _)]; exact hsen
  obtain ⟨tyC, dC, hdC, hdnC⟩ := Cond.laysAt hfound hk Y.cause (a' (.lays Bundle.nN Bundle.tN "cause" "Ljava/lang/Throwable;") (by simp [Bundle.npeArmAtoms]))
  obtain ⟨tyS, dS, hdS, hdnS⟩ := Cond.laysAt hfound hk Y.stack (a' (.lays Bundle.nN Bundle.tN "stackTrace" Bundle.steD) (by simp [Bundle.npeArmAtoms]))
  obtain ⟨tyP, dP, hdP, hdnP⟩ := Cond.laysAt hfound hk Y.supp (a' (.lays Bundle.nN Bundle.tN "suppressedExceptions" Bundle.listD) (by simp [Bundle.npeArmAtoms]))
  obtain ⟨tyX, dX, hdX, hdnX⟩ := Cond.laysAt hfound hk hffS (a' (.lays Bundle.nN Bundle.nN "extendedMessageState" "I") (by simp [Bundle.npeArmAtoms, Bundle.npeAtoms]))
  obtain ⟨hnX, htX⟩ := State.fieldFound?_type hffS (t := .int) (by decide +kernel)
  have xC := Cond.laysApart hdC hdX hdnC hdnX (by rw [hnX, Y.causeName]; decide)
  have xS := Cond.laysApart hdS hdX hdnS hdnX (by rw [hnX, Y.stackName]; decide)
  have xP := Cond.laysApart hdP hdX hdnP hdnX (by rw [hnX, Y.suppName]; decide)
  have hv0 : (freshCell P1.m.cls N.kN).slots[N.fState.slot]? = some (.int 0) := by
    have := fresh_default (c := P1.m.cls) tyX
    rw [htX] at this; exact this
  obtain ⟨tyB, dB, hdB, hdnB⟩ := Cond.laysAt hfound hk hffB (a' (.lays Bundle.nN Bundle.tN "backtrace" Bundle.objD) (by simp [Bundle.npeArmAtoms]))
  have bC := Cond.laysApart hdB hdC hdnB hdnC (by rw [hnB, Y.causeName]; decide)
  have bS := Cond.laysApart hdB hdS hdnB hdnS (by rw [hnB, Y.stackName]; decide)
  have bP := Cond.laysApart hdB hdP hdnB hdnP (by rw [hnB, Y.suppName]; decide)
  have bX := Cond.laysApart hdB hdX hdnB hdnX (by rw [hnB, hnX]; decide)
  have hbk : ((npeCell N.toNpeT (preparedCellV T.toThrowableT (freshCell P1.m.cls N.kN) W.heap.size u0 sen) W.cur).withEntry W.cur).slots[fB.slot]? = some .null := by
    have := fresh_default (c := P1.m.cls) tyB
    rw [htB] at this
    simpa [npeCell, preparedCellV, Cell.setSlot, Cell.withEntry, Array.getElem?_setIfInBounds, bC, bS, bP, bX, bC.symm, bS.symm, bP.symm, bX.symm, defaultValue] using this
  have tkC := Takes.of_laid (v := .ref W.heap.size) hk hordN tyC (by rw [Y.causeType]; rfl)
  have tkS := Takes.of_laid (v := u0.v) hk hordN tyS (by rw [Y.stackType]; exact fits_refV_array _ u0)
  have tkP := Takes.of_laid (v := sen.v) hk hordN tyP (by rw [Y.suppType]; exact fits_refV_object _ sen)
  have tkX := Takes.of_laid (v := .int 1) hk hordN tyX (by rw [htX]; rfl)
  have hskip : SkipFacts T e.platform s (fun u => u) u0 ((npeCell N.toNpeT (preparedCellV T.toThrowableT (freshCell P1.m.cls N.kN) W.heap.size u0 sen) W.cur).withEntry W.cur) := ⟨{ ci198 := ci198, i198 := i198, fBack := fB }, ⟨hk198, hg198, ha198, hsB⟩, hbk, fun _ _ => rfl⟩
  obtain ⟨vm', X3, st, -⟩ := X.throwsNpeColdBareVAt hexec hg hsize T L Z LZ N LN P1 L1 [PR, PE] hLs hlink1 ⟨hlinkR, hlinkE, trivial⟩ hfound hk hinit hordN hctor hsel0 hselF hcellS hknownS hvU hvSen
    hv0 xC xS xP tkC tkS tkP tkX Y.objLocals hskip (fun _ _ hA hW _ hroom _ hrest => L.nativeOff p htr hA hW hroom hrest) (by simpa using hRframes) hRlocals (by simp) hRcells (by rw [hn]; exact hRslots)
  have hlt : W.heap.size < ((W.pushCell (freshCell P1.m.cls N.kN)).setVm vm').heap.size := by
    show W.heap.size < (W.pushCell (freshCell P1.m.cls N.kN)).heap.size
    rw [State.heap_size_pushCell]; omega
  rw [hfsz] at X3
  obtain ⟨g₁, hfrM⟩ := X3.frames_eq
  have hU : ((((W.pushCell (freshCell P1.m.cls N.kN)).setVm vm').setCell W.heap.size (npeBareV T.toThrowableT N.toNpeT (freshCell P1.m.cls N.kN) W.heap.size u0 sen)).setTop g).pushFrame (.throwing W.heap.size) = (((W.pushCell (freshCell P1.m.cls N.kN)).setVm vm').setCell W.heap.size (npeBareV T.toThrowableT N.toNpeT (freshCell P1.m.cls N.kN) W.heap.size u0 sen)).setFrames (.throwing W.heap.size :: .java g :: below) := by
    rw [State.pushFrame, State.frames_setTop _ hfrM, State.setTop_of_frames _ hfrM, State.setFrames_setFrames]
  refine ⟨_, W.heap.size, _, fun target ht => st.trans (by rw [← hU]; exact ht), X3.forget (fun y hy => ?_), heapAt_setCell_self _ hlt, hfound, rfl⟩
  simp only [List.mem_cons, List.not_mem_nil, or_false] at hy
  have hge : s.heap.size ≤ W.heap.size := X.same.2.1
  rcases hy with rfl | rfl | rfl | rfl | rfl <;> exact hge
/-- the words of a machine's NullPointerException, but the four that speak of the heap -/
def vx_atN (n : Nat) : List Cond := (Bundle.npeArmAtoms n).filter vx_no
/-- the words of a machine's throw with a message, but the four that speak of the heap -/
def vx_atM (X : String) (names : List String) : List Cond := (Bundle.messageArmAtoms X names).filter vx_no
section
variable {p : Program} {l : Launch} {e : Env} {R : Room} {s : State} {m : MethodId} {args : Array Value} {below : List Frame} {meth : Method} {c : Code} {H : Heap} {locs : List Loc} {cells slots : Nat}
/-- a frame seen from a rebased start, seen from the first start again -/
theorem vx_back9 {T S : State} {R' : Room} {k n : Nat} (X : Stand p l e R s m args below meth c T locs cells slots) (Y : Stand p l e R' ((T.setVm s.vm).setFrames (.invoking m args :: below)) m args below meth c T [] 0 0) (Z : Stand p l e R' ((T.setVm s.vm).setFrames (.invoking m args :: below)) m args below meth c S [] k n) :
    Stand p l e R s m args below meth c S locs (cells + k) (slots + n) := by
  have hW0 : s.WarmedH ((T.setVm s.vm).setFrames (.invoking m args :: below)).vm := State.WarmedH.refl s
  refine { admits := X.admits, cas := X.cas, clock := X.clock, frames := X.frames, room := X.room, hears := X.hears, method := X.method, code := X.code, here := Z.here, tail := Z.tail, warmed := State.WarmedH.trans hW0 Z.warmed, limits := Z.limits.trans (Y.limits.symm.trans X.limits), bytes := Z.bytes.trans (Y.bytes.symm.trans X.bytes), same := ?_ }
  obtain ⟨e1, e2⟩ := Z.same
  rw [State.setFrames_setFrames] at e1
  have h2 : (T.setVm s.vm).sameButNew (S.setVm s.vm) [] k n := ⟨e1, e2⟩
  have h3 := X.same.trans h2
  rw [List.append_nil] at h3
  exact h3
/-- from the machine's note that E is thrown here with this text -/
def vx_Note (p : Program) (l : Launch) (e : Env) (R : Room) (s : State) (m : MethodId) (args : Array Value) (below : List Frame) (meth : Method) (c : Code) (H : Heap) (locs : List Loc) (cells slots : Nat) (Q : State → Prop) (g : JFrame) (E text : String) : Prop :=
  ∀ T : State, T.heap = H → Stand p l e R s m args below meth c T locs cells slots → ∃ t, Steps p.tables e below ((T.setTop g).pushFrame (.throwNew E (some text) none)) t ∧ Q t
theorem vx_vm {pc : Nat} {ls : Array Slot} {rest : List Value} {Q : State → Prop} (hexec : p.tables.exec = Jvm.exec) (hl : l.stackTraces = false) {cls text : String} {names : List String} {nb : Nat} {A : Nat → Prop}
    (hcls : Bundle.fit cls = true) (hnames : ∀ n ∈ names, Bundle.fit n = true) (hsoe : (cls == "java/lang/StackOverflowError") = false) (hoom : (cls == "java/lang/OutOfMemoryError") = false)
    (hat : ∀ w ∈ vx_atM cls names, w.before args s = true) (hgood : ∀ w ∈ vx_atM cls names, vx_ot w = true)
    (hU : vx_Zq Bundle.tN "UNASSIGNED_STACK" Bundle.steD A s s.heap) (hN : vx_Zq Bundle.tN "SUPPRESSED_SENTINEL" Bundle.listD A s s.heap) (hS : va_S A s.heap H locs) (hsize : ls.size = c.maxLocals)
    (htext : (text == notModelled) = false) (hnb : (stringBytes (stringToUtf16 text)).size ≤ nb) (hnb1 : nb ≤ 1000)
    (hRframes : names.length + 4 < R.frames) (hRlocals : (rest.map fun v => v.category).sum + 10240 ≤ R.locals) (hshort : 13 * names.length + 55 ≤ 10240) (hRcells : cells + 3 ≤ R.cells) (hRslots : slots + (nb + 10) ≤ R.slots) (hlocks : meth.locks = false)
    (k : ∀ (H1 : Heap) (q9 : Addr) (ce : Cell), H.size ≤ H1.size → (∀ q : Nat, q < H.size → H1[q]? = H[q]?) → va_S A s.heap H1 locs → H1[q9]? = some ce → ce.vm = .none → s.vm.findClass cls = some ce.cls → vx_W p l e R s m args below meth c H1 locs (cells + 3) (slots + (nb + 10)) Q (F0 m pc ls rest) q9) :
    vx_Note p l e R s m args below meth c H locs cells slots Q (F0 m pc ls rest) cls text := by
  intro T hT X
  have htr : e.platform.stackTraces = false := (show e.platform.stackTraces = l.stackTraces by rw [X.admits.platform]).trans hl
  have Y := vx_rebase X (R' := { frames := R.frames, locals := R.locals, cells := 3, slots := nb + 10 }) (Nat.le_refl _) (Nat.le_refl _) hRcells hRslots
  have hhp : ((T.setVm s.vm).setFrames (.invoking m args :: below)).heap = H := hT
  have hW0 : s.WarmedH ((T.setVm s.vm).setFrames (.invoking m args :: below)).vm := State.WarmedH.refl s
  have hat' : ∀ w ∈ vx_atM cls names, w.before args ((T.setVm s.vm).setFrames (.invoking m args :: below)) = true := fun w hw => vx_ot_at hW0 rfl (hgood w hw) (hat w hw)
  have hU' : vx_Zq Bundle.tN "UNASSIGNED_STACK" Bundle.steD A ((T.setVm s.vm).setFrames (.invoking m args :: below)) ((T.setVm s.vm).setFrames (.invoking m args :: below)).heap := by rw [hhp]; exact vx_Zq.moved hW0.alike (hU.kept hS.2.1)
  have hN' : vx_Zq Bundle.tN "SUPPRESSED_SENTINEL" Bundle.listD A ((T.setVm s.vm).setFrames (.invoking m args :: below)) ((T.setVm s.vm).setFrames (.invoking m args :: below)).heap := by rw [hhp]; exact vx_Zq.moved hW0.alike (hN.kept hS.2.1)
  obtain ⟨S, q, ce, st, Z, hce, hcl', hv⟩ := vx_vmAt Y hexec htr (cls := cls) (names := names) (text := text) hcls hnames hsoe hoom (vx_own hat' (vx_isRefq hU'.1) (vx_isRefq hN'.1) hU'.2.word hN'.2.word) (fun x hx => nomatch hx) htext
    (by rw [Launch.admits_arrayLengthLimit X.admits]; omega) (by rw [Launch.admits_maxHeapBytes X.admits]; simp only [componentBytes]; omega)
    (g := F0 m pc ls rest) rfl hsize hRframes (by show 2 * 0 + (rest.map fun v => v.category).sum + 10240 ≤ R.locals; omega) hshort (by show 0 + 3 ≤ 3; omega) (by show 0 + (_ + 4 + 6) ≤ nb + 10; omega) hlocks
  obtain ⟨f1, f2⟩ := vx_frame Z.same
  have f1' : H.size ≤ S.heap.size := by rw [← hT]; exact f1
  have f2' : ∀ q : Nat, q < H.size → S.heap[q]? = H[q]? := fun q hq => by
    rw [← hT]
    exact f2 q (by rw [← hT] at hq; exact hq) (fun z hz => nomatch hz)
  have X5 := vx_back9 X Y Z
  have X6 : Stand p l e R s m args below meth c S locs (cells + 3) (slots + (nb + 10)) := { X5 with same := X5.same.mono (by omega) (by omega) }
  obtain ⟨t, a1, b1⟩ := k S.heap q ce f1' f2' ⟨Nat.le_trans hS.1 f1', fun q h1 h2 => (f2' q (Nat.lt_of_lt_of_le h1 hS.1)).trans (hS.2.1 q h1 h2), hS.2.2⟩ hce hv hcl' S rfl X6
  exact ⟨t, st t a1, b1⟩
/-- from the machine's note that NullPointerException is thrown here -/
def vx_NoteN (p : Program) (l : Launch) (e : Env) (R : Room) (s : State) (m : MethodId) (args : Array Value) (below : List Frame) (meth : Method) (c : Code) (H : Heap) (locs : List Loc) (cells slots : Nat) (Q : State → Prop) (g : JFrame) : Prop :=
  ∀ T : State, T.heap = H → Stand p l e R s m args below meth c T locs cells slots → ∃ t, Steps p.tables e below ((T.setTop g).pushFrame (.throwNew "java/lang/NullPointerException" none none)) t ∧ Q t
theorem vx_npe {pc : Nat} {ls : Array Slot} {rest : List Value} {Q : State → Prop} (hexec : p.tables.exec = Jvm.exec) (hl : l.stackTraces = false) {nb : Nat} {A : Nat → Prop}
    (hat : ∀ w ∈ vx_atN nb, w.before args s = true) (hgood : ∀ w ∈ vx_atN nb, vx_ot w = true)
    (hU : vx_Zq Bundle.tN "UNASSIGNED_STACK" Bundle.steD A s s.heap) (hN : vx_Zq Bundle.tN "SUPPRESSED_SENTINEL" Bundle.listD A s s.heap) (hS : va_S A s.heap H locs) (hsize : ls.size = c.maxLocals)
    (hRframes : 7 < R.frames) (hRlocals : (rest.map fun v => v.category).sum + 10240 ≤ R.locals) (hRcells : cells + 1 ≤ R.cells) (hRslots : slots + nb ≤ R.slots) (hlocks : meth.locks = false)
    (k : ∀ (H1 : Heap) (q9 : Addr) (ce : Cell), H.size ≤ H1.size → (∀ q : Nat, q < H.size → H1[q]? = H[q]?) → va_S A s.heap H1 locs → H1[q9]? = some ce → ce.vm = .none → s.vm.findClass "java/lang/NullPointerException" = some ce.cls → vx_W p l e R s m args below meth c H1 locs (cells + 1) (slots + nb) Q (F0 m pc ls rest) q9) :
    vx_NoteN p l e R s m args below meth c H locs cells slots Q (F0 m pc ls rest) := by
  intro T hT X
  have htr : e.platform.stackTraces = false := (show e.platform.stackTraces = l.stackTraces by rw [X.admits.platform]).trans hl
  have Y := vx_rebase X (R' := { frames := R.frames, locals := R.locals, cells := 1, slots := nb }) (Nat.le_refl _) (Nat.le_refl _) hRcells hRslots
  have hhp : ((T.setVm s.vm).setFrames (.invoking m args :: below)).heap = H := hT
  have hW0 : s.WarmedH ((T.setVm s.vm).setFrames (.invoking m args :: below)).vm := State.WarmedH.refl s
  have hat' : ∀ w ∈ vx_atN nb, w.before args ((T.setVm s.vm).setFrames (.invoking m args :: below)) = true := fun w hw => vx_ot_at hW0 rfl (hgood w hw) (hat w hw)
  have hU' : vx_Zq Bundle.tN "UNASSIGNED_STACK" Bundle.steD A ((T.setVm s.vm).setFrames (.invoking m args :: below)) ((T.setVm s.vm).setFrames (.invoking m args :: below)).heap := by rw [hhp]; exact vx_Zq.moved hW0.alike (hU.kept hS.2.1)
  have hN' : vx_Zq Bundle.tN "SUPPRESSED_SENTINEL" Bundle.listD A ((T.setVm s.vm).setFrames (.invoking m args :: below)) ((T.setVm s.vm).setFrames (.invoking m args :: below)).heap := by rw [hhp]; exact vx_Zq.moved hW0.alike (hN.kept hS.2.1)
  obtain ⟨S, q, ce, st, Z, hce, hcl', hv⟩ := vx_npeAt Y hexec htr (n := nb) (vx_own hat' (vx_isRefq hU'.1) (vx_isRefq hN'.1) hU'.2.word hN'.2.word) (fun x hx => nomatch hx)
    (g := F0 m pc ls rest) rfl hsize hRframes (by show 2 * 0 + (rest.map fun v => v.category).sum + 10240 ≤ R.locals; omega) (by show 0 + 1 ≤ 1; omega) (by show 0 + nb ≤ nb; omega) hlocks
  obtain ⟨f1, f2⟩ := vx_frame Z.same
  have f1' : H.size ≤ S.heap.size := by rw [← hT]; exact f1
  have f2' : ∀ q : Nat, q < H.size → S.heap[q]? = H[q]? := fun q hq => by
    rw [← hT]
    exact f2 q (by rw [← hT] at hq; exact hq) (fun z hz => nomatch hz)
  have X5 := vx_back9 X Y Z
  have X6 : Stand p l e R s m args below meth c S locs (cells + 1) (slots + nb) := { X5 with same := X5.same.mono (by omega) (by omega) }
  obtain ⟨t, a1, b1⟩ := k S.heap q ce f1' f2' ⟨Nat.le_trans hS.1 f1', fun q h1 h2 => (f2' q (Nat.lt_of_lt_of_le h1 hS.1)).trans (hS.2.1 q h1 h2), hS.2.2⟩ hce hv hcl' S rfl X6
  exact ⟨t, st t a1, b1⟩
variable {Q : State → Prop} {cc : ByteArray} {pc : Nat} {ls : Array Slot} {rest : List Value}
theorem vx_idivZ (hexec : p.tables.exec = Jvm.exec) (hb : c.code = cc) {a b : Int32} (h0 : b = 0) (d : decode cc pc = .ok (.idiv, 1)) (k : vx_Note p l e R s m args below meth c H locs cells slots Q (F0 m pc ls rest) "java/lang/ArithmeticException" "/ by zero") :
    W p l e R s m args below meth c H locs cells slots Q (F0 m pc ls (.int b :: .int a :: rest)) := by
  intro T hT X
  obtain ⟨t, st, q⟩ := k T hT X
  exact ⟨t, X.idivZero hexec (g := F0 m pc ls (.int b :: .int a :: rest)) rfl (a := a) (rest := rest) (by rw [h0]) (by rw [hb]; exact d) t st, q⟩
theorem vx_iremZ (hexec : p.tables.exec = Jvm.exec) (hb : c.code = cc) {a b : Int32} (h0 : b = 0) (d : decode cc pc = .ok (.irem, 1)) (k : vx_Note p l e R s m args below meth c H locs cells slots Q (F0 m pc ls rest) "java/lang/ArithmeticException" "/ by zero") :
    W p l e R s m args below meth c H locs cells slots Q (F0 m pc ls (.int b :: .int a :: rest)) := by
  intro T hT X
  obtain ⟨t, st, q⟩ := k T hT X
  exact ⟨t, X.iremZero hexec (g := F0 m pc ls (.int b :: .int a :: rest)) rfl (a := a) (rest := rest) (by rw [h0]) (by rw [hb]; exact d) t st, q⟩
theorem vx_ldivZ (hexec : p.tables.exec = Jvm.exec) (hb : c.code = cc) {a b : Int64} (h0 : b = 0) (d : decode cc pc = .ok (.ldiv, 1)) (k : vx_Note p l e R s m args below meth c H locs cells slots Q (F0 m pc ls rest) "java/lang/ArithmeticException" "/ by zero") :
    W p l e R s m args below meth c H locs cells slots Q (F0 m pc ls (.long b :: .long a :: rest)) := by
  intro T hT X
  obtain ⟨t, st, q⟩ := k T hT X
  exact ⟨t, X.ldivZero hexec (g := F0 m pc ls (.long b :: .long a :: rest)) rfl (a := a) (rest := rest) (by rw [h0]) (by rw [hb]; exact d) t st, q⟩
theorem vx_lremZ (hexec : p.tables.exec = Jvm.exec) (hb : c.code = cc) {a b : Int64} (h0 : b = 0) (d : decode cc pc = .ok (.lrem, 1)) (k : vx_Note p l e R s m args below meth c H locs cells slots Q (F0 m pc ls rest) "java/lang/ArithmeticException" "/ by zero") :
    W p l e R s m args below meth c H locs cells slots Q (F0 m pc ls (.long b :: .long a :: rest)) := by
  intro T hT X
  obtain ⟨t, st, q⟩ := k T hT X
  exact ⟨t, X.lremZero hexec (g := F0 m pc ls (.long b :: .long a :: rest)) rfl (a := a) (rest := rest) (by rw [h0]) (by rw [hb]; exact d) t st, q⟩
theorem vx_ialdZ {D : va_G} {cl : List vw_C} {ws : va_W} {tys : List (ClassId × FieldType)} {a : Nat} (hexec : p.tables.exec = Jvm.exec) (hb : c.code = cc) (hK : va_K D cl tys s) (hP : va_P D cl ws H) (q0 t0 : Nat) {cA : ClassId} {n : Nat} {f : Nat → Int32} (ha : ws[q0]? = some (a, .inl (cA, n, .inl f))) (ht : tys[t0]? = some (cA, .int)) {i : Int32} (hout : ¬ vp_in i n) (hdg : decode cc pc = .ok (.iaload, 1))
    (k : ∀ tx : String, tx = (toString "Index " ++ toString i ++ toString " out of bounds for length " ++ toString n : String) → vx_Note p l e R s m args below meth c H locs cells slots Q (F0 m pc ls rest) "java/lang/ArrayIndexOutOfBoundsException" tx) : W p l e R s m args below meth c H locs cells slots Q (F0 m pc ls (.int i :: .ref a :: rest)) := by
  intro T hT X
  obtain ⟨t, st, q⟩ := k _ rfl T hT X
  refine ⟨t, ?_, q⟩
  have h1 := X.ialoadOut hexec (by rw [hT]; exact hP q0 _ ha) ((hK.2 t0 _ ht).1 n (fun j => .int (f j))) (j := i) (by show (i < 0 ∨ (arrV _ _ _).slots.size ≤ _); rw [arrV_size]; exact Classical.byContradiction hout) (g := F0 m pc ls (.int i :: .ref a :: rest)) rfl (rest := rest) rfl (by rw [hb]; exact hdg) t
  simp only [arrV_size] at h1
  exact h1 st
theorem vx_iastZ {D : va_G} {cl : List vw_C} {ws : va_W} {tys : List (ClassId × FieldType)} {a : Nat} (hexec : p.tables.exec = Jvm.exec) (hb : c.code = cc) (hK : va_K D cl tys s) (hP : va_P D cl ws H) (q0 t0 : Nat) {cA : ClassId} {n : Nat} {f : Nat → Int32} (ha : ws[q0]? = some (a, .inl (cA, n, .inl f))) (ht : tys[t0]? = some (cA, .int)) {i : Int32} {x : Int32} (hout : ¬ vp_in i n) (hdg : decode cc pc = .ok (.iastore, 1))
    (k : ∀ tx : String, tx = (toString "Index " ++ toString i ++ toString " out of bounds for length " ++ toString n : String) → vx_Note p l e R s m args below meth c H locs cells slots Q (F0 m pc ls rest) "java/lang/ArrayIndexOutOfBoundsException" tx) : W p l e R s m args below meth c H locs cells slots Q (F0 m pc ls (.int x :: .int i :: .ref a :: rest)) := by
  intro T hT X
  obtain ⟨t, st, q⟩ := k _ rfl T hT X
  refine ⟨t, ?_, q⟩
  have h1 := X.iastoreOut hexec (by rw [hT]; exact hP q0 _ ha) ((hK.2 t0 _ ht).1 n (fun j => .int (f j))) (j := i) (by show (i < 0 ∨ (arrV _ _ _).slots.size ≤ _); rw [arrV_size]; exact Classical.byContradiction hout) (g := F0 m pc ls (.int x :: .int i :: .ref a :: rest)) rfl (rest := rest) rfl (by rw [hb]; exact hdg) t
  simp only [arrV_size] at h1
  exact h1 st
theorem vx_baldZ {D : va_G} {cl : List vw_C} {ws : va_W} {tys : List (ClassId × FieldType)} {a : Nat} (hexec : p.tables.exec = Jvm.exec) (hb : c.code = cc) (hK : va_K D cl tys s) (hP : va_P D cl ws H) (q0 t0 : Nat) {cA : ClassId} {n : Nat} {f : Nat → Int32} (ha : ws[q0]? = some (a, .inl (cA, n, .inl f))) (ht : tys[t0]? = some (cA, .byte)) {i : Int32} (hout : ¬ vp_in i n) (hdg : decode cc pc = .ok (.baload, 1))
    (k : ∀ tx : String, tx = (toString "Index " ++ toString i ++ toString " out of bounds for length " ++ toString n : String) → vx_Note p l e R s m args below meth c H locs cells slots Q (F0 m pc ls rest) "java/lang/ArrayIndexOutOfBoundsException" tx) : W p l e R s m args below meth c H locs cells slots Q (F0 m pc ls (.int i :: .ref a :: rest)) := by
  intro T hT X
  obtain ⟨t, st, q⟩ := k _ rfl T hT X
  refine ⟨t, ?_, q⟩
  have h1 := X.baloadOut hexec (by rw [hT]; exact hP q0 _ ha) ((hK.2 t0 _ ht).1 n (fun j => .int (f j))) (j := i) (by show (i < 0 ∨ (arrV _ _ _).slots.size ≤ _); rw [arrV_size]; exact Classical.byContradiction hout) (g := F0 m pc ls (.int i :: .ref a :: rest)) rfl (rest := rest) rfl (by rw [hb]; exact hdg) t
  simp only [arrV_size] at h1
  exact h1 st
theorem vx_bastZ {D : va_G} {cl : List vw_C} {ws : va_W} {tys : List (ClassId × FieldType)} {a : Nat} (hexec : p.tables.exec = Jvm.exec) (hb : c.code = cc) (hK : va_K D cl tys s) (hP : va_P D cl ws H) (q0 t0 : Nat) {cA : ClassId} {n : Nat} {f : Nat → Int32} (ha : ws[q0]? = some (a, .inl (cA, n, .inl f))) (ht : tys[t0]? = some (cA, .byte)) {i : Int32} {x : Int32} (hout : ¬ vp_in i n) (hdg : decode cc pc = .ok (.bastore, 1))
    (k : ∀ tx : String, tx = (toString "Index " ++ toString i ++ toString " out of bounds for length " ++ toString n : String) → vx_Note p l e R s m args below meth c H locs cells slots Q (F0 m pc ls rest) "java/lang/ArrayIndexOutOfBoundsException" tx) : W p l e R s m args below meth c H locs cells slots Q (F0 m pc ls (.int x :: .int i :: .ref a :: rest)) := by
  intro T hT X
  obtain ⟨t, st, q⟩ := k _ rfl T hT X
  refine ⟨t, ?_, q⟩
  have h1 := X.bastoreOut hexec (by rw [hT]; exact hP q0 _ ha) ((hK.2 t0 _ ht).1 n (fun j => .int (f j))) (j := i) (by show (i < 0 ∨ (arrV _ _ _).slots.size ≤ _); rw [arrV_size]; exact Classical.byContradiction hout) (g := F0 m pc ls (.int x :: .int i :: .ref a :: rest)) rfl (rest := rest) rfl (by rw [hb]; exact hdg) t
  simp only [arrV_size] at h1
  exact h1 st
theorem vx_zaldZ {D : va_G} {cl : List vw_C} {ws : va_W} {tys : List (ClassId × FieldType)} {a : Nat} (hexec : p.tables.exec = Jvm.exec) (hb : c.code = cc) (hK : va_K D cl tys s) (hP : va_P D cl ws H) (q0 t0 : Nat) {cA : ClassId} {n : Nat} {f : Nat → Int32} (ha : ws[q0]? = some (a, .inl (cA, n, .inl f))) (ht : tys[t0]? = some (cA, .boolean)) {i : Int32} (hout : ¬ vp_in i n) (hdg : decode cc pc = .ok (.baload, 1))
    (k : ∀ tx : String, tx = (toString "Index " ++ toString i ++ toString " out of bounds for length " ++ toString n : String) → vx_Note p l e R s m args below meth c H locs cells slots Q (F0 m pc ls rest) "java/lang/ArrayIndexOutOfBoundsException" tx) : W p l e R s m args below meth c H locs cells slots Q (F0 m pc ls (.int i :: .ref a :: rest)) := by
  intro T hT X
  obtain ⟨t, st, q⟩ := k _ rfl T hT X
  refine ⟨t, ?_, q⟩
  have h1 := X.baloadOut hexec (by rw [hT]; exact hP q0 _ ha) ((hK.2 t0 _ ht).1 n (fun j => .int (f j))) (j := i) (by show (i < 0 ∨ (arrV _ _ _).slots.size ≤ _); rw [arrV_size]; exact Classical.byContradiction hout) (g := F0 m pc ls (.int i :: .ref a :: rest)) rfl (rest := rest) rfl (by rw [hb]; exact hdg) t
  simp only [arrV_size] at h1
  exact h1 st
theorem vx_zastZ {D : va_G} {cl : List vw_C} {ws : va_W} {tys : List (ClassId × FieldType)} {a : Nat} (hexec : p.tables.exec = Jvm.exec) (hb : c.code = cc) (hK : va_K D cl tys s) (hP : va_P D cl ws H) (q0 t0 : Nat) {cA : ClassId} {n : Nat} {f : Nat → Int32} (ha : ws[q0]? = some (a, .inl (cA, n, .inl f))) (ht : tys[t0]? = some (cA, .boolean)) {i : Int32} {x : Int32} (hout : ¬ vp_in i n) (hdg : decode cc pc = .ok (.bastore, 1))
    (k : ∀ tx : String, tx = (toString "Index " ++ toString i ++ toString " out of bounds for length " ++ toString n : String) → vx_Note p l e R s m args below meth c H locs cells slots Q (F0 m pc ls rest) "java/lang/ArrayIndexOutOfBoundsException" tx) : W p l e R s m args below meth c H locs cells slots Q (F0 m pc ls (.int x :: .int i :: .ref a :: rest)) := by
  intro T hT X
  obtain ⟨t, st, q⟩ := k _ rfl T hT X
  refine ⟨t, ?_, q⟩
  have h1 := X.bastoreOut hexec (by rw [hT]; exact hP q0 _ ha) ((hK.2 t0 _ ht).1 n (fun j => .int (f j))) (j := i) (by show (i < 0 ∨ (arrV _ _ _).slots.size ≤ _); rw [arrV_size]; exact Classical.byContradiction hout) (g := F0 m pc ls (.int x :: .int i :: .ref a :: rest)) rfl (rest := rest) rfl (by rw [hb]; exact hdg) t
  simp only [arrV_size] at h1
  exact h1 st
theorem vx_caldZ {D : va_G} {cl : List vw_C} {ws : va_W} {tys : List (ClassId × FieldType)} {a : Nat} (hexec : p.tables.exec = Jvm.exec) (hb : c.code = cc) (hK : va_K D cl tys s) (hP : va_P D cl ws H) (q0 t0 : Nat) {cA : ClassId} {n : Nat} {f : Nat → Int32} (ha : ws[q0]? = some (a, .inl (cA, n, .inl f))) (ht : tys[t0]? = some (cA, .char)) {i : Int32} (hout : ¬ vp_in i n) (hdg : decode cc pc = .ok (.caload, 1))
    (k : ∀ tx : String, tx = (toString "Index " ++ toString i ++ toString " out of bounds for length " ++ toString n : String) → vx_Note p l e R s m args below meth c H locs cells slots Q (F0 m pc ls rest) "java/lang/ArrayIndexOutOfBoundsException" tx) : W p l e R s m args below meth c H locs cells slots Q (F0 m pc ls (.int i :: .ref a :: rest)) := by
  intro T hT X
  obtain ⟨t, st, q⟩ := k _ rfl T hT X
  refine ⟨t, ?_, q⟩
  have h1 := X.caloadOut hexec (by rw [hT]; exact hP q0 _ ha) ((hK.2 t0 _ ht).1 n (fun j => .int (f j))) (j := i) (by show (i < 0 ∨ (arrV _ _ _).slots.size ≤ _); rw [arrV_size]; exact Classical.byContradiction hout) (g := F0 m pc ls (.int i :: .ref a :: rest)) rfl (rest := rest) rfl (by rw [hb]; exact hdg) t
  simp only [arrV_size] at h1
  exact h1 st
theorem vx_castZ {D : va_G} {cl : List vw_C} {ws : va_W} {tys : List (ClassId × FieldType)} {a : Nat} (hexec : p.tables.exec = Jvm.exec) (hb : c.code = cc) (hK : va_K D cl tys s) (hP : va_P D cl ws H) (q0 t0 : Nat) {cA : ClassId} {n : Nat} {f : Nat → Int32} (ha : ws[q0]? = some (a, .inl (cA, n, .inl f))) (ht : tys[t0]? = some (cA, .char)) {i : Int32} {x : Int32} (hout : ¬ vp_in i n) (hdg : decode cc pc = .ok (.castore, 1))
    (k : ∀ tx : String, tx = (toString "Index " ++ toString i ++ toString " out of bounds for length " ++ toString n : String) → vx_Note p l e R s m args below meth c H locs cells slots Q (F0 m pc ls rest) "java/lang/ArrayIndexOutOfBoundsException" tx) : W p l e R s m args below meth c H locs cells slots Q (F0 m pc ls (.int x :: .int i :: .ref a :: rest)) := by
  intro T hT X
  obtain ⟨t, st, q⟩ := k _ rfl T hT X
  refine ⟨t, ?_, q⟩
  have h1 := X.castoreOut hexec (by rw [hT]; exact hP q0 _ ha) ((hK.2 t0 _ ht).1 n (fun j => .int (f j))) (j := i) (by show (i < 0 ∨ (arrV _ _ _).slots.size ≤ _); rw [arrV_size]; exact Classical.byContradiction hout) (g := F0 m pc ls (.int x :: .int i :: .ref a :: rest)) rfl (rest := rest) rfl (by rw [hb]; exact hdg) t
  simp only [arrV_size] at h1
  exact h1 st
theorem vx_saldZ {D : va_G} {cl : List vw_C} {ws : va_W} {tys : List (ClassId × FieldType)} {a : Nat} (hexec : p.tables.exec = Jvm.exec) (hb : c.code = cc) (hK : va_K D cl tys s) (hP : va_P D cl ws H) (q0 t0 : Nat) {cA : ClassId} {n : Nat} {f : Nat → Int32} (ha : ws[q0]? = some (a, .inl (cA, n, .inl f))) (ht : tys[t0]? = some (cA, .short)) {i : Int32} (hout : ¬ vp_in i n) (hdg : decode cc pc = .ok (.saload, 1))
    (k : ∀ tx : String, tx = (toString "Index " ++ toString i ++ toString " out of bounds for length " ++ toString n : String) → vx_Note p l e R s m args below meth c H locs cells slots Q (F0 m pc ls rest) "java/lang/ArrayIndexOutOfBoundsException" tx) : W p l e R s m args below meth c H locs cells slots Q (F0 m pc ls (.int i :: .ref a :: rest)) := by
  intro T hT X
  obtain ⟨t, st, q⟩ := k _ rfl T hT X
  refine ⟨t, ?_, q⟩
  have h1 := X.saloadOut hexec (by rw [hT]; exact hP q0 _ ha) ((hK.2 t0 _ ht).1 n (fun j => .int (f j))) (j := i) (by show (i < 0 ∨ (arrV _ _ _).slots.size ≤ _); rw [arrV_size]; exact Classical.byContradiction hout) (g := F0 m pc ls (.int i :: .ref a :: rest)) rfl (rest := rest) rfl (by rw [hb]; exact hdg) t
  simp only [arrV_size] at h1
  exact h1 st
theorem vx_sastZ {D : va_G} {cl : List vw_C} {ws : va_W} {tys : List (ClassId × FieldType)} {a : Nat} (hexec : p.tables.exec = Jvm.exec) (hb : c.code = cc) (hK : va_K D cl tys s) (hP : va_P D cl ws H) (q0 t0 : Nat) {cA : ClassId} {n : Nat} {f : Nat → Int32} (ha : ws[q0]? = some (a, .inl (cA, n, .inl f))) (ht : tys[t0]? = some (cA, .short)) {i : Int32} {x : Int32} (hout : ¬ vp_in i n) (hdg : decode cc pc = .ok (.sastore, 1))
    (k : ∀ tx : String, tx = (toString "Index " ++ toString i ++ toString " out of bounds for length " ++ toString n : String) → vx_Note p l e R s m args below meth c H locs cells slots Q (F0 m pc ls rest) "java/lang/ArrayIndexOutOfBoundsException" tx) : W p l e R s m args below meth c H locs cells slots Q (F0 m pc ls (.int x :: .int i :: .ref a :: rest)) := by
  intro T hT X
  obtain ⟨t, st, q⟩ := k _ rfl T hT X
  refine ⟨t, ?_, q⟩
  have h1 := X.sastoreOut hexec (by rw [hT]; exact hP q0 _ ha) ((hK.2 t0 _ ht).1 n (fun j => .int (f j))) (j := i) (by show (i < 0 ∨ (arrV _ _ _).slots.size ≤ _); rw [arrV_size]; exact Classical.byContradiction hout) (g := F0 m pc ls (.int x :: .int i :: .ref a :: rest)) rfl (rest := rest) rfl (by rw [hb]; exact hdg) t
  simp only [arrV_size] at h1
  exact h1 st
theorem vx_laldZ {D : va_G} {cl : List vw_C} {ws : va_W} {tys : List (ClassId × FieldType)} {a : Nat} (hexec : p.tables.exec = Jvm.exec) (hb : c.code = cc) (hK : va_K D cl tys s) (hP : va_P D cl ws H) (q0 t0 : Nat) {cA : ClassId} {n : Nat} {f : Nat → Int64} (ha : ws[q0]? = some (a, .inl (cA, n, .inr (.inl f)))) (ht : tys[t0]? = some (cA, .long)) {i : Int32} (hout : ¬ vp_in i n) (hdg : decode cc pc = .ok (.laload, 1))
    (k : ∀ tx : String, tx = (toString "Index " ++ toString i ++ toString " out of bounds for length " ++ toString n : String) → vx_Note p l e R s m args below meth c H locs cells slots Q (F0 m pc ls rest) "java/lang/ArrayIndexOutOfBoundsException" tx) : W p l e R s m args below meth c H locs cells slots Q (F0 m pc ls (.int i :: .ref a :: rest)) := by
  intro T hT X
  obtain ⟨t, st, q⟩ := k _ rfl T hT X
  refine ⟨t, ?_, q⟩
  have h1 := X.laloadOut hexec (by rw [hT]; exact hP q0 _ ha) ((hK.2 t0 _ ht).1 n (fun j => .long (f j))) (j := i) (by show (i < 0 ∨ (arrV _ _ _).slots.size ≤ _); rw [arrV_size]; exact Classical.byContradiction hout) (g := F0 m pc ls (.int i :: .ref a :: rest)) rfl (rest := rest) rfl (by rw [hb]; exact hdg) t
  simp only [arrV_size] at h1
  exact h1 st
theorem vx_lastZ {D : va_G} {cl : List vw_C} {ws : va_W} {tys : List (ClassId × FieldType)} {a : Nat} (hexec : p.tables.exec = Jvm.exec) (hb : c.code = cc) (hK : va_K D cl tys s) (hP : va_P D cl ws H) (q0 t0 : Nat) {cA : ClassId} {n : Nat} {f : Nat → Int64} (ha : ws[q0]? = some (a, .inl (cA, n, .inr (.inl f)))) (ht : tys[t0]? = some (cA, .long)) {i : Int32} {x : Int64} (hout : ¬ vp_in i n) (hdg : decode cc pc = .ok (.lastore, 1))
    (k : ∀ tx : String, tx = (toString "Index " ++ toString i ++ toString " out of bounds for length " ++ toString n : String) → vx_Note p l e R s m args below meth c H locs cells slots Q (F0 m pc ls rest) "java/lang/ArrayIndexOutOfBoundsException" tx) : W p l e R s m args below meth c H locs cells slots Q (F0 m pc ls (.long x :: .int i :: .ref a :: rest)) := by
  intro T hT X
  obtain ⟨t, st, q⟩ := k _ rfl T hT X
  refine ⟨t, ?_, q⟩
  have h1 := X.lastoreOut hexec (by rw [hT]; exact hP q0 _ ha) ((hK.2 t0 _ ht).1 n (fun j => .long (f j))) (j := i) (by show (i < 0 ∨ (arrV _ _ _).slots.size ≤ _); rw [arrV_size]; exact Classical.byContradiction hout) (g := F0 m pc ls (.long x :: .int i :: .ref a :: rest)) rfl (rest := rest) rfl (by rw [hb]; exact hdg) t
  simp only [arrV_size] at h1
  exact h1 st
theorem vx_faldZ {D : va_G} {cl : List vw_C} {ws : va_W} {tys : List (ClassId × FieldType)} {a : Nat} (hexec : p.tables.exec = Jvm.exec) (hb : c.code = cc) (hK : va_K D cl tys s) (hP : va_P D cl ws H) (q0 t0 : Nat) {cA : ClassId} {n : Nat} {f : Nat → UInt32} (ha : ws[q0]? = some (a, .inl (cA, n, .inr (.inr (.inl f))))) (ht : tys[t0]? = some (cA, .float)) {i : Int32} (hout : ¬ vp_in i n) (hdg : decode cc pc = .ok (.faload, 1))
    (k : ∀ tx : String, tx = (toString "Index " ++ toString i ++ toString " out of bounds for length " ++ toString n : String) → vx_Note p l e R s m args below meth c H locs cells slots Q (F0 m pc ls rest) "java/lang/ArrayIndexOutOfBoundsException" tx) : W p l e R s m args below meth c H locs cells slots Q (F0 m pc ls (.int i :: .ref a :: rest)) := by
  intro T hT X
  obtain ⟨t, st, q⟩ := k _ rfl T hT X
  refine ⟨t, ?_, q⟩
  have h1 := X.faloadOut hexec (by rw [hT]; exact hP q0 _ ha) ((hK.2 t0 _ ht).1 n (fun j => .float (f j))) (j := i) (by show (i < 0 ∨ (arrV _ _ _).slots.size ≤ _); rw [arrV_size]; exact Classical.byContradiction hout) (g := F0 m pc ls (.int i :: .ref a :: rest)) rfl (rest := rest) rfl (by rw [hb]; exact hdg) t
  simp only [arrV_size] at h1
  exact h1 st
theorem vx_fastZ {D : va_G} {cl : List vw_C} {ws : va_W} {tys : List (ClassId × FieldType)} {a : Nat} (hexec : p.tables.exec = Jvm.exec) (hb : c.code = cc) (hK : va_K D cl tys s) (hP : va_P D cl ws H) (q0 t0 : Nat) {cA : ClassId} {n : Nat} {f : Nat → UInt32} (ha : ws[q0]? = some (a, .inl (cA, n, .inr (.inr (.inl f))))) (ht : tys[t0]? = some (cA, .float)) {i : Int32} {x : UInt32} (hout : ¬ vp_in i n) (hdg : decode cc pc = .ok (.fastore, 1))
    (k : ∀ tx : String, tx = (toString "Index " ++ toString i ++ toString " out of bounds for length " ++ toString n : String) → vx_Note p l e R s m args below meth c H locs cells slots Q (F0 m pc ls rest) "java/lang/ArrayIndexOutOfBoundsException" tx) : W p l e R s m args below meth c H locs cells slots Q (F0 m pc ls (.float x :: .int i :: .ref a :: rest)) := by
  intro T hT X
  obtain ⟨t, st, q⟩ := k _ rfl T hT X
  refine ⟨t, ?_, q⟩
  have h1 := X.fastoreOut hexec (by rw [hT]; exact hP q0 _ ha) ((hK.2 t0 _ ht).1 n (fun j => .float (f j))) (j := i) (by show (i < 0 ∨ (arrV _ _ _).slots.size ≤ _); rw [arrV_size]; exact Classical.byContradiction hout) (g := F0 m pc ls (.float x :: .int i :: .ref a :: rest)) rfl (rest := rest) rfl (by rw [hb]; exact hdg) t
  simp only [arrV_size] at h1
  exact h1 st
theorem vx_daldZ {D : va_G} {cl : List vw_C} {ws : va_W} {tys : List (ClassId × FieldType)} {a : Nat} (hexec : p.tables.exec = Jvm.exec) (hb : c.code = cc) (hK : va_K D cl tys s) (hP : va_P D cl ws H) (q0 t0 : Nat) {cA : ClassId} {n : Nat} {f : Nat → UInt64} (ha : ws[q0]? = some (a, .inl (cA, n, .inr (.inr (.inr (.inl f)))))) (ht : tys[t0]? = some (cA, .double)) {i : Int32} (hout : ¬ vp_in i n) (hdg : decode cc pc = .ok (.daload, 1))
    (k : ∀ tx : String, tx = (toString "Index " ++ toString i ++ toString " out of bounds for length " ++ toString n : String) → vx_Note p l e R s m args below meth c H locs cells slots Q (F0 m pc ls rest) "java/lang/ArrayIndexOutOfBoundsException" tx) : W p l e R s m args below meth c H locs cells slots Q (F0 m pc ls (.int i :: .ref a :: rest)) := by
  intro T hT X
  obtain ⟨t, st, q⟩ := k _ rfl T hT X
  refine ⟨t, ?_, q⟩
  have h1 := X.daloadOut hexec (by rw [hT]; exact hP q0 _ ha) ((hK.2 t0 _ ht).1 n (fun j => .double (f j))) (j := i) (by show (i < 0 ∨ (arrV _ _ _).slots.size ≤ _); rw [arrV_size]; exact Classical.byContradiction hout) (g := F0 m pc ls (.int i :: .ref a :: rest)) rfl (rest := rest) rfl (by rw [hb]; exact hdg) t
  simp only [arrV_size] at h1
  exact h1 st
theorem vx_dastZ {D : va_G} {cl : List vw_C} {ws : va_W} {tys : List (ClassId × FieldType)} {a : Nat} (hexec : p.tables.exec = Jvm.exec) (hb : c.code = cc) (hK : va_K D cl tys s) (hP : va_P D cl ws H) (q0 t0 : Nat) {cA : ClassId} {n : Nat} {f : Nat → UInt64} (ha : ws[q0]? = some (a, .inl (cA, n, .inr (.inr (.inr (.inl f)))))) (ht : tys[t0]? = some (cA, .double)) {i : Int32} {x : UInt64} (hout : ¬ vp_in i n) (hdg : decode cc pc = .ok (.dastore, 1))
    (k : ∀ tx : String, tx = (toString "Index " ++ toString i ++ toString " out of bounds for length " ++ toString n : String) → vx_Note p l e R s m args below meth c H locs cells slots Q (F0 m pc ls rest) "java/lang/ArrayIndexOutOfBoundsException" tx) : W p l e R s m args below meth c H locs cells slots Q (F0 m pc ls (.double x :: .int i :: .ref a :: rest)) := by
  intro T hT X
  obtain ⟨t, st, q⟩ := k _ rfl T hT X
  refine ⟨t, ?_, q⟩
  have h1 := X.dastoreOut hexec (by rw [hT]; exact hP q0 _ ha) ((hK.2 t0 _ ht).1 n (fun j => .double (f j))) (j := i) (by show (i < 0 ∨ (arrV _ _ _).slots.size ≤ _); rw [arrV_size]; exact Classical.byContradiction hout) (g := F0 m pc ls (.double x :: .int i :: .ref a :: rest)) rfl (rest := rest) rfl (by rw [hb]; exact hdg) t
  simp only [arrV_size] at h1
  exact h1 st
theorem vx_arraylengthN (hexec : p.tables.exec = Jvm.exec) (hb : c.code = cc) (hdg : decode cc pc = .ok (.arraylength, 1)) (k : vx_NoteN p l e R s m args below meth c H locs cells slots Q (F0 m pc ls rest)) : W p l e R s m args below meth c H locs cells slots Q (F0 m pc ls (.null :: rest)) := by
  intro T hT X
  obtain ⟨t, st, q⟩ := k T hT X
  exact ⟨t, X.arraylengthNull hexec (g := F0 m pc ls (.null :: rest)) rfl (rest := rest) rfl (by rw [hb]; exact hdg) t st, q⟩
theorem vx_ialoadN (hexec : p.tables.exec = Jvm.exec) (hb : c.code = cc) {i : Int32} (hdg : decode cc pc = .ok (.iaload, 1)) (k : vx_NoteN p l e R s m args below meth c H locs cells slots Q (F0 m pc ls rest)) : W p l e R s m args below meth c H locs cells slots Q (F0 m pc ls (.int i :: .null :: rest)) := by
  intro T hT X
  obtain ⟨t, st, q⟩ := k T hT X
  exact ⟨t, X.ialoadNull hexec (g := F0 m pc ls (.int i :: .null :: rest)) rfl (rest := rest) rfl (by rw [hb]; exact hdg) t st, q⟩
theorem vx_laloadN (hexec : p.tables.exec = Jvm.exec) (hb : c.code = cc) {i : Int32} (hdg : decode cc pc = .ok (.laload, 1)) (k : vx_NoteN p l e R s m args below meth c H locs cells slots Q (F0 m pc ls rest)) : W p l e R s m args below meth c H locs cells slots Q (F0 m pc ls (.int i :: .null :: rest)) := by
  intro T hT X
  obtain ⟨t, st, q⟩ := k T hT X
  exact ⟨t, X.laloadNull hexec (g := F0 m pc ls (.int i :: .null :: rest)) rfl (rest := rest) rfl (by rw [hb]; exact hdg) t st, q⟩
theorem vx_faloadN (hexec : p.tables.exec = Jvm.exec) (hb : c.code = cc) {i : Int32} (hdg : decode cc pc = .ok (.faload, 1)) (k : vx_NoteN p l e R s m args below meth c H locs cells slots Q (F0 m pc ls rest)) : W p l e R s m args below meth c H locs cells slots Q (F0 m pc ls (.int i :: .null :: rest)) := by
  intro T hT X
  obtain ⟨t, st, q⟩ := k T hT X
  exact ⟨t, X.faloadNull hexec (g := F0 m pc ls (.int i :: .null :: rest)) rfl (rest := rest) rfl (by rw [hb]; exact hdg) t st, q⟩
theorem vx_daloadN (hexec : p.tables.exec = Jvm.exec) (hb : c.code = cc) {i : Int32} (hdg : decode cc pc = .ok (.daload, 1)) (k : vx_NoteN p l e R s m args below meth c H locs cells slots Q (F0 m pc ls rest)) : W p l e R s m args below meth c H locs cells slots Q (F0 m pc ls (.int i :: .null :: rest)) := by
  intro T hT X
  obtain ⟨t, st, q⟩ := k T hT X
  exact ⟨t, X.daloadNull hexec (g := F0 m pc ls (.int i :: .null :: rest)) rfl (rest := rest) rfl (by rw [hb]; exact hdg) t st, q⟩
theorem vx_aaloadN (hexec : p.tables.exec = Jvm.exec) (hb : c.code = cc) {i : Int32} (hdg : decode cc pc = .ok (.aaload, 1)) (k : vx_NoteN p l e R s m args below meth c H locs cells slots Q (F0 m pc ls rest)) : W p l e R s m args below meth c H locs cells slots Q (F0 m pc ls (.int i :: .null :: rest)) := by
  intro T hT X
  obtain ⟨t, st, q⟩ := k T hT X
  exact ⟨t, X.aaloadNull hexec (g := F0 m pc ls (.int i :: .null :: rest)) rfl (rest := rest) rfl (by rw [hb]; exact hdg) t st, q⟩
theorem vx_baloadN (hexec : p.tables.exec = Jvm.exec) (hb : c.code = cc) {i : Int32} (hdg : decode cc pc = .ok (.baload, 1)) (k : vx_NoteN p l e R s m args below meth c H locs cells slots Q (F0 m pc ls rest)) : W p l e R s m args below meth c H locs cells slots Q (F0 m pc ls (.int i :: .null :: rest)) := by
  intro T hT X
  obtain ⟨t, st, q⟩ := k T hT X
  exact ⟨t, X.baloadNull hexec (g := F0 m pc ls (.int i :: .null :: rest)) rfl (rest := rest) rfl (by rw [hb]; exact hdg) t st, q⟩
theorem vx_caloadN (hexec : p.tables.exec = Jvm.exec) (hb : c.code = cc) {i : Int32} (hdg : decode cc pc = .ok (.caload, 1)) (k : vx_NoteN p l e R s m args below meth c H locs cells slots Q (F0 m pc ls rest)) : W p l e R s m args below meth c H locs cells slots Q (F0 m pc ls (.int i :: .null :: rest)) := by
  intro T hT X
  obtain ⟨t, st, q⟩ := k T hT X
  exact ⟨t, X.caloadNull hexec (g := F0 m pc ls (.int i :: .null :: rest)) rfl (rest := rest) rfl (by rw [hb]; exact hdg) t st, q⟩
theorem vx_saloadN (hexec : p.tables.exec = Jvm.exec) (hb : c.code = cc) {i : Int32} (hdg : decode cc pc = .ok (.saload, 1)) (k : vx_NoteN p l e R s m args below meth c H locs cells slots Q (F0 m pc ls rest)) : W p l e R s m args below meth c H locs cells slots Q (F0 m pc ls (.int i :: .null :: rest)) := by
  intro T hT X
  obtain ⟨t, st, q⟩ := k T hT X
  exact ⟨t, X.saloadNull hexec (g := F0 m pc ls (.int i :: .null :: rest)) rfl (rest := rest) rfl (by rw [hb]; exact hdg) t st, q⟩
theorem vx_iastoreN (hexec : p.tables.exec = Jvm.exec) (hb : c.code = cc) {x : Int32} {i : Int32} (hdg : decode cc pc = .ok (.iastore, 1)) (k : vx_NoteN p l e R s m args below meth c H locs cells slots Q (F0 m pc ls rest)) : W p l e R s m args below meth c H locs cells slots Q (F0 m pc ls (.int x :: .int i :: .null :: rest)) := by
  intro T hT X
  obtain ⟨t, st, q⟩ := k T hT X
  exact ⟨t, X.iastoreNull hexec (g := F0 m pc ls (.int x :: .int i :: .null :: rest)) rfl (rest := rest) rfl (by rw [hb]; exact hdg) t st, q⟩
theorem vx_lastoreN (hexec : p.tables.exec = Jvm.exec) (hb : c.code = cc) {x : Int64} {i : Int32} (hdg : decode cc pc = .ok (.lastore, 1)) (k : vx_NoteN p l e R s m args below meth c H locs cells slots Q (F0 m pc ls rest)) : W p l e R s m args below meth c H locs cells slots Q (F0 m pc ls (.long x :: .int i :: .null :: rest)) := by
  intro T hT X
  obtain ⟨t, st, q⟩ := k T hT X
  exact ⟨t, X.lastoreNull hexec (g := F0 m pc ls (.long x :: .int i :: .null :: rest)) rfl (rest := rest) rfl (by rw [hb]; exact hdg) t st, q⟩
theorem vx_fastoreN (hexec : p.tables.exec = Jvm.exec) (hb : c.code = cc) {x : UInt32} {i : Int32} (hdg : decode cc pc = .ok (.fastore, 1)) (k : vx_NoteN p l e R s m args below meth c H locs cells slots Q (F0 m pc ls rest)) : W p l e R s m args below meth c H locs cells slots Q (F0 m pc ls (.float x :: .int i :: .null :: rest)) := by
  intro T hT X
  obtain ⟨t, st, q⟩ := k T hT X
  exact ⟨t, X.fastoreNull hexec (g := F0 m pc ls (.float x :: .int i :: .null :: rest)) rfl (rest := rest) rfl (by rw [hb]; exact hdg) t st, q⟩
theorem vx_dastoreN (hexec : p.tables.exec = Jvm.exec) (hb : c.code = cc) {x : UInt64} {i : Int32} (hdg : decode cc pc = .ok (.dastore, 1)) (k : vx_NoteN p l e R s m args below meth c H locs cells slots Q (F0 m pc ls rest)) : W p l e R s m args below meth c H locs cells slots Q (F0 m pc ls (.double x :: .int i :: .null :: rest)) := by
  intro T hT X
  obtain ⟨t, st, q⟩ := k T hT X
  exact ⟨t, X.dastoreNull hexec (g := F0 m pc ls (.double x :: .int i :: .null :: rest)) rfl (rest := rest) rfl (by rw [hb]; exact hdg) t st, q⟩
theorem vx_bastoreN (hexec : p.tables.exec = Jvm.exec) (hb : c.code = cc) {x : Int32} {i : Int32} (hdg : decode cc pc = .ok (.bastore, 1)) (k : vx_NoteN p l e R s m args below meth c H locs cells slots Q (F0 m pc ls rest)) : W p l e R s m args below meth c H locs cells slots Q (F0 m pc ls (.int x :: .int i :: .null :: rest)) := by
  intro T hT X
  obtain ⟨t, st, q⟩ := k T hT X
  exact ⟨t, X.bastoreNull hexec (g := F0 m pc ls (.int x :: .int i :: .null :: rest)) rfl (rest := rest) rfl (by rw [hb]; exact hdg) t st, q⟩
theorem vx_castoreN (hexec : p.tables.exec = Jvm.exec) (hb : c.code = cc) {x : Int32} {i : Int32} (hdg : decode cc pc = .ok (.castore, 1)) (k : vx_NoteN p l e R s m args below meth c H locs cells slots Q (F0 m pc ls rest)) : W p l e R s m args below meth c H locs cells slots Q (F0 m pc ls (.int x :: .int i :: .null :: rest)) := by
  intro T hT X
  obtain ⟨t, st, q⟩ := k T hT X
  exact ⟨t, X.castoreNull hexec (g := F0 m pc ls (.int x :: .int i :: .null :: rest)) rfl (rest := rest) rfl (by rw [hb]; exact hdg) t st, q⟩
theorem vx_sastoreN (hexec : p.tables.exec = Jvm.exec) (hb : c.code = cc) {x : Int32} {i : Int32} (hdg : decode cc pc = .ok (.sastore, 1)) (k : vx_NoteN p l e R s m args below meth c H locs cells slots Q (F0 m pc ls rest)) : W p l e R s m args below meth c H locs cells slots Q (F0 m pc ls (.int x :: .int i :: .null :: rest)) := by
  intro T hT X
  obtain ⟨t, st, q⟩ := k T hT X
  exact ⟨t, X.sastoreNull hexec (g := F0 m pc ls (.int x :: .int i :: .null :: rest)) rfl (rest := rest) rfl (by rw [hb]; exact hdg) t st, q⟩
theorem vx_invokeN {own C : String} {index maxL : Nat} {y : MethodName} {bytes : ByteArray} {ret : Option FieldType} (hexec : p.tables.exec = Jvm.exec) (hb : c.code = cc) (hown : s.vm.findClass own = some m.cls) (hlink : (Cond.methodLink own index y).before args s = true) (hinst : (Cond.instanceMethod y).before args s = true) (hcode : (Cond.code y bytes maxL ret).before args s = true) (hsel : (Cond.selects C y y).before args s = true)
    (hx : y.cls ≠ "java/lang/invoke/MethodHandle" ∧ y.cls ≠ "java/lang/invoke/VarHandle") {As : List Value} (hlen : (parseMethodDescriptor y.desc).map (fun d => d.parameters.length) = some As.length) (hdg : decode cc pc = .ok (.invokevirtual index, 3))
    (k : vx_NoteN p l e R s m args below meth c H locs cells slots Q (F0 m pc ls rest)) {st0 : List Value} (hst : st0 = As.reverse ++ .null :: rest) : W p l e R s m args below meth c H locs cells slots Q (F0 m pc ls st0) := by
  intro T hT X
  obtain ⟨r0, r, hn, hrm, hstR, hsigR⟩ := va_Decl.of hinst hcode
  obtain ⟨c2, r2, m2, q1, q2, q3, q4, kP, hkP, hkPi⟩ := Cond.selects_spec hsel
  cases hn.symm.trans q3
  have hl9 : As.length = r.sig.parameters.length := by
    rw [hsigR] at hlen
    exact (Option.some.inj hlen).symm
  obtain ⟨vm', X1, st1⟩ := X.invokevirtualNull hexec hown hlink hn hrm hstR hkP hkPi hx (g := F0 m pc ls st0) rfl (argsL := As) (rest := rest) hl9 hst (by rw [hb]; exact hdg)
  obtain ⟨t, st, q⟩ := k (T.setVm vm') hT X1
  exact ⟨t, st1 t st, q⟩
theorem vx_newarrayZ {atype : ArrayType} (hexec : p.tables.exec = Jvm.exec) (hb : c.code = cc) {n : Int32} (h0 : n < 0) (hdg : decode cc pc = .ok (.newarray atype, 2)) (k : ∀ tx : String, tx = toString n → vx_Note p l e R s m args below meth c H locs cells slots Q (F0 m pc ls rest) "java/lang/NegativeArraySizeException" tx) : W p l e R s m args below meth c H locs cells slots Q (F0 m pc ls (.int n :: rest)) := by
  intro T hT X
  obtain ⟨t, st, q⟩ := k _ rfl T hT X
  exact ⟨t, X.newarrayNegative hexec (g := F0 m pc ls (.int n :: rest)) rfl h0 (rest := rest) rfl (by rw [hb]; exact hdg) t st, q⟩
end
end VXM
/-! ===== END ===== -/
end
section
/-! ===== BEGIN .. of methods that hand back an object of the pool ===== -/
section
variable {p : Program} {l : Launch} {e : Env} {R : Room} {s : State} {m : MethodId} {args : Array Value} {below : List Frame} {meth : Method} {c : Code} {H : Heap} {locs : List Loc} {cells slots : Nat} {Q : State → Prop}
variable {mc ms : Nat} {free : Addr → Prop} {A0 A1 : Nat → Prop} {H0 : Heap} {a : Array Value} {pc : Nat} {ls : Array Slot} {st0 rest : List Value}
theorem vx_callq {S SX : Type} {post : Option Nat → S → Prop} {px : SX → Prop} {B : S → State → Prop} {BX : String → SX → State → Prop} {AX : Nat → Prop} (hr : vx_Run p l e R s m args below meth c H locs cells slots mc ms (F0 m pc ls st0) rest (va_Qq post B A1 a) (vx_X px BX AX) free) (hS : va_S A0 H0 H locs) (hA : ∀ q, q < H.size → A1 q → A0 q) (hf : ∀ q, free q → A0 q) (hAX : ∀ q, q < H.size → AX q → A0 q)
    (kx : ∀ (E : String) (ce : Cell) (q9 : Addr) (u : SX) (t : State) (H1 : Heap) (locs1 : List Loc), t.heap = H1 → s.vm.Alike t.vm → px u → BX E u t → H.size ≤ H1.size → (∀ q : Nat, q < H.size → ¬ AX q → H1[q]? = H[q]?) → va_S A0 H0 H1 locs1 → H1[q9]? = some ce → ce.vm = .none → s.vm.findClass E = some ce.cls → vx_W p l e R s m args below meth c H1 locs1 (cells + mc) (slots + ms) Q (F0 m pc ls rest) q9)
    (kk : ∀ (r : Option Nat) (u : S) (t : State) (H1 : Heap) (locs1 : List Loc), t.heap = H1 → s.vm.Alike t.vm → post r u → B u t → H.size ≤ H1.size → (∀ q : Nat, q < H.size → ¬ A1 q → H1[q]? = H[q]?) → va_S A0 H0 H1 locs1 → W p l e R s m args below meth c H1 locs1 (cells + mc) (slots + ms) Q (F0 m (pc + 3) ls (va_rf r :: rest))) : W p l e R s m args below meth c H locs cells slots Q (F0 m pc ls st0) := by
  intro T hT X
  rcases hr T hT X with ⟨v, st₀, t, T', L, h0, X', hL, e1, e2, ⟨⟨r, u, hv, hp, hb⟩, hF⟩, st⟩ | ⟨q, st₀, t, T', L, E, ce, h0, X', hL, e1, e2, ⟨u, hp, hb, hF⟩, hce, hcv, hcl, st⟩
  · cases hv
    obtain ⟨k1, k2, k3⟩ := vx_keep h0 e1 hS hA hf hL hF
    obtain ⟨t2, a1, b1⟩ := kk r u t T'.heap (locs ++ L) e1.symm (by rw [← e2]; exact X'.warmed.alike) hp hb k1 k2 k3 T' rfl X'
    exact ⟨t2, st t2 a1, b1⟩
  · obtain ⟨k1, k2, k3⟩ := vx_keep h0 e1 hS hAX hf hL hF
    obtain ⟨t2, a1, b1⟩ := kx E ce q u t T'.heap (locs ++ L) e1.symm (by rw [← e2]; exact X'.warmed.alike) hp hb k1 k2 k3 (by rw [e1]; exact hce) hcv hcl T' rfl X'
    exact ⟨t2, st.trans a1, b1⟩
end
/-! ===== END ===== -/
end
section
/-! printed names: classes, fields, methods, words  -/
def RX0 : String := "HeatStadium$Athletes"
def TX0 : u_T := fun k => match k with
  | 0 => ("HeatStadium$Athletes", "nations", "[I", true)
  | 1 => ("HeatStadium$Athletes", "doped", "[Z", true)
  | _ => ("HeatStadium$Athletes", "count", "I", false)
def tyX0 : Nat → FieldType := fun k => match k with
  | 0 => .array .int
  | 1 => .array .boolean
  | _ => .int
abbrev wsX00 : List Cond := u_ws RX0 TX0 3
theorem nmX0 : ∀ a, a < 3 → ∀ b, b < 3 → a ≠ b → (TX0 a).2.1 ≠ (TX0 b).2.1 := by decide +kernel
theorem tyX0_ok : ∀ k, k < 3 → parseFieldDescriptor (TX0 k).2.2.1 = some (tyX0 k) := by decide +kernel
abbrev cX0_init : ByteArray := prog_2_method_1_code
def yX0_init : MethodName := ⟨RX0, "<init>", "()V"⟩
def RX1 : String := "HeatStadium$Event"
def TX1 : u_T := fun k => match k with
  | 0 => ("HeatStadium$Event", "number", "I", true)
  | 1 => ("HeatStadium$Event", "kind", "C", true)
  | 2 => ("HeatStadium$Event", "standard", "I", true)
  | 3 => ("HeatStadium$Event", "quota", "I", true)
  | 4 => ("HeatStadium$Event", "limit", "I", true)
  | 5 => ("HeatStadium$Event", "bests", "[I", true)
  | 6 => ("HeatStadium$Event", "withdrawn", "[Z", true)
  | 7 => ("HeatStadium$Event", "heatMarks", "LHeatStadium$Round;", true)
  | 8 => ("HeatStadium$Event", "finalMarks", "LHeatStadium$Round;", true)
  | 9 => ("HeatStadium$Event", "jumps", "LHeatStadium$Jumps;", true)
  | 10 => ("HeatStadium$Event", "series", "LHeatStadium$Throws;", true)
  | 11 => ("HeatStadium$Event", "entries", "I", false)
  | _ => ("HeatStadium$Event", "closed", "Z", false)
def tyX1 : Nat → FieldType := fun k => match k with
  | 0 => .int
  | 1 => .char
  | 2 => .int
  | 3 => .int
  | 4 => .int
  | 5 => .array .int
  | 6 => .array .boolean
  | 7 => .object "HeatStadium$Round"
  | 8 => .object "HeatStadium$Round"
  | 9 => .object "HeatStadium$Jumps"
  | 10 => .object "HeatStadium$Throws"
  | 11 => .int
  | _ => .boolean
abbrev wsX10 : List Cond := u_ws RX1 TX1 13
theorem nmX1 : ∀ a, a < 13 → ∀ b, b < 13 → a ≠ b → (TX1 a).2.1 ≠ (TX1 b).2.1 := by decide +kernel
theorem tyX1_ok : ∀ k, k < 13 → parseFieldDescriptor (TX1 k).2.2.1 = some (tyX1 k) := by decide +kernel
abbrev cX1_init : ByteArray := prog_3_method_1_code
def yX1_init : MethodName := ⟨RX1, "<init>", "(ICIII)V"⟩
abbrev cX1_marksOf : ByteArray := prog_3_method_2_code
def yX1_marksOf : MethodName := ⟨RX1, "marksOf", "(I)LHeatStadium$Round;"⟩
abbrev cX1_worthOf : ByteArray := prog_3_method_3_code
def yX1_worthOf : MethodName := ⟨RX1, "worthOf", "(I)I"⟩
abbrev cX1_resultFrom : ByteArray := prog_3_method_4_code
def yX1_resultFrom : MethodName := ⟨RX1, "resultFrom", "(I)I"⟩
abbrev cX1_isQualified : ByteArray := prog_3_method_5_code
def yX1_isQualified : MethodName := ⟨RX1, "isQualified", "(I)Z"⟩
def RX2 : String := "HeatStadium$FieldNow"
def TX2 : u_T := fun k => match k with
  | 0 => ("HeatStadium$FieldNow", "members", "[I", true)
  | 1 => ("HeatStadium$FieldNow", "isIn", "[Z", true)
  | 2 => ("HeatStadium$FieldNow", "inOrder", "[I", true)
  | 3 => ("HeatStadium$FieldNow", "ofNation", "[I", true)
  | _ => ("HeatStadium$FieldNow", "size", "I", false)
def tyX2 : Nat → FieldType := fun k => match k with
  | 0 => .array .int
  | 1 => .array .boolean
  | 2 => .array .int
  | 3 => .array .int
  | _ => .int
abbrev wsX20 : List Cond := u_ws RX2 TX2 5
theorem nmX2 : ∀ a, a < 5 → ∀ b, b < 5 → a ≠ b → (TX2 a).2.1 ≠ (TX2 b).2.1 := by decide +kernel
theorem tyX2_ok : ∀ k, k < 5 → parseFieldDescriptor (TX2 k).2.2.1 = some (tyX2 k) := by decide +kernel
abbrev cX2_init : ByteArray := prog_4_method_1_code
def yX2_init : MethodName := ⟨RX2, "<init>", "()V"⟩
abbrev cX2_make : ByteArray := prog_4_method_2_code
def yX2_make : MethodName := ⟨RX2, "make", "(LHeatStadium$Event;LHeatStadium$Athletes;)V"⟩
abbrev cX2_order : ByteArray := prog_4_method_3_code
def yX2_order : MethodName := ⟨RX2, "order", "(LHeatStadium$Event;LHeatStadium$Athletes;)I"⟩
abbrev cX2_insert : ByteArray := prog_4_method_4_code
def yX2_insert : MethodName := ⟨RX2, "insert", "(LHeatStadium$Event;II)V"⟩
def RX3 : String := "HeatStadium$Jumps"
def TX3 : u_T := fun k => match k with
  | 0 => ("HeatStadium$Jumps", "heights", "[I", true)
  | 1 => ("HeatStadium$Jumps", "failures", "[[I", true)
  | 2 => ("HeatStadium$Jumps", "clearedAs", "[[I", true)
  | 3 => ("HeatStadium$Jumps", "failuresInRow", "[I", true)
  | 4 => ("HeatStadium$Jumps", "doneWith", "[I", true)
  | _ => ("HeatStadium$Jumps", "bars", "I", false)
def tyX3 : Nat → FieldType := fun k => match k with
  | 0 => .array .int
  | 1 => .array (.array .int)
  | 2 => .array (.array .int)
  | 3 => .array .int
  | 4 => .array .int
  | _ => .int
abbrev wsX30 : List Cond := u_ws RX3 TX3 6
theorem nmX3 : ∀ a, a < 6 → ∀ b, b < 6 → a ≠ b → (TX3 a).2.1 ≠ (TX3 b).2.1 := by decide +kernel
theorem tyX3_ok : ∀ k, k < 6 → parseFieldDescriptor (TX3 k).2.2.1 = some (tyX3 k) := by decide +kernel
abbrev cX3_init : ByteArray := prog_5_method_1_code
def yX3_init : MethodName := ⟨RX3, "<init>", "()V"⟩
abbrev cX3_lastHeight : ByteArray := prog_5_method_2_code
def yX3_lastHeight : MethodName := ⟨RX3, "lastHeight", "()I"⟩
abbrev cX3_hasTrial : ByteArray := prog_5_method_3_code
def yX3_hasTrial : MethodName := ⟨RX3, "hasTrial", "(I)Z"⟩
abbrev cX3_mark : ByteArray := prog_5_method_4_code
def yX3_mark : MethodName := ⟨RX3, "mark", "(ICI)V"⟩
abbrev cX3_highestCleared : ByteArray := prog_5_method_5_code
def yX3_highestCleared : MethodName := ⟨RX3, "highestCleared", "(I)I"⟩
abbrev cX3_failuresUpTo : ByteArray := prog_5_method_6_code
def yX3_failuresUpTo : MethodName := ⟨RX3, "failuresUpTo", "(II)I"⟩
def RX4 : String := "HeatStadium$MedalTable"
def TX4 : u_T := fun k => match k with
  | 0 => ("HeatStadium$MedalTable", "counts", "[[I", true)
  | _ => ("HeatStadium$MedalTable", "given", "I", false)
def tyX4 : Nat → FieldType := fun k => match k with
  | 0 => .array (.array .int)
  | _ => .int
abbrev wsX40 : List Cond := u_ws RX4 TX4 2
theorem nmX4 : ∀ a, a < 2 → ∀ b, b < 2 → a ≠ b → (TX4 a).2.1 ≠ (TX4 b).2.1 := by decide +kernel
theorem tyX4_ok : ∀ k, k < 2 → parseFieldDescriptor (TX4 k).2.2.1 = some (tyX4 k) := by decide +kernel
abbrev cX4_init : ByteArray := prog_6_method_1_code
def yX4_init : MethodName := ⟨RX4, "<init>", "()V"⟩
abbrev cX4_clear : ByteArray := prog_6_method_2_code
def yX4_clear : MethodName := ⟨RX4, "clear", "()V"⟩
abbrev cX4_give : ByteArray := prog_6_method_3_code
def yX4_give : MethodName := ⟨RX4, "give", "(II)V"⟩
abbrev cX4_nationAt : ByteArray := prog_6_method_4_code
def yX4_nationAt : MethodName := ⟨RX4, "nationAt", "(IZ)I"⟩
abbrev cX4_isAhead : ByteArray := prog_6_method_5_code
def yX4_isAhead : MethodName := ⟨RX4, "isAhead", "(IIZ)Z"⟩
abbrev cX4_sumOfNations : ByteArray := prog_6_method_6_code
def yX4_sumOfNations : MethodName := ⟨RX4, "sumOfNations", "()I"⟩
def RX5 : String := "HeatStadium$Protests"
def TX5 : u_T := fun k => match k with
  | 0 => ("HeatStadium$Protests", "rounds", "[LHeatStadium$Round;", true)
  | 1 => ("HeatStadium$Protests", "protesters", "[I", true)
  | 2 => ("HeatStadium$Protests", "decided", "[Z", true)
  | 3 => ("HeatStadium$Protests", "count", "I", false)
  | _ => ("HeatStadium$Protests", "kept", "J", false)
def tyX5 : Nat → FieldType := fun k => match k with
  | 0 => .array (.object "HeatStadium$Round")
  | 1 => .array .int
  | 2 => .array .boolean
  | 3 => .int
  | _ => .long
abbrev wsX50 : List Cond := u_ws RX5 TX5 5
theorem nmX5 : ∀ a, a < 5 → ∀ b, b < 5 → a ≠ b → (TX5 a).2.1 ≠ (TX5 b).2.1 := by decide +kernel
theorem tyX5_ok : ∀ k, k < 5 → parseFieldDescriptor (TX5 k).2.2.1 = some (tyX5 k) := by decide +kernel
abbrev cX5_init : ByteArray := prog_7_method_1_code
def yX5_init : MethodName := ⟨RX5, "<init>", "()V"⟩
abbrev cX5_add : ByteArray := prog_7_method_2_code
def yX5_add : MethodName := ⟨RX5, "add", "(LHeatStadium$Round;I)I"⟩
abbrev cX5_settle : ByteArray := prog_7_method_3_code
def yX5_settle : MethodName := ⟨RX5, "settle", "(IZ)V"⟩
def RX6 : String := "HeatStadium$RaceDraw"
def TX6 : u_T := fun k => match k with
  | 0 => ("HeatStadium$RaceDraw", "heats", "[I", true)
  | 1 => ("HeatStadium$RaceDraw", "inHeat", "[I", true)
  | 2 => ("HeatStadium$RaceDraw", "nationsInHeat", "[I", true)
  | 3 => ("HeatStadium$RaceDraw", "arrivals", "[I", true)
  | 4 => ("HeatStadium$RaceDraw", "tiers", "[I", true)
  | 5 => ("HeatStadium$RaceDraw", "finalists", "[I", true)
  | 6 => ("HeatStadium$RaceDraw", "heatCount", "I", false)
  | _ => ("HeatStadium$RaceDraw", "finalSize", "I", false)
def tyX6 : Nat → FieldType := fun k => match k with
  | 0 => .array .int
  | 1 => .array .int
  | 2 => .array .int
  | 3 => .array .int
  | 4 => .array .int
  | 5 => .array .int
  | 6 => .int
  | _ => .int
abbrev wsX60 : List Cond := u_ws RX6 TX6 8
theorem nmX6 : ∀ a, a < 8 → ∀ b, b < 8 → a ≠ b → (TX6 a).2.1 ≠ (TX6 b).2.1 := by decide +kernel
theorem tyX6_ok : ∀ k, k < 8 → parseFieldDescriptor (TX6 k).2.2.1 = some (tyX6 k) := by decide +kernel
abbrev cX6_init : ByteArray := prog_8_method_1_code
def yX6_init : MethodName := ⟨RX6, "<init>", "()V"⟩
abbrev cX6_make : ByteArray := prog_8_method_2_code
def yX6_make : MethodName := ⟨RX6, "make", "(LHeatStadium$Event;LHeatStadium$FieldNow;LHeatStadium$Athletes;)V"⟩
abbrev cX6_takeAll : ByteArray := prog_8_method_3_code
def yX6_takeAll : MethodName := ⟨RX6, "takeAll", "(LHeatStadium$FieldNow;)V"⟩
abbrev cX6_seed : ByteArray := prog_8_method_4_code
def yX6_seed : MethodName := ⟨RX6, "seed", "(LHeatStadium$FieldNow;LHeatStadium$Athletes;)V"⟩
abbrev cX6_turnFor : ByteArray := prog_8_method_5_code
def yX6_turnFor : MethodName := ⟨RX6, "turnFor", "(II)I"⟩
abbrev cX6_heatAt : ByteArray := prog_8_method_6_code
def yX6_heatAt : MethodName := ⟨RX6, "heatAt", "(I)I"⟩
abbrev cX6_chooseFinalists : ByteArray := prog_8_method_7_code
def yX6_chooseFinalists : MethodName := ⟨RX6, "chooseFinalists", "(LHeatStadium$Event;LHeatStadium$FieldNow;)V"⟩
abbrev cX6_arrivalOf : ByteArray := prog_8_method_8_code
def yX6_arrivalOf : MethodName := ⟨RX6, "arrivalOf", "(LHeatStadium$Event;I)I"⟩
abbrev cX6_tierOf : ByteArray := prog_8_method_9_code
def yX6_tierOf : MethodName := ⟨RX6, "tierOf", "(LHeatStadium$FieldNow;I)I"⟩
abbrev cX6_admit : ByteArray := prog_8_method_10_code
def yX6_admit : MethodName := ⟨RX6, "admit", "(I)V"⟩
abbrev cX6_cameOutAhead : ByteArray := prog_8_method_11_code
def yX6_cameOutAhead : MethodName := ⟨RX6, "cameOutAhead", "(II)Z"⟩
abbrev cX6_placeInHeat : ByteArray := prog_8_method_12_code
def yX6_placeInHeat : MethodName := ⟨RX6, "placeInHeat", "(LHeatStadium$FieldNow;I)I"⟩
abbrev cX6_placeInFinal : ByteArray := prog_8_method_13_code
def yX6_placeInFinal : MethodName := ⟨RX6, "placeInFinal", "(I)I"⟩
abbrev cX6_hasLanesOfTheirOwn : ByteArray := prog_8_method_14_code
def yX6_hasLanesOfTheirOwn : MethodName := ⟨RX6, "hasLanesOfTheirOwn", "()Z"⟩
def RX7 : String := "HeatStadium$RecordMark"
def TX7 : u_T := fun k => match k with
  | 0 => ("HeatStadium$RecordMark", "worth", "I", false)
  | 1 => ("HeatStadium$RecordMark", "keeper", "I", false)
  | 2 => ("HeatStadium$RecordMark", "toldAs", "I", false)
  | 3 => ("HeatStadium$RecordMark", "lastConsidered", "I", false)
  | _ => ("HeatStadium$RecordMark", "keepers", "I", false)
def tyX7 : Nat → FieldType := fun k => match k with
  | 0 => .int
  | 1 => .int
  | 2 => .int
  | 3 => .int
  | _ => .int
abbrev wsX70 : List Cond := u_ws RX7 TX7 5
theorem nmX7 : ∀ a, a < 5 → ∀ b, b < 5 → a ≠ b → (TX7 a).2.1 ≠ (TX7 b).2.1 := by decide +kernel
theorem tyX7_ok : ∀ k, k < 5 → parseFieldDescriptor (TX7 k).2.2.1 = some (tyX7 k) := by decide +kernel
abbrev cX7_init : ByteArray := prog_9_method_1_code
def yX7_init : MethodName := ⟨RX7, "<init>", "()V"⟩
abbrev cX7_clear : ByteArray := prog_9_method_2_code
def yX7_clear : MethodName := ⟨RX7, "clear", "()V"⟩
abbrev cX7_consider : ByteArray := prog_9_method_3_code
def yX7_consider : MethodName := ⟨RX7, "consider", "(III)V"⟩
def RX8 : String := "HeatStadium$Results"
def TX8 : u_T := fun k => match k with
  | 0 => ("HeatStadium$Results", "has", "[Z", true)
  | 1 => ("HeatStadium$Results", "worths", "[[I", true)
  | 2 => ("HeatStadium$Results", "ranks", "[I", true)
  | _ => ("HeatStadium$Results", "throwsCounting", "[I", true)
def tyX8 : Nat → FieldType := fun k => match k with
  | 0 => .array .boolean
  | 1 => .array (.array .int)
  | 2 => .array .int
  | _ => .array .int
abbrev wsX80 : List Cond := u_ws RX8 TX8 4
theorem nmX8 : ∀ a, a < 4 → ∀ b, b < 4 → a ≠ b → (TX8 a).2.1 ≠ (TX8 b).2.1 := by decide +kernel
theorem tyX8_ok : ∀ k, k < 4 → parseFieldDescriptor (TX8 k).2.2.1 = some (tyX8 k) := by decide +kernel
abbrev cX8_init : ByteArray := prog_10_method_1_code
def yX8_init : MethodName := ⟨RX8, "<init>", "()V"⟩
abbrev cX8_clear : ByteArray := prog_10_method_2_code
def yX8_clear : MethodName := ⟨RX8, "clear", "()V"⟩
abbrev cX8_ofFinal : ByteArray := prog_10_method_3_code
def yX8_ofFinal : MethodName := ⟨RX8, "ofFinal", "(LHeatStadium$Round;LHeatStadium$RaceDraw;)V"⟩
abbrev cX8_ofJumps : ByteArray := prog_10_method_4_code
def yX8_ofJumps : MethodName := ⟨RX8, "ofJumps", "(LHeatStadium$Jumps;LHeatStadium$FieldNow;)V"⟩
abbrev cX8_ofThrows : ByteArray := prog_10_method_5_code
def yX8_ofThrows : MethodName := ⟨RX8, "ofThrows", "(LHeatStadium$Throws;LHeatStadium$FieldNow;)V"⟩
abbrev cX8_takeThrows : ByteArray := prog_10_method_6_code
def yX8_takeThrows : MethodName := ⟨RX8, "takeThrows", "(LHeatStadium$Throws;II)V"⟩
abbrev cX8_rankAll : ByteArray := prog_10_method_7_code
def yX8_rankAll : MethodName := ⟨RX8, "rankAll", "(LHeatStadium$FieldNow;)V"⟩
abbrev cX8_countBetter : ByteArray := prog_10_method_8_code
def yX8_countBetter : MethodName := ⟨RX8, "countBetter", "(LHeatStadium$FieldNow;I)I"⟩
abbrev cX8_isBetter : ByteArray := prog_10_method_9_code
def yX8_isBetter : MethodName := ⟨RX8, "isBetter", "(II)Z"⟩
abbrev cX8_pointsFor : ByteArray := prog_10_method_10_code
def yX8_pointsFor : MethodName := ⟨RX8, "pointsFor", "(I)D"⟩
abbrev cX8_areWithin : ByteArray := prog_10_method_11_code
def yX8_areWithin : MethodName := ⟨RX8, "areWithin", "(LHeatStadium$FieldNow;)Z"⟩
def RX9 : String := "HeatStadium$Round"
def TX9 : u_T := fun k => match k with
  | 0 => ("HeatStadium$Round", "times", "[I", true)
  | 1 => ("HeatStadium$Round", "winds", "[I", true)
  | 2 => ("HeatStadium$Round", "toldAs", "[I", true)
  | 3 => ("HeatStadium$Round", "out", "[Z", true)
  | 4 => ("HeatStadium$Round", "outSince", "[I", true)
  | _ => ("HeatStadium$Round", "protested", "[Z", true)
def tyX9 : Nat → FieldType := fun k => match k with
  | 0 => .array .int
  | 1 => .array .int
  | 2 => .array .int
  | 3 => .array .boolean
  | 4 => .array .int
  | _ => .array .boolean
abbrev wsX90 : List Cond := u_ws RX9 TX9 6
theorem nmX9 : ∀ a, a < 6 → ∀ b, b < 6 → a ≠ b → (TX9 a).2.1 ≠ (TX9 b).2.1 := by decide +kernel
theorem tyX9_ok : ∀ k, k < 6 → parseFieldDescriptor (TX9 k).2.2.1 = some (tyX9 k) := by decide +kernel
abbrev cX9_init : ByteArray := prog_11_method_1_code
def yX9_init : MethodName := ⟨RX9, "<init>", "()V"⟩
abbrev cX9_counts : ByteArray := prog_11_method_2_code
def yX9_counts : MethodName := ⟨RX9, "counts", "(I)Z"⟩
abbrev cX9_countsForRecord : ByteArray := prog_11_method_3_code
def yX9_countsForRecord : MethodName := ⟨RX9, "countsForRecord", "(I)Z"⟩
abbrev cX9_exclude : ByteArray := prog_11_method_4_code
def yX9_exclude : MethodName := ⟨RX9, "exclude", "(II)Z"⟩
def RX10 : String := "HeatStadium$Throws"
def TX10 : u_T := fun k => match k with
  | 0 => ("HeatStadium$Throws", "lengths", "[[I", true)
  | 1 => ("HeatStadium$Throws", "toldAs", "[[I", true)
  | _ => ("HeatStadium$Throws", "counts", "[I", true)
def tyX10 : Nat → FieldType := fun k => match k with
  | 0 => .array (.array .int)
  | 1 => .array (.array .int)
  | _ => .array .int
abbrev wsX100 : List Cond := u_ws RX10 TX10 3
theorem nmX10 : ∀ a, a < 3 → ∀ b, b < 3 → a ≠ b → (TX10 a).2.1 ≠ (TX10 b).2.1 := by decide +kernel
theorem tyX10_ok : ∀ k, k < 3 → parseFieldDescriptor (TX10 k).2.2.1 = some (tyX10 k) := by decide +kernel
abbrev cX10_init : ByteArray := prog_12_method_1_code
def yX10_init : MethodName := ⟨RX10, "<init>", "()V"⟩
def RX11 : String := "HeatStadium"
def TX11 : u_T := fun k => match k with
  | 0 => ("HeatStadium", "athletes", "LHeatStadium$Athletes;", true)
  | 1 => ("HeatStadium", "events", "[LHeatStadium$Event;", true)
  | 2 => ("HeatStadium", "protests", "LHeatStadium$Protests;", true)
  | 3 => ("HeatStadium", "fieldNow", "LHeatStadium$FieldNow;", true)
  | 4 => ("HeatStadium", "draw", "LHeatStadium$RaceDraw;", true)
  | 5 => ("HeatStadium", "results", "LHeatStadium$Results;", true)
  | 6 => ("HeatStadium", "best", "LHeatStadium$RecordMark;", true)
  | 7 => ("HeatStadium", "table", "LHeatStadium$MedalTable;", true)
  | 8 => ("HeatStadium", "eventCount", "I", false)
  | 9 => ("HeatStadium", "minute", "I", false)
  | _ => ("HeatStadium", "marksTold", "I", false)
def tyX11 : Nat → FieldType := fun k => match k with
  | 0 => .object "HeatStadium$Athletes"
  | 1 => .array (.object "HeatStadium$Event")
  | 2 => .object "HeatStadium$Protests"
  | 3 => .object "HeatStadium$FieldNow"
  | 4 => .object "HeatStadium$RaceDraw"
  | 5 => .object "HeatStadium$Results"
  | 6 => .object "HeatStadium$RecordMark"
  | 7 => .object "HeatStadium$MedalTable"
  | 8 => .int
  | 9 => .int
  | _ => .int
abbrev wsX110 : List Cond := u_ws RX11 TX11 11
theorem nmX11 : ∀ a, a < 11 → ∀ b, b < 11 → a ≠ b → (TX11 a).2.1 ≠ (TX11 b).2.1 := by decide +kernel
theorem tyX11_ok : ∀ k, k < 11 → parseFieldDescriptor (TX11 k).2.2.1 = some (tyX11 k) := by decide +kernel
abbrev cX11_init : ByteArray := prog_1_method_1_code
def yX11_init : MethodName := ⟨RX11, "<init>", "()V"⟩
abbrev cX11_athlete : ByteArray := prog_1_method_2_code
def yX11_athlete : MethodName := ⟨RX11, "athlete", "(I)I"⟩
abbrev cX11_event : ByteArray := prog_1_method_3_code
def yX11_event : MethodName := ⟨RX11, "event", "(CIII)I"⟩
abbrev cX11_enter : ByteArray := prog_1_method_4_code
def yX11_enter : MethodName := ⟨RX11, "enter", "(III)I"⟩
abbrev cX11_withdraw : ByteArray := prog_1_method_5_code
def yX11_withdraw : MethodName := ⟨RX11, "withdraw", "(IIZ)Z"⟩
abbrev cX11_field : ByteArray := prog_1_method_6_code
def yX11_field : MethodName := ⟨RX11, "field", "(I)I"⟩
abbrev cX11_inField : ByteArray := prog_1_method_7_code
def yX11_inField : MethodName := ⟨RX11, "inField", "(II)I"⟩
abbrev cX11_pass : ByteArray := prog_1_method_8_code
def yX11_pass : MethodName := ⟨RX11, "pass", "(I)I"⟩
abbrev cX11_heatOf : ByteArray := prog_1_method_9_code
def yX11_heatOf : MethodName := ⟨RX11, "heatOf", "(II)I"⟩
abbrev cX11_laneOf : ByteArray := prog_1_method_10_code
def yX11_laneOf : MethodName := ⟨RX11, "laneOf", "(III)I"⟩
abbrev cX11_time : ByteArray := prog_1_method_11_code
def yX11_time : MethodName := ⟨RX11, "time", "(IIIIZI)I"⟩
abbrev cX11_react : ByteArray := prog_1_method_12_code
def yX11_react : MethodName := ⟨RX11, "react", "(IIII)Z"⟩
abbrev cX11_putOut : ByteArray := prog_1_method_13_code
def yX11_putOut : MethodName := ⟨RX11, "putOut", "(III)Z"⟩
abbrev cX11_isOut : ByteArray := prog_1_method_14_code
def yX11_isOut : MethodName := ⟨RX11, "isOut", "(III)Z"⟩
abbrev cX11_inFinal : ByteArray := prog_1_method_15_code
def yX11_inFinal : MethodName := ⟨RX11, "inFinal", "(II)I"⟩
abbrev cX11_bar : ByteArray := prog_1_method_16_code
def yX11_bar : MethodName := ⟨RX11, "bar", "(II)I"⟩
abbrev cX11_jump : ByteArray := prog_1_method_17_code
def yX11_jump : MethodName := ⟨RX11, "jump", "(IIC)I"⟩
abbrev cX11_put : ByteArray := prog_1_method_18_code
def yX11_put : MethodName := ⟨RX11, "put", "(III)I"⟩
abbrev cX11_rankOf : ByteArray := prog_1_method_19_code
def yX11_rankOf : MethodName := ⟨RX11, "rankOf", "(II)I"⟩
abbrev cX11_resultOf : ByteArray := prog_1_method_20_code
def yX11_resultOf : MethodName := ⟨RX11, "resultOf", "(II)I"⟩
abbrev cX11_protest : ByteArray := prog_1_method_21_code
def yX11_protest : MethodName := ⟨RX11, "protest", "(III)I"⟩
abbrev cX11_decide : ByteArray := prog_1_method_22_code
def yX11_decide : MethodName := ⟨RX11, "decide", "(IZ)J"⟩
abbrev cX11_dope : ByteArray := prog_1_method_23_code
def yX11_dope : MethodName := ⟨RX11, "dope", "(IZ)Z"⟩
abbrev cX11_close : ByteArray := prog_1_method_24_code
def yX11_close : MethodName := ⟨RX11, "close", "(IZ)Z"⟩
abbrev cX11_record : ByteArray := prog_1_method_25_code
def yX11_record : MethodName := ⟨RX11, "record", "(I)I"⟩
abbrev cX11_holder : ByteArray := prog_1_method_26_code
def yX11_holder : MethodName := ⟨RX11, "holder", "(I)I"⟩
abbrev cX11_sharers : ByteArray := prog_1_method_27_code
def yX11_sharers : MethodName := ⟨RX11, "sharers", "(I)I"⟩
abbrev cX11_medals : ByteArray := prog_1_method_28_code
def yX11_medals : MethodName := ⟨RX11, "medals", "(II)I"⟩
abbrev cX11_inTable : ByteArray := prog_1_method_29_code
def yX11_inTable : MethodName := ⟨RX11, "inTable", "(IZ)I"⟩
abbrev cX11_points : ByteArray := prog_1_method_30_code
def yX11_points : MethodName := ⟨RX11, "points", "(I)D"⟩
abbrev cX11_shareBits : ByteArray := prog_1_method_31_code
def yX11_shareBits : MethodName := ⟨RX11, "shareBits", "(I)I"⟩
abbrev cX11_isTrue : ByteArray := prog_1_method_32_code
def yX11_isTrue : MethodName := ⟨RX11, "isTrue", "()Z"⟩
abbrev cX11_eventAt : ByteArray := prog_1_method_33_code
def yX11_eventAt : MethodName := ⟨RX11, "eventAt", "(I)LHeatStadium$Event;"⟩
abbrev cX11_eventFor : ByteArray := prog_1_method_34_code
def yX11_eventFor : MethodName := ⟨RX11, "eventFor", "(II)LHeatStadium$Event;"⟩
abbrev cX11_raceFor : ByteArray := prog_1_method_35_code
def yX11_raceFor : MethodName := ⟨RX11, "raceFor", "(III)LHeatStadium$Event;"⟩
abbrev cX11_requireAthlete : ByteArray := prog_1_method_36_code
def yX11_requireAthlete : MethodName := ⟨RX11, "requireAthlete", "(I)V"⟩
abbrev cX11_requireNation : ByteArray := prog_1_method_37_code
def yX11_requireNation : MethodName := ⟨RX11, "requireNation", "(I)V"⟩
abbrev cX11_requireRange : ByteArray := prog_1_method_38_code
def yX11_requireRange : MethodName := ⟨RX11, "requireRange", "(III)V"⟩
abbrev cX11_requireKind : ByteArray := prog_1_method_39_code
def yX11_requireKind : MethodName := ⟨RX11, "requireKind", "(LHeatStadium$Event;C)V"⟩
abbrev cX11_requireOpen : ByteArray := prog_1_method_40_code
def yX11_requireOpen : MethodName := ⟨RX11, "requireOpen", "(LHeatStadium$Event;)V"⟩
abbrev cX11_requireRecord : ByteArray := prog_1_method_41_code
def yX11_requireRecord : MethodName := ⟨RX11, "requireRecord", "()V"⟩
abbrev cX11_nextMark : ByteArray := prog_1_method_42_code
def yX11_nextMark : MethodName := ⟨RX11, "nextMark", "()I"⟩
abbrev cX11_drawRace : ByteArray := prog_1_method_43_code
def yX11_drawRace : MethodName := ⟨RX11, "drawRace", "(LHeatStadium$Event;)V"⟩
abbrev cX11_makeResults : ByteArray := prog_1_method_44_code
def yX11_makeResults : MethodName := ⟨RX11, "makeResults", "(LHeatStadium$Event;)V"⟩
abbrev cX11_seekRecord : ByteArray := prog_1_method_45_code
def yX11_seekRecord : MethodName := ⟨RX11, "seekRecord", "(LHeatStadium$Event;)V"⟩
abbrev cX11_seekInRace : ByteArray := prog_1_method_46_code
def yX11_seekInRace : MethodName := ⟨RX11, "seekInRace", "(LHeatStadium$Event;I)V"⟩
abbrev cX11_seekInJumps : ByteArray := prog_1_method_47_code
def yX11_seekInJumps : MethodName := ⟨RX11, "seekInJumps", "(LHeatStadium$Jumps;I)V"⟩
abbrev cX11_seekInThrows : ByteArray := prog_1_method_48_code
def yX11_seekInThrows : MethodName := ⟨RX11, "seekInThrows", "(LHeatStadium$Throws;I)V"⟩
abbrev cX11_countMedals : ByteArray := prog_1_method_49_code
def yX11_countMedals : MethodName := ⟨RX11, "countMedals", "()V"⟩
abbrev cX11_bitsOf : ByteArray := prog_1_method_50_code
def yX11_bitsOf : MethodName := ⟨RX11, "bitsOf", "(F)I"⟩
def RX12 : String := "HeatStadiumModel$Entry"
def TX12 : u_T := fun k => match k with
  | 0 => ("HeatStadiumModel$Entry", "athlete", "I", true)
  | 1 => ("HeatStadiumModel$Entry", "best", "I", false)
  | 2 => ("HeatStadiumModel$Entry", "hasWithdrawn", "Z", false)
  | 3 => ("HeatStadiumModel$Entry", "marks", "[LHeatStadiumModel$Mark;", true)
  | 4 => ("HeatStadiumModel$Entry", "isOut", "[Z", true)
  | 5 => ("HeatStadiumModel$Entry", "outAt", "[I", true)
  | 6 => ("HeatStadiumModel$Entry", "protested", "[Z", true)
  | 7 => ("HeatStadiumModel$Entry", "trials", "Ljava/util/ArrayList;", true)
  | _ => ("HeatStadiumModel$Entry", "throwing", "Ljava/util/ArrayList;", true)
def tyX12 : Nat → FieldType := fun k => match k with
  | 0 => .int
  | 1 => .int
  | 2 => .boolean
  | 3 => .array (.object "HeatStadiumModel$Mark")
  | 4 => .array .boolean
  | 5 => .array .int
  | 6 => .array .boolean
  | 7 => .object "java/util/ArrayList"
  | _ => .object "java/util/ArrayList"
abbrev wsX120 : List Cond := u_ws RX12 TX12 9
theorem nmX12 : ∀ a, a < 9 → ∀ b, b < 9 → a ≠ b → (TX12 a).2.1 ≠ (TX12 b).2.1 := by decide +kernel
theorem tyX12_ok : ∀ k, k < 9 → parseFieldDescriptor (TX12 k).2.2.1 = some (tyX12 k) := by decide +kernel
abbrev cX12_init : ByteArray := prog_15_method_1_code
def yX12_init : MethodName := ⟨RX12, "<init>", "(I)V"⟩
abbrev cX12_best : ByteArray := prog_15_method_2_code
def yX12_best : MethodName := ⟨RX12, "best", "(I)[I"⟩
abbrev cX12_failuresInRow : ByteArray := prog_15_method_3_code
def yX12_failuresInRow : MethodName := ⟨RX12, "failuresInRow", "()I"⟩
abbrev cX12_cleared : ByteArray := prog_15_method_4_code
def yX12_cleared : MethodName := ⟨RX12, "cleared", "()LHeatStadiumModel$Trial;"⟩
abbrev cX12_failures : ByteArray := prog_15_method_5_code
def yX12_failures : MethodName := ⟨RX12, "failures", "(II)I"⟩
def RX13 : String := "HeatStadiumModel$Event"
def TX13 : u_T := fun k => match k with
  | 0 => ("HeatStadiumModel$Event", "number", "I", true)
  | 1 => ("HeatStadiumModel$Event", "kind", "C", true)
  | 2 => ("HeatStadiumModel$Event", "standard", "I", true)
  | 3 => ("HeatStadiumModel$Event", "quota", "I", true)
  | 4 => ("HeatStadiumModel$Event", "limit", "I", true)
  | 5 => ("HeatStadiumModel$Event", "bars", "Ljava/util/ArrayList;", true)
  | 6 => ("HeatStadiumModel$Event", "entries", "Ljava/util/ArrayList;", true)
  | _ => ("HeatStadiumModel$Event", "isClosed", "Z", false)
def tyX13 : Nat → FieldType := fun k => match k with
  | 0 => .int
  | 1 => .char
  | 2 => .int
  | 3 => .int
  | 4 => .int
  | 5 => .object "java/util/ArrayList"
  | 6 => .object "java/util/ArrayList"
  | _ => .boolean
abbrev wsX130 : List Cond := u_ws RX13 TX13 8
theorem nmX13 : ∀ a, a < 8 → ∀ b, b < 8 → a ≠ b → (TX13 a).2.1 ≠ (TX13 b).2.1 := by decide +kernel
theorem tyX13_ok : ∀ k, k < 8 → parseFieldDescriptor (TX13 k).2.2.1 = some (tyX13 k) := by decide +kernel
abbrev cX13_init : ByteArray := prog_16_method_1_code
def yX13_init : MethodName := ⟨RX13, "<init>", "(ICIII)V"⟩
abbrev cX13_of : ByteArray := prog_16_method_2_code
def yX13_of : MethodName := ⟨RX13, "of", "(I)LHeatStadiumModel$Entry;"⟩
abbrev cX13_isBetter : ByteArray := prog_16_method_3_code
def yX13_isBetter : MethodName := ⟨RX13, "isBetter", "(II)Z"⟩
def RX14 : String := "HeatStadiumModel$Mark"
def TX14 : u_T := fun k => match k with
  | 0 => ("HeatStadiumModel$Mark", "counts", "I", true)
  | 1 => ("HeatStadiumModel$Mark", "wind", "I", true)
  | _ => ("HeatStadiumModel$Mark", "order", "I", true)
def tyX14 : Nat → FieldType := fun k => match k with
  | 0 => .int
  | 1 => .int
  | _ => .int
abbrev wsX140 : List Cond := u_ws RX14 TX14 3
theorem nmX14 : ∀ a, a < 3 → ∀ b, b < 3 → a ≠ b → (TX14 a).2.1 ≠ (TX14 b).2.1 := by decide +kernel
theorem tyX14_ok : ∀ k, k < 3 → parseFieldDescriptor (TX14 k).2.2.1 = some (tyX14 k) := by decide +kernel
abbrev cX14_init : ByteArray := prog_17_method_1_code
def yX14_init : MethodName := ⟨RX14, "<init>", "(III)V"⟩
def RX15 : String := "HeatStadiumModel$Protest"
def TX15 : u_T := fun k => match k with
  | 0 => ("HeatStadiumModel$Protest", "entry", "LHeatStadiumModel$Entry;", true)
  | 1 => ("HeatStadiumModel$Protest", "round", "I", true)
  | _ => ("HeatStadiumModel$Protest", "isDecided", "Z", false)
def tyX15 : Nat → FieldType := fun k => match k with
  | 0 => .object "HeatStadiumModel$Entry"
  | 1 => .int
  | _ => .boolean
abbrev wsX150 : List Cond := u_ws RX15 TX15 3
theorem nmX15 : ∀ a, a < 3 → ∀ b, b < 3 → a ≠ b → (TX15 a).2.1 ≠ (TX15 b).2.1 := by decide +kernel
theorem tyX15_ok : ∀ k, k < 3 → parseFieldDescriptor (TX15 k).2.2.1 = some (tyX15 k) := by decide +kernel
abbrev cX15_init : ByteArray := prog_18_method_1_code
def yX15_init : MethodName := ⟨RX15, "<init>", "(LHeatStadiumModel$Entry;I)V"⟩
def RX16 : String := "HeatStadiumModel$Trial"
def TX16 : u_T := fun k => match k with
  | 0 => ("HeatStadiumModel$Trial", "bar", "I", true)
  | 1 => ("HeatStadiumModel$Trial", "what", "C", true)
  | _ => ("HeatStadiumModel$Trial", "order", "I", true)
def tyX16 : Nat → FieldType := fun k => match k with
  | 0 => .int
  | 1 => .char
  | _ => .int
abbrev wsX160 : List Cond := u_ws RX16 TX16 3
theorem nmX16 : ∀ a, a < 3 → ∀ b, b < 3 → a ≠ b → (TX16 a).2.1 ≠ (TX16 b).2.1 := by decide +kernel
theorem tyX16_ok : ∀ k, k < 3 → parseFieldDescriptor (TX16 k).2.2.1 = some (tyX16 k) := by decide +kernel
abbrev cX16_init : ByteArray := prog_19_method_1_code
def yX16_init : MethodName := ⟨RX16, "<init>", "(ICI)V"⟩
def RX17 : String := "HeatStadiumModel"
def TX17 : u_T := fun k => match k with
  | 0 => ("HeatStadiumModel", "thrown", "I", false)
  | 1 => ("HeatStadiumModel", "nations", "Ljava/util/ArrayList;", true)
  | 2 => ("HeatStadiumModel", "doped", "Ljava/util/ArrayList;", true)
  | 3 => ("HeatStadiumModel", "events", "Ljava/util/ArrayList;", true)
  | 4 => ("HeatStadiumModel", "protests", "Ljava/util/ArrayList;", true)
  | 5 => ("HeatStadiumModel", "minute", "I", false)
  | 6 => ("HeatStadiumModel", "orders", "I", false)
  | _ => ("HeatStadiumModel", "kept", "J", false)
def tyX17 : Nat → FieldType := fun k => match k with
  | 0 => .int
  | 1 => .object "java/util/ArrayList"
  | 2 => .object "java/util/ArrayList"
  | 3 => .object "java/util/ArrayList"
  | 4 => .object "java/util/ArrayList"
  | 5 => .int
  | 6 => .int
  | _ => .long
abbrev wsX170 : List Cond := u_ws RX17 TX17 8
theorem nmX17 : ∀ a, a < 8 → ∀ b, b < 8 → a ≠ b → (TX17 a).2.1 ≠ (TX17 b).2.1 := by decide +kernel
theorem tyX17_ok : ∀ k, k < 8 → parseFieldDescriptor (TX17 k).2.2.1 = some (tyX17 k) := by decide +kernel
abbrev cX17_in : ByteArray := prog_14_method_1_code
def yX17_in : MethodName := ⟨RX17, "in", "(III)Z"⟩
abbrev cX17_init : ByteArray := prog_14_method_2_code
def yX17_init : MethodName := ⟨RX17, "<init>", "()V"⟩
abbrev cX17_thrown : ByteArray := prog_14_method_3_code
def yX17_thrown : MethodName := ⟨RX17, "thrown", "()I"⟩
abbrev cX17_raises : ByteArray := prog_14_method_4_code
def yX17_raises : MethodName := ⟨RX17, "raises", "(I)I"⟩
abbrev cX17_athlete : ByteArray := prog_14_method_5_code
def yX17_athlete : MethodName := ⟨RX17, "athlete", "(I)I"⟩
abbrev cX17_event : ByteArray := prog_14_method_6_code
def yX17_event : MethodName := ⟨RX17, "event", "(CIII)I"⟩
abbrev cX17_isEvent : ByteArray := prog_14_method_7_code
def yX17_isEvent : MethodName := ⟨RX17, "isEvent", "(I)Z"⟩
abbrev cX17_isAthlete : ByteArray := prog_14_method_8_code
def yX17_isAthlete : MethodName := ⟨RX17, "isAthlete", "(I)Z"⟩
abbrev cX17_noEvent : ByteArray := prog_14_method_9_code
def yX17_noEvent : MethodName := ⟨RX17, "noEvent", "(I)Z"⟩
abbrev cX17_noPair : ByteArray := prog_14_method_10_code
def yX17_noPair : MethodName := ⟨RX17, "noPair", "(II)Z"⟩
abbrev cX17_entered : ByteArray := prog_14_method_11_code
def yX17_entered : MethodName := ⟨RX17, "entered", "(LHeatStadiumModel$Event;)I"⟩
abbrev cX17_enter : ByteArray := prog_14_method_12_code
def yX17_enter : MethodName := ⟨RX17, "enter", "(III)I"⟩
abbrev cX17_withdraw : ByteArray := prog_14_method_13_code
def yX17_withdraw : MethodName := ⟨RX17, "withdraw", "(IIZ)Z"⟩
abbrev cX17_ready : ByteArray := prog_14_method_14_code
def yX17_ready : MethodName := ⟨RX17, "ready", "(LHeatStadiumModel$Event;)Ljava/util/ArrayList;"⟩
abbrev cX17_fieldOf : ByteArray := prog_14_method_15_code
def yX17_fieldOf : MethodName := ⟨RX17, "fieldOf", "(LHeatStadiumModel$Event;)Ljava/util/ArrayList;"⟩
abbrev cX17_field : ByteArray := prog_14_method_16_code
def yX17_field : MethodName := ⟨RX17, "field", "(I)I"⟩
abbrev cX17_inField : ByteArray := prog_14_method_17_code
def yX17_inField : MethodName := ⟨RX17, "inField", "(II)I"⟩
abbrev cX17_pass : ByteArray := prog_14_method_18_code
def yX17_pass : MethodName := ⟨RX17, "pass", "(I)I"⟩
abbrev cX17_isIn : ByteArray := prog_14_method_19_code
def yX17_isIn : MethodName := ⟨RX17, "isIn", "(Ljava/util/ArrayList;I)Z"⟩
abbrev cX17_heatOfTurn : ByteArray := prog_14_method_20_code
def yX17_heatOfTurn : MethodName := ⟨RX17, "heatOfTurn", "(II)I"⟩
abbrev cX17_heatsOf : ByteArray := prog_14_method_21_code
def yX17_heatsOf : MethodName := ⟨RX17, "heatsOf", "(LHeatStadiumModel$Event;)Ljava/util/ArrayList;"⟩
abbrev cX17_lot : ByteArray := prog_14_method_22_code
def yX17_lot : MethodName := ⟨RX17, "lot", "(LHeatStadiumModel$Event;LHeatStadiumModel$Entry;)I"⟩
abbrev cX17_isAhead : ByteArray := prog_14_method_23_code
def yX17_isAhead : MethodName := ⟨RX17, "isAhead", "(LHeatStadiumModel$Event;LHeatStadiumModel$Entry;LHeatStadiumModel$Entry;)Z"⟩
abbrev cX17_sorted : ByteArray := prog_14_method_24_code
def yX17_sorted : MethodName := ⟨RX17, "sorted", "(LHeatStadiumModel$Event;Ljava/util/ArrayList;)Ljava/util/ArrayList;"⟩
abbrev cX17_finalOf : ByteArray := prog_14_method_25_code
def yX17_finalOf : MethodName := ⟨RX17, "finalOf", "(LHeatStadiumModel$Event;)Ljava/util/ArrayList;"⟩
abbrev cX17_race : ByteArray := prog_14_method_26_code
def yX17_race : MethodName := ⟨RX17, "race", "(III)LHeatStadiumModel$Event;"⟩
abbrev cX17_placeOf : ByteArray := prog_14_method_27_code
def yX17_placeOf : MethodName := ⟨RX17, "placeOf", "(Ljava/util/ArrayList;I)I"⟩
abbrev cX17_heatOf : ByteArray := prog_14_method_28_code
def yX17_heatOf : MethodName := ⟨RX17, "heatOf", "(II)I"⟩
abbrev cX17_laneOf : ByteArray := prog_14_method_29_code
def yX17_laneOf : MethodName := ⟨RX17, "laneOf", "(III)I"⟩
abbrev cX17_time : ByteArray := prog_14_method_30_code
def yX17_time : MethodName := ⟨RX17, "time", "(IIIIZI)I"⟩
abbrev cX17_goesOut : ByteArray := prog_14_method_31_code
def yX17_goesOut : MethodName := ⟨RX17, "goesOut", "(LHeatStadiumModel$Entry;I)V"⟩
abbrev cX17_react : ByteArray := prog_14_method_32_code
def yX17_react : MethodName := ⟨RX17, "react", "(IIII)Z"⟩
abbrev cX17_putOut : ByteArray := prog_14_method_33_code
def yX17_putOut : MethodName := ⟨RX17, "putOut", "(III)Z"⟩
abbrev cX17_isOut : ByteArray := prog_14_method_34_code
def yX17_isOut : MethodName := ⟨RX17, "isOut", "(III)Z"⟩
abbrev cX17_inFinal : ByteArray := prog_14_method_35_code
def yX17_inFinal : MethodName := ⟨RX17, "inFinal", "(II)I"⟩
abbrev cX17_bar : ByteArray := prog_14_method_36_code
def yX17_bar : MethodName := ⟨RX17, "bar", "(II)I"⟩
abbrev cX17_hasTrial : ByteArray := prog_14_method_37_code
def yX17_hasTrial : MethodName := ⟨RX17, "hasTrial", "(LHeatStadiumModel$Entry;I)Z"⟩
abbrev cX17_jump : ByteArray := prog_14_method_38_code
def yX17_jump : MethodName := ⟨RX17, "jump", "(IIC)I"⟩
abbrev cX17_put : ByteArray := prog_14_method_39_code
def yX17_put : MethodName := ⟨RX17, "put", "(III)I"⟩
abbrev cX17_compared : ByteArray := prog_14_method_40_code
def yX17_compared : MethodName := ⟨RX17, "compared", "([I[I)I"⟩
abbrev cX17_rounds : ByteArray := prog_14_method_41_code
def yX17_rounds : MethodName := ⟨RX17, "rounds", "(Ljava/util/ArrayList;LHeatStadiumModel$Entry;)I"⟩
abbrev cX17_worths : ByteArray := prog_14_method_42_code
def yX17_worths : MethodName := ⟨RX17, "worths", "(LHeatStadiumModel$Event;)[[I"⟩
abbrev cX17_raced : ByteArray := prog_14_method_43_code
def yX17_raced : MethodName := ⟨RX17, "raced", "(LHeatStadiumModel$Entry;)[I"⟩
abbrev cX17_jumped : ByteArray := prog_14_method_44_code
def yX17_jumped : MethodName := ⟨RX17, "jumped", "(LHeatStadiumModel$Entry;)[I"⟩
abbrev cX17_thrown_ : ByteArray := prog_14_method_45_code
def yX17_thrown_ : MethodName := ⟨RX17, "thrown", "(Ljava/util/ArrayList;LHeatStadiumModel$Entry;)[I"⟩
abbrev cX17_ranks : ByteArray := prog_14_method_46_code
def yX17_ranks : MethodName := ⟨RX17, "ranks", "(LHeatStadiumModel$Event;)[I"⟩
abbrev cX17_rankOf : ByteArray := prog_14_method_47_code
def yX17_rankOf : MethodName := ⟨RX17, "rankOf", "(II)I"⟩
abbrev cX17_shown : ByteArray := prog_14_method_48_code
def yX17_shown : MethodName := ⟨RX17, "shown", "(LHeatStadiumModel$Event;[I)I"⟩
abbrev cX17_resultOf : ByteArray := prog_14_method_49_code
def yX17_resultOf : MethodName := ⟨RX17, "resultOf", "(II)I"⟩
abbrev cX17_protest : ByteArray := prog_14_method_50_code
def yX17_protest : MethodName := ⟨RX17, "protest", "(III)I"⟩
abbrev cX17_decide : ByteArray := prog_14_method_51_code
def yX17_decide : MethodName := ⟨RX17, "decide", "(IZ)J"⟩
abbrev cX17_dope : ByteArray := prog_14_method_52_code
def yX17_dope : MethodName := ⟨RX17, "dope", "(IZ)Z"⟩
abbrev cX17_close : ByteArray := prog_14_method_53_code
def yX17_close : MethodName := ⟨RX17, "close", "(IZ)Z"⟩
abbrev cX17_recordable : ByteArray := prog_14_method_54_code
def yX17_recordable : MethodName := ⟨RX17, "recordable", "(LHeatStadiumModel$Event;Ljava/util/ArrayList;)Ljava/util/ArrayList;"⟩
abbrev cX17_countable : ByteArray := prog_14_method_55_code
def yX17_countable : MethodName := ⟨RX17, "countable", "(LHeatStadiumModel$Event;LHeatStadiumModel$Entry;Ljava/util/ArrayList;Ljava/util/ArrayList;)Ljava/util/ArrayList;"⟩
abbrev cX17_recordOf : ByteArray := prog_14_method_56_code
def yX17_recordOf : MethodName := ⟨RX17, "recordOf", "(LHeatStadiumModel$Event;Ljava/util/ArrayList;)I"⟩
abbrev cX17_record : ByteArray := prog_14_method_57_code
def yX17_record : MethodName := ⟨RX17, "record", "(I)I"⟩
abbrev cX17_holder : ByteArray := prog_14_method_58_code
def yX17_holder : MethodName := ⟨RX17, "holder", "(I)I"⟩
abbrev cX17_sharers : ByteArray := prog_14_method_59_code
def yX17_sharers : MethodName := ⟨RX17, "sharers", "(I)I"⟩
abbrev cX17_medals : ByteArray := prog_14_method_60_code
def yX17_medals : MethodName := ⟨RX17, "medals", "()[[I"⟩
abbrev cX17_medals_ : ByteArray := prog_14_method_61_code
def yX17_medals_ : MethodName := ⟨RX17, "medals", "(II)I"⟩
abbrev cX17_isAhead_ : ByteArray := prog_14_method_62_code
def yX17_isAhead_ : MethodName := ⟨RX17, "isAhead", "([[IIIZ)Z"⟩
abbrev cX17_inTable : ByteArray := prog_14_method_63_code
def yX17_inTable : MethodName := ⟨RX17, "inTable", "(IZ)I"⟩
abbrev cX17_pointsOf : ByteArray := prog_14_method_64_code
def yX17_pointsOf : MethodName := ⟨RX17, "pointsOf", "(II)D"⟩
abbrev cX17_points : ByteArray := prog_14_method_65_code
def yX17_points : MethodName := ⟨RX17, "points", "(I)D"⟩
abbrev cX17_shareBits : ByteArray := prog_14_method_66_code
def yX17_shareBits : MethodName := ⟨RX17, "shareBits", "(I)I"⟩
abbrev cX17_isTrue : ByteArray := prog_14_method_67_code
def yX17_isTrue : MethodName := ⟨RX17, "isTrue", "()Z"⟩
def RJx145de : String := "java/io/Serializable"
def TJx145de : u_T := fun k => match k with
  | _ => ("", "", "", false)
abbrev wsJx145de0 : List Cond := u_ws RJx145de TJx145de 0
def RJ5 : String := "java/lang/AbstractStringBuilder"
def TJ5 : u_T := fun k => match k with
  | _ => ("", "", "", false)
abbrev wsJ50 : List Cond := u_ws RJ5 TJ5 0
abbrev cJ5_inflate_da8c8 : ByteArray := prog_21_method_11_code
def yJ5_inflate_da8c8 : MethodName := ⟨RJ5, "inflate", "()V"⟩
abbrev cJ5_isLatin1_aae02 : ByteArray := prog_21_method_68_code
def yJ5_isLatin1_aae02 : MethodName := ⟨RJ5, "isLatin1", "()Z"⟩
abbrev cJ5_inflateIfNeededFor_a7421 : ByteArray := prog_21_method_71_code
def yJ5_inflateIfNeededFor_a7421 : MethodName := ⟨RJ5, "inflateIfNeededFor", "(Ljava/lang/String;)V"⟩
abbrev cJ5_putStringAt_47b60 : ByteArray := prog_21_method_73_code
def yJ5_putStringAt_47b60 : MethodName := ⟨RJ5, "putStringAt", "(ILjava/lang/String;)V"⟩
def RJx2cfe8 : String := "java/lang/Appendable"
def TJx2cfe8 : u_T := fun k => match k with
  | _ => ("", "", "", false)
abbrev wsJx2cfe80 : List Cond := u_ws RJx2cfe8 TJx2cfe8 0
def RJx00060 : String := "java/lang/ArrayIndexOutOfBoundsException"
def TJx00060 : u_T := fun k => match k with
  | 0 => ("java/lang/Throwable", "backtrace", "Ljava/lang/Object;", false)
  | 1 => ("java/lang/Throwable", "detailMessage", "Ljava/lang/String;", false)
  | 2 => ("java/lang/Throwable", "cause", "Ljava/lang/Throwable;", false)
  | 3 => ("java/lang/Throwable", "stackTrace", "[Ljava/lang/StackTraceElement;", false)
  | 4 => ("java/lang/Throwable", "depth", "I", false)
  | _ => ("java/lang/Throwable", "suppressedExceptions", "Ljava/util/List;", false)
abbrev wsJx000600 : List Cond := u_ws RJx00060 TJx00060 6
def RJ14 : String := "java/lang/Boolean"
def TJ14 : u_T := fun k => match k with
  | _ => ("", "", "", false)
abbrev wsJ140 : List Cond := u_ws RJ14 TJ14 0
abbrev cJ14_valueOf_4531c : ByteArray := prog_25_method_5_code
def yJ14_valueOf_4531c : MethodName := ⟨RJ14, "valueOf", "(Z)Ljava/lang/Boolean;"⟩
def RJx9f9b0 : String := "java/lang/CharSequence"
def TJx9f9b0 : u_T := fun k => match k with
  | _ => ("", "", "", false)
abbrev wsJx9f9b00 : List Cond := u_ws RJx9f9b0 TJx9f9b0 0
def RJ11 : String := "java/lang/Character"
def TJ11 : u_T := fun k => match k with
  | _ => ("", "", "", false)
abbrev wsJ110 : List Cond := u_ws RJ11 TJ11 0
def RJx8e188 : String := "java/lang/Cloneable"
def TJx8e188 : u_T := fun k => match k with
  | _ => ("", "", "", false)
abbrev wsJx8e1880 : List Cond := u_ws RJx8e188 TJx8e188 0
def RJxb160c : String := "java/lang/Comparable"
def TJxb160c : u_T := fun k => match k with
  | _ => ("", "", "", false)
abbrev wsJxb160c0 : List Cond := u_ws RJxb160c TJxb160c 0
def RJxe99ae : String := "java/lang/Double"
def TJxe99ae : u_T := fun k => match k with
  | _ => ("", "", "", false)
abbrev wsJxe99ae0 : List Cond := u_ws RJxe99ae TJxe99ae 0
def RJxf58ca : String := "java/lang/Float"
def TJxf58ca : u_T := fun k => match k with
  | _ => ("", "", "", false)
abbrev wsJxf58ca0 : List Cond := u_ws RJxf58ca TJxf58ca 0
def RJxabbfe : String := "java/lang/Integer$IntegerCache"
def TJxabbfe : u_T := fun k => match k with
  | _ => ("", "", "", false)
abbrev wsJxabbfe0 : List Cond := u_ws RJxabbfe TJxabbfe 0
def RJ6 : String := "java/lang/Integer"
def TJ6 : u_T := fun k => match k with
  | _ => ("java/lang/Integer", "value", "I", true)
abbrev wsJ60 : List Cond := u_ws RJ6 TJ6 1
abbrev cJ6_valueOf_2dffe : ByteArray := prog_36_method_22_code
def yJ6_valueOf_2dffe : MethodName := ⟨RJ6, "valueOf", "(I)Ljava/lang/Integer;"⟩
abbrev cJ6_init_d00df : ByteArray := prog_36_method_23_code
def yJ6_init_d00df : MethodName := ⟨RJ6, "<init>", "(I)V"⟩
abbrev cJ6_compare_7cf53 : ByteArray := prog_36_method_40_code
def yJ6_compare_7cf53 : MethodName := ⟨RJ6, "compare", "(II)I"⟩
def RJxab1ab : String := "java/lang/Iterable"
def TJxab1ab : u_T := fun k => match k with
  | _ => ("", "", "", false)
abbrev wsJxab1ab0 : List Cond := u_ws RJxab1ab TJxab1ab 0
def RJ9 : String := "java/lang/Math"
def TJ9 : u_T := fun k => match k with
  | _ => ("", "", "", false)
abbrev wsJ90 : List Cond := u_ws RJ9 TJ9 0
abbrev cJ9_max_7cf53 : ByteArray := prog_39_method_65_code
def yJ9_max_7cf53 : MethodName := ⟨RJ9, "max", "(II)I"⟩
abbrev cJ9_min_7cf53 : ByteArray := prog_39_method_69_code
def yJ9_min_7cf53 : MethodName := ⟨RJ9, "min", "(II)I"⟩
abbrev cJ9_copySign_eb370 : ByteArray := prog_39_method_89_code
def yJ9_copySign_eb370 : MethodName := ⟨RJ9, "copySign", "(DD)D"⟩
def RJxd2413 : String := "java/lang/Number"
def TJxd2413 : u_T := fun k => match k with
  | _ => ("", "", "", false)
abbrev wsJxd24130 : List Cond := u_ws RJxd2413 TJxd2413 0
abbrev cJxd2413_init_da8c8 : ByteArray := prog_40_method_1_code
def yJxd2413_init_da8c8 : MethodName := ⟨RJxd2413, "<init>", "()V"⟩
def RJxfc994 : String := "java/lang/StrictMath"
def TJxfc994 : u_T := fun k => match k with
  | _ => ("", "", "", false)
abbrev wsJxfc9940 : List Cond := u_ws RJxfc994 TJxfc994 0
def RJ0 : String := "java/lang/String"
def TJ0 : u_T := fun k => match k with
  | 0 => ("java/lang/String", "value", "[B", true)
  | 1 => ("java/lang/String", "coder", "B", true)
  | 2 => ("java/lang/String", "hash", "I", false)
  | _ => ("java/lang/String", "hashIsZero", "Z", false)
abbrev wsJ00 : List Cond := u_ws RJ0 TJ0 4
abbrev cJ0_indexOf_0f7a4 : ByteArray := prog_43_method_79_code
def yJ0_indexOf_0f7a4 : MethodName := ⟨RJ0, "indexOf", "(I)I"⟩
abbrev cJ0_indexOf_7cf53 : ByteArray := prog_43_method_80_code
def yJ0_indexOf_7cf53 : MethodName := ⟨RJ0, "indexOf", "(II)I"⟩
abbrev cJ0_getBytes_840e7 : ByteArray := prog_43_method_147_code
def yJ0_getBytes_840e7 : MethodName := ⟨RJ0, "getBytes", "([BIB)V"⟩
abbrev cJ0_coder_7d493 : ByteArray := prog_43_method_152_code
def yJ0_coder_7d493 : MethodName := ⟨RJ0, "coder", "()B"⟩
abbrev cJ0_isLatin1_aae02 : ByteArray := prog_43_method_154_code
def yJ0_isLatin1_aae02 : MethodName := ⟨RJ0, "isLatin1", "()Z"⟩
abbrev cJ0_checkIndex_df160 : ByteArray := prog_43_method_155_code
def yJ0_checkIndex_df160 : MethodName := ⟨RJ0, "checkIndex", "(II)V"⟩
abbrev cJ0_checkBoundsOffCount_cabcc : ByteArray := prog_43_method_157_code
def yJ0_checkBoundsOffCount_cabcc : MethodName := ⟨RJ0, "checkBoundsOffCount", "(III)I"⟩
abbrev cJ0_checkBoundsBeginEnd_23922 : ByteArray := prog_43_method_158_code
def yJ0_checkBoundsBeginEnd_23922 : MethodName := ⟨RJ0, "checkBoundsBeginEnd", "(III)V"⟩
def RJ4 : String := "java/lang/StringBuilder"
def TJ4 : u_T := fun k => match k with
  | 0 => ("java/lang/AbstractStringBuilder", "value", "[B", false)
  | 1 => ("java/lang/AbstractStringBuilder", "coder", "B", false)
  | 2 => ("java/lang/AbstractStringBuilder", "maybeLatin1", "Z", false)
  | _ => ("java/lang/AbstractStringBuilder", "count", "I", false)
abbrev wsJ40 : List Cond := u_ws RJ4 TJ4 4
def RJ1 : String := "java/lang/StringLatin1"
def TJ1 : u_T := fun k => match k with
  | _ => ("", "", "", false)
abbrev wsJ10 : List Cond := u_ws RJ1 TJ1 0
abbrev cJ1_canEncode_9a6ad : ByteArray := prog_45_method_4_code
def yJ1_canEncode_9a6ad : MethodName := ⟨RJ1, "canEncode", "(I)Z"⟩
abbrev cJ1_indexOf_4cfef : ByteArray := prog_45_method_22_code
def yJ1_indexOf_4cfef : MethodName := ⟨RJ1, "indexOf", "([BIII)I"⟩
abbrev cJ1_indexOfChar_4cfef : ByteArray := prog_45_method_23_code
def yJ1_indexOfChar_4cfef : MethodName := ⟨RJ1, "indexOfChar", "([BIII)I"⟩
abbrev cJ1_inflate_0e8fd : ByteArray := prog_45_method_50_code
def yJ1_inflate_0e8fd : MethodName := ⟨RJ1, "inflate", "([BI[BII)V"⟩
def RJ2 : String := "java/lang/StringUTF16"
def TJ2 : u_T := fun k => match k with
  | _ => ("", "", "", false)
abbrev wsJ20 : List Cond := u_ws RJ2 TJ2 0
abbrev cJ2_newBytesFor_77867 : ByteArray := prog_46_method_2_code
def yJ2_newBytesFor_77867 : MethodName := ⟨RJ2, "newBytesFor", "(I)[B"⟩
abbrev cJ2_newBytesLength_0f7a4 : ByteArray := prog_46_method_3_code
def yJ2_newBytesLength_0f7a4 : MethodName := ⟨RJ2, "newBytesLength", "(I)I"⟩
abbrev cJ2_putChar_b72d1 : ByteArray := prog_46_method_4_code
def yJ2_putChar_b72d1 : MethodName := ⟨RJ2, "putChar", "([BII)V"⟩
abbrev cJ2_getChar_3b067 : ByteArray := prog_46_method_5_code
def yJ2_getChar_3b067 : MethodName := ⟨RJ2, "getChar", "([BI)C"⟩
abbrev cJ2_length_9d52b : ByteArray := prog_46_method_6_code
def yJ2_length_9d52b : MethodName := ⟨RJ2, "length", "([B)I"⟩
abbrev cJ2_coderFromArrayLen_85cad : ByteArray := prog_46_method_15_code
def yJ2_coderFromArrayLen_85cad : MethodName := ⟨RJ2, "coderFromArrayLen", "([BI)B"⟩
abbrev cJ2_compress_39247 : ByteArray := prog_46_method_17_code
def yJ2_compress_39247 : MethodName := ⟨RJ2, "compress", "([BII)[B"⟩
abbrev cJ2_compress_5af95 : ByteArray := prog_46_method_22_code
def yJ2_compress_5af95 : MethodName := ⟨RJ2, "compress", "([BI[BII)I"⟩
abbrev cJ2_getChars_46870 : ByteArray := prog_46_method_77_code
def yJ2_getChars_46870 : MethodName := ⟨RJ2, "getChars", "(III[B)I"⟩
abbrev cJ2_inflate_0e8fd : ByteArray := prog_46_method_86_code
def yJ2_inflate_0e8fd : MethodName := ⟨RJ2, "inflate", "([BI[BII)V"⟩
abbrev cJ2_getChars_ba4f3 : ByteArray := prog_46_method_89_code
def yJ2_getChars_ba4f3 : MethodName := ⟨RJ2, "getChars", "(II[B)I"⟩
abbrev cJ2_checkBoundsBeginEnd_d044e : ByteArray := prog_46_method_93_code
def yJ2_checkBoundsBeginEnd_d044e : MethodName := ⟨RJ2, "checkBoundsBeginEnd", "(II[B)V"⟩
abbrev cJ2_checkBoundsOffCount_d044e : ByteArray := prog_46_method_94_code
def yJ2_checkBoundsOffCount_d044e : MethodName := ⟨RJ2, "checkBoundsOffCount", "(II[B)V"⟩
def RJ10 : String := "java/lang/System"
def TJ10 : u_T := fun k => match k with
  | _ => ("", "", "", false)
abbrev wsJ100 : List Cond := u_ws RJ10 TJ10 0
def RJxfd54e : String := "java/lang/constant/Constable"
def TJxfd54e : u_T := fun k => match k with
  | _ => ("", "", "", false)
abbrev wsJxfd54e0 : List Cond := u_ws RJxfd54e TJxfd54e 0
def RJx3cf43 : String := "java/lang/constant/ConstantDesc"
def TJx3cf43 : u_T := fun k => match k with
  | _ => ("", "", "", false)
abbrev wsJx3cf430 : List Cond := u_ws RJx3cf43 TJx3cf43 0
def RJxa1e45 : String := "java/util/AbstractCollection"
def TJxa1e45 : u_T := fun k => match k with
  | _ => ("", "", "", false)
abbrev wsJxa1e450 : List Cond := u_ws RJxa1e45 TJxa1e45 0
abbrev cJxa1e45_init_da8c8 : ByteArray := prog_52_method_1_code
def yJxa1e45_init_da8c8 : MethodName := ⟨RJxa1e45, "<init>", "()V"⟩
def RJxc12de : String := "java/util/AbstractList"
def TJxc12de : u_T := fun k => match k with
  | _ => ("", "", "", false)
abbrev wsJxc12de0 : List Cond := u_ws RJxc12de TJxc12de 0
abbrev cJxc12de_init_da8c8 : ByteArray := prog_53_method_1_code
def yJxc12de_init_da8c8 : MethodName := ⟨RJxc12de, "<init>", "()V"⟩
def RJx35411 : String := "java/util/ArrayList$Itr"
def TJx35411 : u_T := fun k => match k with
  | 0 => ("java/util/ArrayList$Itr", "cursor", "I", false)
  | 1 => ("java/util/ArrayList$Itr", "lastRet", "I", false)
  | 2 => ("java/util/ArrayList$Itr", "expectedModCount", "I", false)
  | _ => ("java/util/ArrayList$Itr", "this$0", "Ljava/util/ArrayList;", true)
abbrev wsJx354110 : List Cond := u_ws RJx35411 TJx35411 4
abbrev cJx35411_init_45d68 : ByteArray := prog_55_method_1_code
def yJx35411_init_45d68 : MethodName := ⟨RJx35411, "<init>", "(Ljava/util/ArrayList;)V"⟩
abbrev cJx35411_hasNext_aae02 : ByteArray := prog_55_method_2_code
def yJx35411_hasNext_aae02 : MethodName := ⟨RJx35411, "hasNext", "()Z"⟩
def RJx4a65c : String := "java/util/ArrayList"
def TJx4a65c : u_T := fun k => match k with
  | 0 => ("java/util/AbstractList", "modCount", "I", false)
  | 1 => ("java/util/ArrayList", "elementData", "[Ljava/lang/Object;", false)
  | _ => ("java/util/ArrayList", "size", "I", false)
abbrev wsJx4a65c0 : List Cond := u_ws RJx4a65c TJx4a65c 3
abbrev cJx4a65c_init_da8c8 : ByteArray := prog_54_method_2_code
def yJx4a65c_init_da8c8 : MethodName := ⟨RJx4a65c, "<init>", "()V"⟩
abbrev cJx4a65c_grow_92f84 : ByteArray := prog_54_method_6_code
def yJx4a65c_grow_92f84 : MethodName := ⟨RJx4a65c, "grow", "(I)[Ljava/lang/Object;"⟩
abbrev cJx4a65c_grow_d5877 : ByteArray := prog_54_method_7_code
def yJx4a65c_grow_d5877 : MethodName := ⟨RJx4a65c, "grow", "()[Ljava/lang/Object;"⟩
abbrev cJx4a65c_size_8abf5 : ByteArray := prog_54_method_8_code
def yJx4a65c_size_8abf5 : MethodName := ⟨RJx4a65c, "size", "()I"⟩
abbrev cJx4a65c_add_72be8 : ByteArray := prog_54_method_24_code
def yJx4a65c_add_72be8 : MethodName := ⟨RJx4a65c, "add", "(Ljava/lang/Object;[Ljava/lang/Object;I)V"⟩
abbrev cJx4a65c_add_9ea2d : ByteArray := prog_54_method_25_code
def yJx4a65c_add_9ea2d : MethodName := ⟨RJx4a65c, "add", "(Ljava/lang/Object;)Z"⟩
abbrev cJx4a65c_iterator_32c93 : ByteArray := prog_54_method_55_code
def yJx4a65c_iterator_32c93 : MethodName := ⟨RJx4a65c, "iterator", "()Ljava/util/Iterator;"⟩
def RJ7 : String := "java/util/Arrays"
def TJ7 : u_T := fun k => match k with
  | _ => ("", "", "", false)
abbrev wsJ70 : List Cond := u_ws RJ7 TJ7 0
abbrev cJ7_checkLength_df160 : ByteArray := prog_56_method_131_code
def yJ7_checkLength_df160 : MethodName := ⟨RJ7, "checkLength", "(II)V"⟩
def yJ7_copyOfRange_39247 : MethodName := ⟨RJ7, "copyOfRange", "([BII)[B"⟩
abbrev cJ7_copyOfRangeByte_39247 : ByteArray := prog_56_method_133_code
def yJ7_copyOfRangeByte_39247 : MethodName := ⟨RJ7, "copyOfRangeByte", "([BII)[B"⟩
def RJx5ef63 : String := "java/util/Collection"
def TJx5ef63 : u_T := fun k => match k with
  | _ => ("", "", "", false)
abbrev wsJx5ef630 : List Cond := u_ws RJx5ef63 TJx5ef63 0
def RJx4d0d8 : String := "java/util/Iterator"
def TJx4d0d8 : u_T := fun k => match k with
  | _ => ("", "", "", false)
abbrev wsJx4d0d80 : List Cond := u_ws RJx4d0d8 TJx4d0d8 0
def RJxbd725 : String := "java/util/List"
def TJxbd725 : u_T := fun k => match k with
  | _ => ("", "", "", false)
abbrev wsJxbd7250 : List Cond := u_ws RJxbd725 TJxbd725 0
def RJ15 : String := "java/util/Objects"
def TJ15 : u_T := fun k => match k with
  | _ => ("", "", "", false)
abbrev wsJ150 : List Cond := u_ws RJ15 TJ15 0
def RJxf0a74 : String := "java/util/RandomAccess"
def TJxf0a74 : u_T := fun k => match k with
  | _ => ("", "", "", false)
abbrev wsJxf0a740 : List Cond := u_ws RJxf0a74 TJxf0a74 0
def RJxa66e6 : String := "java/util/SequencedCollection"
def TJxa66e6 : u_T := fun k => match k with
  | _ => ("", "", "", false)
abbrev wsJxa66e60 : List Cond := u_ws RJxa66e6 TJxa66e6 0
def RJ8 : String := "jdk/internal/util/ArraysSupport"
def TJ8 : u_T := fun k => match k with
  | _ => ("", "", "", false)
abbrev wsJ80 : List Cond := u_ws RJ8 TJ8 0
def RJ3 : String := "jdk/internal/util/Preconditions"
def TJ3 : u_T := fun k => match k with
  | _ => ("", "", "", false)
abbrev wsJ30 : List Cond := u_ws RJ3 TJ3 0
abbrev cJ3_checkIndex_8e157 : ByteArray := prog_65_method_11_code
def yJ3_checkIndex_8e157 : MethodName := ⟨RJ3, "checkIndex", "(IILjava/util/function/BiFunction;)I"⟩
abbrev cJ3_checkFromToIndex_8c36e : ByteArray := prog_65_method_12_code
def yJ3_checkFromToIndex_8c36e : MethodName := ⟨RJ3, "checkFromToIndex", "(IIILjava/util/function/BiFunction;)I"⟩
abbrev cJ3_checkFromIndexSize_8c36e : ByteArray := prog_65_method_13_code
def yJ3_checkFromIndexSize_8c36e : MethodName := ⟨RJ3, "checkFromIndexSize", "(IIILjava/util/function/BiFunction;)I"⟩
def RL : String := "HeatStadiumLaw"
abbrev cL_athlete : ByteArray := method_3_code
def yL_athlete : MethodName := ⟨RL, "athlete", "(LHeatStadium;I[J)I"⟩
abbrev cL_event : ByteArray := method_4_code
def yL_event : MethodName := ⟨RL, "event", "(LHeatStadium;CIII[J)I"⟩
abbrev cL_enter : ByteArray := method_5_code
def yL_enter : MethodName := ⟨RL, "enter", "(LHeatStadium;III[J)I"⟩
abbrev cL_withdraw : ByteArray := method_6_code
def yL_withdraw : MethodName := ⟨RL, "withdraw", "(LHeatStadium;IIZ[J)I"⟩
abbrev cL_field : ByteArray := method_7_code
def yL_field : MethodName := ⟨RL, "field", "(LHeatStadium;I[J)I"⟩
abbrev cL_inField : ByteArray := method_8_code
def yL_inField : MethodName := ⟨RL, "inField", "(LHeatStadium;II[J)I"⟩
abbrev cL_pass : ByteArray := method_9_code
def yL_pass : MethodName := ⟨RL, "pass", "(LHeatStadium;I[J)I"⟩
abbrev cL_heatOf : ByteArray := method_10_code
def yL_heatOf : MethodName := ⟨RL, "heatOf", "(LHeatStadium;II[J)I"⟩
abbrev cL_laneOf : ByteArray := method_11_code
def yL_laneOf : MethodName := ⟨RL, "laneOf", "(LHeatStadium;III[J)I"⟩
abbrev cL_time : ByteArray := method_12_code
def yL_time : MethodName := ⟨RL, "time", "(LHeatStadium;IIIIZI[J)I"⟩
abbrev cL_react : ByteArray := method_13_code
def yL_react : MethodName := ⟨RL, "react", "(LHeatStadium;IIII[J)I"⟩
abbrev cL_putOut : ByteArray := method_14_code
def yL_putOut : MethodName := ⟨RL, "putOut", "(LHeatStadium;III[J)I"⟩
abbrev cL_isOut : ByteArray := method_15_code
def yL_isOut : MethodName := ⟨RL, "isOut", "(LHeatStadium;III[J)I"⟩
abbrev cL_inFinal : ByteArray := method_16_code
def yL_inFinal : MethodName := ⟨RL, "inFinal", "(LHeatStadium;II[J)I"⟩
abbrev cL_bar : ByteArray := method_17_code
def yL_bar : MethodName := ⟨RL, "bar", "(LHeatStadium;II[J)I"⟩
abbrev cL_jump : ByteArray := method_18_code
def yL_jump : MethodName := ⟨RL, "jump", "(LHeatStadium;IIC[J)I"⟩
abbrev cL_put : ByteArray := method_19_code
def yL_put : MethodName := ⟨RL, "put", "(LHeatStadium;III[J)I"⟩
abbrev cL_rankOf : ByteArray := method_20_code
def yL_rankOf : MethodName := ⟨RL, "rankOf", "(LHeatStadium;II[J)I"⟩
abbrev cL_resultOf : ByteArray := method_21_code
def yL_resultOf : MethodName := ⟨RL, "resultOf", "(LHeatStadium;II[J)I"⟩
abbrev cL_protest : ByteArray := method_22_code
def yL_protest : MethodName := ⟨RL, "protest", "(LHeatStadium;III[J)I"⟩
abbrev cL_decide : ByteArray := method_23_code
def yL_decide : MethodName := ⟨RL, "decide", "(LHeatStadium;IZ[J)I"⟩
abbrev cL_dope : ByteArray := method_24_code
def yL_dope : MethodName := ⟨RL, "dope", "(LHeatStadium;IZ[J)I"⟩
abbrev cL_close : ByteArray := method_25_code
def yL_close : MethodName := ⟨RL, "close", "(LHeatStadium;IZ[J)I"⟩
abbrev cL_record : ByteArray := method_26_code
def yL_record : MethodName := ⟨RL, "record", "(LHeatStadium;I[J)I"⟩
abbrev cL_holder : ByteArray := method_27_code
def yL_holder : MethodName := ⟨RL, "holder", "(LHeatStadium;I[J)I"⟩
abbrev cL_sharers : ByteArray := method_28_code
def yL_sharers : MethodName := ⟨RL, "sharers", "(LHeatStadium;I[J)I"⟩
abbrev cL_medals : ByteArray := method_29_code
def yL_medals : MethodName := ⟨RL, "medals", "(LHeatStadium;II[J)I"⟩
abbrev cL_inTable : ByteArray := method_30_code
def yL_inTable : MethodName := ⟨RL, "inTable", "(LHeatStadium;IZ[J)I"⟩
abbrev cL_points : ByteArray := method_31_code
def yL_points : MethodName := ⟨RL, "points", "(LHeatStadium;I[D)I"⟩
abbrev cL_shareBits : ByteArray := method_32_code
def yL_shareBits : MethodName := ⟨RL, "shareBits", "(LHeatStadium;I[J)I"⟩
abbrev cL_law : ByteArray := code
def yL_law : MethodName := ⟨RL, "law", "([I)Z"⟩
def wsJ0_checkIndex_df160 : List Cond := .code yJ0_checkIndex_df160 cJ0_checkIndex_df160 2 none :: ([.fieldLink RJ0 1053 "jdk/internal/util/Preconditions" "SIOOBE_FORMATTER" "Ljava/util/function/BiFunction;", .methodLink RJ0 1059 yJ3_checkIndex_8e157, .static yJ3_checkIndex_8e157, .initialized RJ3, .code yJ3_checkIndex_8e157 cJ3_checkIndex_8e157 3 (some .int)])
def wsJ9_copySign_eb370 : List Cond := .code yJ9_copySign_eb370 cJ9_copySign_eb370 4 (some .double) :: ([.methodLink RJ9 79 ⟨"java/lang/Double", "doubleToRawLongBits", "(D)J"⟩, .native ⟨"java/lang/Double", "doubleToRawLongBits", "(D)J"⟩, .static ⟨"java/lang/Double", "doubleToRawLongBits", "(D)J"⟩, .initialized "java/lang/Double", .constantLong RJ9 128 (-9223372036854775808), .constantLong RJ9 135 (9223372036854775807), .methodLink RJ9 166 ⟨"java/lang/Double", "longBitsToDouble", "(J)D"⟩, .native ⟨"java/lang/Double", "longBitsToDouble", "(J)D"⟩, .static ⟨"java/lang/Double", "longBitsToDouble", "(J)D"⟩])
def wsJ5_putStringAt_47b60_r1 : List Cond := [Cond.fieldLink RJ5 15 "java/lang/AbstractStringBuilder" "value" "[B", Cond.fieldLink RJ5 22 "java/lang/AbstractStringBuilder" "coder" "B", Cond.methodLink RJ5 397 ⟨"java/lang/AbstractStringBuilder", "inflateIfNeededFor", "(Ljava/lang/String;)V"⟩, Cond.sameMethod "java/lang/AbstractStringBuilder" "java/lang/AbstractStringBuilder" "inflateIfNeededFor" "(Ljava/lang/String;)V", Cond.selects RJ4 ⟨"java/lang/AbstractStringBuilder", "inflateIfNeededFor", "(Ljava/lang/String;)V"⟩ yJ5_inflateIfNeededFor_a7421, Cond.instanceMethod yJ5_inflateIfNeededFor_a7421, Cond.initialized RJ5, Cond.code yJ5_inflateIfNeededFor_a7421 cJ5_inflateIfNeededFor_a7421 2 none, Cond.fieldLink RJ5 18 "java/lang/String" "COMPACT_STRINGS" "Z", Cond.methodLink RJ5 40 yJ0_coder_7d493, Cond.instanceMethod yJ0_coder_7d493, Cond.selects RJ0 yJ0_coder_7d493 yJ0_coder_7d493, Cond.initialized RJ0, Cond.code yJ0_coder_7d493 cJ0_coder_7d493 1 (some .byte), Cond.fieldLink RJ0 38 "java/lang/String" "COMPACT_STRINGS" "Z", Cond.fieldLink RJ0 15 "java/lang/String" "coder" "B", Cond.methodLink RJ5 195 ⟨"java/lang/AbstractStringBuilder", "inflate", "()V"⟩, Cond.sameMethod "java/lang/AbstractStringBuilder" "java/lang/AbstractStringBuilder" "inflate" "()V", Cond.selects RJ4 ⟨"java/lang/AbstractStringBuilder", "inflate", "()V"⟩ yJ5_inflate_da8c8, Cond.instanceMethod yJ5_inflate_da8c8, Cond.code yJ5_inflate_da8c8 cJ5_inflate_da8c8 2 none, Cond.fieldLink RJ5 79 "java/lang/AbstractStringBuilder" "count" "I", Cond.methodLink RJ5 83 ⟨"java/lang/AbstractStringBuilder", "isLatin1", "()Z"⟩, Cond.sameMethod "java/lang/AbstractStringBuilder" "java/lang/AbstractStringBuilder" "isLatin1" "()Z"]
def wsJ5_putStringAt_47b60_r2 : List Cond := [Cond.selects RJ4 ⟨"java/lang/AbstractStringBuilder", "isLatin1", "()Z"⟩ yJ5_isLatin1_aae02, Cond.instanceMethod yJ5_isLatin1_aae02, Cond.code yJ5_isLatin1_aae02 cJ5_isLatin1_aae02 1 (some .boolean), Cond.methodLink RJ5 26 yJ2_newBytesFor_77867, Cond.static yJ2_newBytesFor_77867, Cond.initialized RJ2, Cond.code yJ2_newBytesFor_77867 cJ2_newBytesFor_77867 1 (some (.array .byte)), Cond.arrayClass .byte, Cond.methodLink RJ2 11 yJ2_newBytesLength_0f7a4, Cond.static yJ2_newBytesLength_0f7a4, Cond.code yJ2_newBytesLength_0f7a4 cJ2_newBytesLength_0f7a4 1 (some .int), Cond.constant RJ2 20 (1073741823), Cond.methodLink RJ5 125 yJ1_inflate_0e8fd, Cond.static yJ1_inflate_0e8fd, Cond.initialized RJ1, Cond.code yJ1_inflate_0e8fd cJ1_inflate_0e8fd 5 none, Cond.methodLink RJ1 240 yJ2_inflate_0e8fd, Cond.static yJ2_inflate_0e8fd, Cond.code yJ2_inflate_0e8fd cJ2_inflate_0e8fd 6 none, Cond.methodLink RJ2 173 yJ2_checkBoundsOffCount_d044e, Cond.static yJ2_checkBoundsOffCount_d044e, Cond.code yJ2_checkBoundsOffCount_d044e cJ2_checkBoundsOffCount_d044e 3 none, Cond.methodLink RJ2 48 yJ2_length_9d52b, Cond.static yJ2_length_9d52b]
def wsJ5_putStringAt_47b60_r3 : List Cond := [Cond.code yJ2_length_9d52b cJ2_length_9d52b 1 (some .int), Cond.methodLink RJ2 419 yJ0_checkBoundsOffCount_cabcc, Cond.static yJ0_checkBoundsOffCount_cabcc, Cond.code yJ0_checkBoundsOffCount_cabcc cJ0_checkBoundsOffCount_cabcc 3 (some .int), Cond.fieldLink RJ0 1053 "jdk/internal/util/Preconditions" "SIOOBE_FORMATTER" "Ljava/util/function/BiFunction;", Cond.methodLink RJ0 1065 yJ3_checkFromIndexSize_8c36e, Cond.static yJ3_checkFromIndexSize_8c36e, Cond.initialized RJ3, Cond.code yJ3_checkFromIndexSize_8c36e cJ3_checkFromIndexSize_8c36e 4 (some .int), Cond.methodLink RJ2 111 yJ2_putChar_b72d1, Cond.static yJ2_putChar_b72d1, Cond.code yJ2_putChar_b72d1 cJ2_putChar_b72d1 3 none, Cond.fieldLink RJ2 44 "java/lang/StringUTF16" "$assertionsDisabled" "Z", Cond.fieldLink RJ2 59 "java/lang/StringUTF16" "HI_BYTE_SHIFT" "I", Cond.fieldLink RJ2 63 "java/lang/StringUTF16" "LO_BYTE_SHIFT" "I", Cond.methodLink RJ5 399 yJ0_getBytes_840e7, Cond.instanceMethod yJ0_getBytes_840e7, Cond.selects RJ0 yJ0_getBytes_840e7 yJ0_getBytes_840e7, Cond.code yJ0_getBytes_840e7 cJ0_getBytes_840e7 4 none, Cond.fieldLink RJ0 9 "java/lang/String" "value" "[B", Cond.methodLink RJ0 212 arraycopyName, Cond.native arraycopyName, Cond.static arraycopyName, Cond.initialized "java/lang/System"]
def wsJ5_putStringAt_47b60_r4 : List Cond := [Cond.methodLink RJ0 335 yJ0_coder_7d493, Cond.methodLink RJ0 106 yJ1_inflate_0e8fd]
def wsJ5_putStringAt_47b60 : List Cond := .code yJ5_putStringAt_47b60 cJ5_putStringAt_47b60 3 none :: ((wsJ5_putStringAt_47b60_r1 ++ (wsJ5_putStringAt_47b60_r2 ++ (wsJ5_putStringAt_47b60_r3 ++ wsJ5_putStringAt_47b60_r4))) ++ wsJ40 ++ wsJ00)
def wsJ2_getChars_46870_r1 : List Cond := [Cond.fieldLink RJ2 44 "java/lang/StringUTF16" "$assertionsDisabled" "Z", Cond.methodLink RJ2 96 yJ2_checkBoundsBeginEnd_d044e, Cond.static yJ2_checkBoundsBeginEnd_d044e, Cond.initialized RJ2, Cond.code yJ2_checkBoundsBeginEnd_d044e cJ2_checkBoundsBeginEnd_d044e 3 none, Cond.methodLink RJ2 48 yJ2_length_9d52b, Cond.static yJ2_length_9d52b, Cond.code yJ2_length_9d52b cJ2_length_9d52b 1 (some .int), Cond.methodLink RJ2 241 yJ0_checkBoundsBeginEnd_23922, Cond.static yJ0_checkBoundsBeginEnd_23922, Cond.initialized RJ0, Cond.code yJ0_checkBoundsBeginEnd_23922 cJ0_checkBoundsBeginEnd_23922 3 none, Cond.fieldLink RJ0 1053 "jdk/internal/util/Preconditions" "SIOOBE_FORMATTER" "Ljava/util/function/BiFunction;", Cond.methodLink RJ0 1062 yJ3_checkFromToIndex_8c36e, Cond.static yJ3_checkFromToIndex_8c36e, Cond.initialized RJ3, Cond.code yJ3_checkFromToIndex_8c36e cJ3_checkFromToIndex_8c36e 4 (some .int), Cond.methodLink RJ2 393 yJ2_getChars_ba4f3, Cond.static yJ2_getChars_ba4f3, Cond.code yJ2_getChars_ba4f3 cJ2_getChars_ba4f3 7 (some .int), Cond.fieldLink RJ2 403 "java/lang/Integer" "DigitOnes" "[B", Cond.fieldLink RJ2 407 "java/lang/Integer" "DigitTens" "[B", Cond.methodLink RJ2 111 yJ2_putChar_b72d1, Cond.static yJ2_putChar_b72d1]
def wsJ2_getChars_46870_r2 : List Cond := [Cond.code yJ2_putChar_b72d1 cJ2_putChar_b72d1 3 none, Cond.fieldLink RJ2 59 "java/lang/StringUTF16" "HI_BYTE_SHIFT" "I", Cond.fieldLink RJ2 63 "java/lang/StringUTF16" "LO_BYTE_SHIFT" "I"]
def wsJ2_getChars_46870 : List Cond := .code yJ2_getChars_46870 cJ2_getChars_46870 5 (some .int) :: ((wsJ2_getChars_46870_r1 ++ wsJ2_getChars_46870_r2))
def wsJ7_checkLength_df160 : List Cond := .code yJ7_checkLength_df160 cJ7_checkLength_df160 2 none :: ([.classLink RJ7 45 RJ4, .instantiable RJ4 4, .initialized RJ4] ++ wsJ40)
def wsJx4a65c_outOfBoundsMsg_b52d3_r10 : List Cond := [Cond.methodLink RJ7 339 yJ7_copyOfRangeByte_39247, Cond.static yJ7_copyOfRangeByte_39247, Cond.code yJ7_copyOfRangeByte_39247 cJ7_copyOfRangeByte_39247 5 (some (.array .byte)), Cond.methodLink RJ7 343 yJ7_checkLength_df160, Cond.static yJ7_checkLength_df160, Cond.code yJ7_checkLength_df160 cJ7_checkLength_df160 2 none, Cond.classLink RJ7 45 RJ4, Cond.methodLink RJ0 1051 yJ2_compress_39247, Cond.static yJ2_compress_39247, Cond.code yJ2_compress_39247 cJ2_compress_39247 6 (some (.array .byte)), Cond.methodLink RJ2 123 yJ2_compress_5af95, Cond.static yJ2_compress_5af95, Cond.code yJ2_compress_5af95 cJ2_compress_5af95 7 (some .int), Cond.methodLink RJ2 71 yJ2_getChar_3b067, Cond.static yJ2_getChar_3b067, Cond.code yJ2_getChar_3b067 cJ2_getChar_3b067 2 (some .char), Cond.methodLink RJ2 126 yJ7_copyOfRange_39247, Cond.methodLink RJ0 47 yJ2_coderFromArrayLen_85cad, Cond.static yJ2_coderFromArrayLen_85cad, Cond.code yJ2_coderFromArrayLen_85cad cJ2_coderFromArrayLen_85cad 2 (some .byte)]
abbrev vwCl : List vw_C := [(RJ0, TJ0, 4), (RJ4, TJ4, 4), (RJ6, TJ6, 1), (RJx00060, TJx00060, 6), (RJx35411, TJx35411, 4), (RJx4a65c, TJx4a65c, 3), (RX0, TX0, 3), (RX1, TX1, 13), (RX2, TX2, 5), (RX3, TX3, 6), (RX4, TX4, 2), (RX5, TX5, 5), (RX6, TX6, 8), (RX7, TX7, 5), (RX8, TX8, 4), (RX9, TX9, 6), (RX10, TX10, 3), (RX11, TX11, 11), (RX12, TX12, 9), (RX13, TX13, 8), (RX14, TX14, 3), (RX15, TX15, 3), (RX16, TX16, 3), (RX17, TX17, 8)]
end
section
/-! what stays as it was at the start, in one bundle: the statics that a throw reads, the texts of throws, words of the tables that a method's own list can't carry -/
def zTexts : List (String × Nat × String) := [(RX11, 386, "no such nation"), (RX11, 388, "out of range"), (RX11, 382, "no such event"), (RX11, 384, "no such athlete"), (RX11, 94, "no such kind"), (RX11, 301, "no such protest"), (RX11, 360, "there are no medals")]
def zWords : List Cond := [.fieldLinkNest RX11 78 "HeatStadium$Athletes" "count" "I" RX11, .fieldLinkNest RX11 88 "HeatStadium$Athletes" "nations" "[I" RX11, .fieldLinkNest RX11 292 "HeatStadium$Protests" "count" "I" RX11, .fieldLinkNest RX11 345 "HeatStadium$MedalTable" "counts" "[[I" RX11, .fieldLinkNest RX11 355 "HeatStadium$MedalTable" "given" "I" RX11,
  .methodLinkNest RX11 104 yX1_init RX11, .methodLinkNest RX11 11 yX0_init RX11, .methodLinkNest RX11 24 yX5_init RX11, .methodLinkNest RX11 31 yX2_init RX11, .methodLinkNest RX11 38 yX6_init RX11, .methodLinkNest RX11 45 yX8_init RX11, .methodLinkNest RX11 52 yX7_init RX11, .methodLinkNest RX11 59 yX4_init RX11,
  .methodLinkNest RX11 347 yX4_nationAt RX11, .methodLinkNest RX11 379 yX4_sumOfNations RX11, .methodLinkNest RX11 459 yX4_clear RX11,
  .methodLinkNest RX1 21 yX9_init RX11, .methodLinkNest RX1 31 yX3_init RX11, .methodLinkNest RX1 38 yX10_init RX11,
  .castable "java/lang/IndexOutOfBoundsException" "java/lang/IndexOutOfBoundsException", .castable "java/lang/IllegalArgumentException" "java/lang/IllegalArgumentException", .castable "java/lang/ArithmeticException" "java/lang/ArithmeticException",
  .superclass "java/lang/Throwable" "java/lang/Object", .declares ⟨"java/lang/RuntimeException", "<init>", "(Ljava/lang/String;)V"⟩, .declares ⟨"java/lang/Exception", "<init>", "(Ljava/lang/String;)V"⟩, .declares ⟨"java/lang/Throwable", "<init>", "(Ljava/lang/String;)V"⟩]
/-- superclass, in tables alike -/
theorem zSuper {a b : String} {s U : State} (hW : s.WarmedH U.vm) (h : va_Nw (.superclass a b) s) : va_Nw (.superclass a b) U := by
  have hal := hW.alike
  cases hc : s.vm.findClass a with
  | none => simp [va_Nw, Cond.before, Cond.holds, Cond.value, hc] at h
  | some c =>
    obtain ⟨p, k, kp, h1, h2, h3, h4, h5, h6, h7⟩ := Cond.superclass_spec (args := #[]) (first := s) (o := none) (idx := []) hc h
    obtain ⟨k', e1, f1⟩ := hal.2.2 _ _ h2
    obtain ⟨kp', e2, f2⟩ := hal.2.2 _ _ h3
    have g1 : U.vm.findClass a = some c := by rw [hal.findClass]; exact hc
    have g2 : U.vm.findClass b = some p := by rw [hal.findClass]; exact h1
    have i1 : k'.super = some p := by rw [f1]; exact h4
    have i2 : k'.kind = .ordinary := by rw [f1]; exact h5
    have i3 : kp'.kind = .ordinary := by rw [f2]; exact h6
    have i4 : k'.isInterface = false := by rw [f1]; exact h7
    unfold va_Nw Cond.before Cond.holds
    simp [Cond.value, g1, g2, e1, e2, i1, i2, i3, i4]
def zKind : Cond → Bool
  | .superclass .. => true
  | .fieldLinkNest .. => true
  | .methodLinkNest .. => true
  | .castable .. => true
  | .declares .. => true
  | _ => false
theorem zKind_warm {w : Cond} {s U : State} (hk : zKind w = true) (hW : s.WarmedH U.vm) (h : va_Nw w s) : va_Nw w U := by
  cases w <;> first | exact zSuper hW h | exact va_Nw.warmF hW h | exact va_Nw.warmM hW h | exact va_Nw.warmD hW h | exact va_Nw.warmC hW h | exact absurd hk (by simp [zKind])
theorem zKind_tabs {w : Cond} (hk : zKind w = true) : w.onTables = true := by
  cases w <;> first | rfl | exact absurd hk (by simp [zKind])
theorem zWords_kind : ∀ w ∈ zWords, zKind w = true := List.all_eq_true.mp (by decide +kernel)
def zX (A : Nat → Prop) (U : State) (H : Heap) : Prop :=
  (vx_Zq Bundle.tN "UNASSIGNED_STACK" Bundle.steD A U H ∧ vx_Zq Bundle.tN "SUPPRESSED_SENTINEL" Bundle.listD A U H) ∧
  (∀ q ∈ zTexts, ∃ a, vk_R q.1 q.2.1 q.2.2 a U) ∧ (∀ w ∈ zWords, va_Nw w U) ∧
  (va_AO "HeatStadium$Event" U ∧ va_AO "HeatStadium$Round" U ∧ va_AOA .int U) ∧ va_Nc "java/lang/ArithmeticException" "java/lang/IllegalArgumentException" U
theorem zX.call {A B : Nat → Prop} {s U : State} {H : Heap} {locs : List Loc} (h : zX A s s.heap) (hS : va_S A s.heap H locs) (hU : U.heap = H) (hW : s.WarmedH U.vm) (hB : ∀ q, B q → A q) : zX B U U.heap := by
  subst hU
  obtain ⟨⟨h1, h2⟩, h3, h4, ⟨h5, h6, h7⟩, h8⟩ := h
  exact ⟨⟨(vx_Zq.moved hW.alike (h1.kept hS.2.1)).narrow hB, (vx_Zq.moved hW.alike (h2.kept hS.2.1)).narrow hB⟩, fun q hq => (h3 q hq).imp fun a ha => vk_R.warm hW ha,
    fun w hw => zKind_warm (zWords_kind w hw) hW (h4 w hw), ⟨va_AO.moved hW.alike h5, va_AO.moved hW.alike h6, va_AOA.moved hW.alike h7⟩, va_Nc.moved hW.alike h8⟩
theorem zX.calling {A : Nat → Prop} {U : State} (h : zX A U U.heap) (g : JFrame) (mk : MethodId) (a : Array Value) : zX A (U.calling g mk a) (U.calling g mk a).heap := by
  obtain ⟨⟨h1, h2⟩, h3, h4, ⟨h5, h6, h7⟩, h8⟩ := h
  exact ⟨⟨vx_Zq.moved (u := U) (U := U.calling g mk a) (Vm.Alike.refl U.vm) h1, vx_Zq.moved (u := U) (U := U.calling g mk a) (Vm.Alike.refl U.vm) h2⟩, fun q hq => (h3 q hq).imp fun b hb => vk_R.same rfl hb,
    fun w hw => va_Nw.same (u := U) (U := U.calling g mk a) (zKind_tabs (zWords_kind w hw)) rfl (h4 w hw), ⟨va_AO.moved (u := U) (U := U.calling g mk a) (Vm.Alike.refl U.vm) h5, va_AO.moved (u := U) (U := U.calling g mk a) (Vm.Alike.refl U.vm) h6, va_AOA.moved (u := U) (U := U.calling g mk a) (Vm.Alike.refl U.vm) h7⟩, va_Nc.moved (u := U) (U := U.calling g mk a) (Vm.Alike.refl U.vm) h8⟩
/-- a word of the bundle, as the rows ask for it -/
theorem zX.w {A : Nat → Prop} {U : State} {H : Heap} (h : zX A U H) {args : Array Value} (w : Cond) (hw : w ∈ zWords) : w.before args U = true := va_Nw.use (zKind_tabs (zWords_kind w hw)) (h.2.2.1 w hw)
/-- how a method begins: its arguments, the size of the heap, the cells that it sees, the bundle -/
def zPre (av : List Value) (D : va_G) (ws : va_W) (tys : List (ClassId × FieldType)) (F : Nat → Prop) (sz : Nat) : Array Value → State → Prop :=
  va_Pc av (fun U => U.heap.size = sz ∧ va_P D vwCl ws U.heap ∧ va_K D vwCl tys U ∧ va_D (fun _ => True) ws ∧ zX F U U.heap)
theorem zPre.blind {av : List Value} {D : va_G} {ws : va_W} {tys : List (ClassId × FieldType)} {F : Nat → Prop} {sz : Nat} : FrameBlind (zPre av D ws tys F sz) := fun a U g mk q => by
  obtain ⟨q0, q1, qP, qK, qD, qZ⟩ := q
  exact ⟨q0, q1, qP, va_K.moved (u := U) (U := U.calling g mk a) (Vm.Alike.refl U.vm) qK, qD, zX.calling qZ g mk a⟩
theorem zPre.mk {av : List Value} {D : va_G} {ws : va_W} {tys : List (ClassId × FieldType)} {A A9 F : Nat → Prop} {s : State} {H : Heap} {locs : List Loc} (hP : va_P D vwCl ws H) (hK : va_K D vwCl tys s) (hD : va_D A9 ws) (hz : zX A s s.heap) (hS : va_S A s.heap H locs) (hF : ∀ q, F q → A q) :
    ∀ U : State, U.heap = H → s.WarmedH U.vm → zPre av D ws tys F H.size av.toArray U :=
  fun U hU hW => ⟨rfl, by rw [hU], by rw [hU]; exact hP, va_K.moved hW.alike hK, hD.weaken (fun _ _ _ _ => trivial), hz.call hS hU hW hF⟩
/-- the cells behind a method -/
def zAt (D : va_G) (ws : va_W) (tys : List (ClassId × FieldType)) (F : Nat → Prop) (t : State) : Prop := va_P D vwCl ws t.heap ∧ va_K D vwCl tys t ∧ va_D F ws
/-- it throws E -/
def zThr (E : String) (F : Nat → Prop) : String → State → State → Prop := vx_X (S := Unit) (fun _ => True) (fun E' _ _ => E' = E) F
abbrev zR (k mc ms : Nat) : Room := { frames := 10 + k, cells := mc, slots := ms, locals := 200 + 60 * k }
/-- cells that a callee can't write stay -/
theorem zKeep {D : va_G} {ws : va_W} {H H1 : Heap} (hP : va_P D vwCl ws H) (hk : ∀ q : Nat, q < H.size → ¬ (H.size ≤ q) → H1[q]? = H[q]?) : va_P D vwCl ws H1 := hP.kept (fun k q h => hk q.1 (hP k q h).lt (Nat.not_le.mpr (hP k q h).lt))
theorem zF {A : Nat → Prop} {s t : State} {H : Heap} {locs : List Loc} (hS : va_S A s.heap H locs) (h1 : H.size ≤ t.heap.size) (h2 : ∀ q : Nat, q < H.size → t.heap[q]? = H[q]?) : va_F A s t :=
  ⟨Nat.le_trans hS.1 h1, fun q hq hn => (h2 q (Nat.lt_of_lt_of_le hq hS.1)).trans (hS.2.1 q hq hn)⟩
abbrev zHS (a : Nat → Nat) : List Value := [.ref (a 0), .ref (a 1), .ref (a 2), .ref (a 3), .ref (a 4), .ref (a 5), .ref (a 6), .ref (a 7), .int 0, .int 0, .int 0]
end
section
/-! printed rows that this part uses -/
theorem dX11_enter_0 : decode cX11_enter 0 = .ok (.aload_n 0, 1) := by decide +kernel
theorem dX11_enter_1 : decode cX11_enter 1 = .ok (.iload_n 1, 1) := by decide +kernel
theorem dX11_enter_2 : decode cX11_enter 2 = .ok (.iload_n 2, 1) := by decide +kernel
theorem dX11_enter_3 : decode cX11_enter 3 = .ok (.invokevirtual 107, 3) := by decide +kernel
theorem dX11_withdraw_0 : decode cX11_withdraw 0 = .ok (.aload_n 0, 1) := by decide +kernel
theorem dX11_withdraw_1 : decode cX11_withdraw 1 = .ok (.iload_n 1, 1) := by decide +kernel
theorem dX11_withdraw_2 : decode cX11_withdraw 2 = .ok (.iload_n 2, 1) := by decide +kernel
theorem dX11_withdraw_3 : decode cX11_withdraw 3 = .ok (.invokevirtual 107, 3) := by decide +kernel
theorem dX11_field_0 : decode cX11_field 0 = .ok (.aload_n 0, 1) := by decide +kernel
theorem dX11_field_1 : decode cX11_field 1 = .ok (.getfield 32, 3) := by decide +kernel
theorem dX11_field_4 : decode cX11_field 4 = .ok (.aload_n 0, 1) := by decide +kernel
theorem dX11_field_5 : decode cX11_field 5 = .ok (.iload_n 1, 1) := by decide +kernel
theorem dX11_field_6 : decode cX11_field 6 = .ok (.invokevirtual 130, 3) := by decide +kernel
theorem dX11_inField_0 : decode cX11_inField 0 = .ok (.aload_n 0, 1) := by decide +kernel
theorem dX11_inField_1 : decode cX11_inField 1 = .ok (.getfield 32, 3) := by decide +kernel
theorem dX11_inField_4 : decode cX11_inField 4 = .ok (.aload_n 0, 1) := by decide +kernel
theorem dX11_inField_5 : decode cX11_inField 5 = .ok (.iload_n 1, 1) := by decide +kernel
theorem dX11_inField_6 : decode cX11_inField 6 = .ok (.invokevirtual 130, 3) := by decide +kernel
theorem dX11_heatOf_0 : decode cX11_heatOf 0 = .ok (.aload_n 0, 1) := by decide +kernel
theorem dX11_heatOf_1 : decode cX11_heatOf 1 = .ok (.iload_n 1, 1) := by decide +kernel
theorem dX11_heatOf_2 : decode cX11_heatOf 2 = .ok (.iload_n 2, 1) := by decide +kernel
theorem dX11_heatOf_3 : decode cX11_heatOf 3 = .ok (.invokevirtual 107, 3) := by decide +kernel
theorem dX11_laneOf_0 : decode cX11_laneOf 0 = .ok (.aload_n 0, 1) := by decide +kernel
theorem dX11_laneOf_1 : decode cX11_laneOf 1 = .ok (.iload_n 1, 1) := by decide +kernel
theorem dX11_laneOf_2 : decode cX11_laneOf 2 = .ok (.iload_n 2, 1) := by decide +kernel
theorem dX11_laneOf_3 : decode cX11_laneOf 3 = .ok (.iload_n 3, 1) := by decide +kernel
theorem dX11_laneOf_4 : decode cX11_laneOf 4 = .ok (.invokevirtual 161, 3) := by decide +kernel
theorem dX11_time_0 : decode cX11_time 0 = .ok (.aload_n 0, 1) := by decide +kernel
theorem dX11_time_1 : decode cX11_time 1 = .ok (.iload_n 1, 1) := by decide +kernel
theorem dX11_time_2 : decode cX11_time 2 = .ok (.iload_n 3, 1) := by decide +kernel
theorem dX11_time_3 : decode cX11_time 3 = .ok (.invokevirtual 107, 3) := by decide +kernel
theorem dX11_react_0 : decode cX11_react 0 = .ok (.aload_n 0, 1) := by decide +kernel
theorem dX11_react_1 : decode cX11_react 1 = .ok (.iload_n 1, 1) := by decide +kernel
theorem dX11_react_2 : decode cX11_react 2 = .ok (.iload_n 3, 1) := by decide +kernel
theorem dX11_react_3 : decode cX11_react 3 = .ok (.invokevirtual 107, 3) := by decide +kernel
theorem dX11_putOut_0 : decode cX11_putOut 0 = .ok (.aload_n 0, 1) := by decide +kernel
theorem dX11_putOut_1 : decode cX11_putOut 1 = .ok (.iload_n 1, 1) := by decide +kernel
theorem dX11_putOut_2 : decode cX11_putOut 2 = .ok (.iload_n 2, 1) := by decide +kernel
theorem dX11_putOut_3 : decode cX11_putOut 3 = .ok (.iload_n 3, 1) := by decide +kernel
theorem dX11_putOut_4 : decode cX11_putOut 4 = .ok (.invokevirtual 161, 3) := by decide +kernel
theorem dX11_isOut_0 : decode cX11_isOut 0 = .ok (.aload_n 0, 1) := by decide +kernel
theorem dX11_isOut_1 : decode cX11_isOut 1 = .ok (.iload_n 1, 1) := by decide +kernel
theorem dX11_isOut_2 : decode cX11_isOut 2 = .ok (.iload_n 2, 1) := by decide +kernel
theorem dX11_isOut_3 : decode cX11_isOut 3 = .ok (.iload_n 3, 1) := by decide +kernel
theorem dX11_isOut_4 : decode cX11_isOut 4 = .ok (.invokevirtual 161, 3) := by decide +kernel
theorem dX11_inFinal_0 : decode cX11_inFinal 0 = .ok (.aload_n 0, 1) := by decide +kernel
theorem dX11_inFinal_1 : decode cX11_inFinal 1 = .ok (.iload_n 1, 1) := by decide +kernel
theorem dX11_inFinal_2 : decode cX11_inFinal 2 = .ok (.invokevirtual 130, 3) := by decide +kernel
theorem dX11_bar_0 : decode cX11_bar 0 = .ok (.aload_n 0, 1) := by decide +kernel
theorem dX11_bar_1 : decode cX11_bar 1 = .ok (.iload_n 1, 1) := by decide +kernel
theorem dX11_bar_2 : decode cX11_bar 2 = .ok (.invokevirtual 130, 3) := by decide +kernel
theorem dX11_jump_0 : decode cX11_jump 0 = .ok (.aload_n 0, 1) := by decide +kernel
theorem dX11_jump_1 : decode cX11_jump 1 = .ok (.iload_n 1, 1) := by decide +kernel
theorem dX11_jump_2 : decode cX11_jump 2 = .ok (.iload_n 2, 1) := by decide +kernel
theorem dX11_jump_3 : decode cX11_jump 3 = .ok (.invokevirtual 107, 3) := by decide +kernel
theorem dX11_put_0 : decode cX11_put 0 = .ok (.aload_n 0, 1) := by decide +kernel
theorem dX11_put_1 : decode cX11_put 1 = .ok (.iload_n 1, 1) := by decide +kernel
theorem dX11_put_2 : decode cX11_put 2 = .ok (.iload_n 2, 1) := by decide +kernel
theorem dX11_put_3 : decode cX11_put 3 = .ok (.invokevirtual 107, 3) := by decide +kernel
theorem dX11_rankOf_0 : decode cX11_rankOf 0 = .ok (.aload_n 0, 1) := by decide +kernel
theorem dX11_rankOf_1 : decode cX11_rankOf 1 = .ok (.aload_n 0, 1) := by decide +kernel
theorem dX11_rankOf_2 : decode cX11_rankOf 2 = .ok (.iload_n 1, 1) := by decide +kernel
theorem dX11_rankOf_3 : decode cX11_rankOf 3 = .ok (.iload_n 2, 1) := by decide +kernel
theorem dX11_rankOf_4 : decode cX11_rankOf 4 = .ok (.invokevirtual 107, 3) := by decide +kernel
theorem dX11_resultOf_0 : decode cX11_resultOf 0 = .ok (.aload_n 0, 1) := by decide +kernel
theorem dX11_resultOf_1 : decode cX11_resultOf 1 = .ok (.iload_n 1, 1) := by decide +kernel
theorem dX11_resultOf_2 : decode cX11_resultOf 2 = .ok (.iload_n 2, 1) := by decide +kernel
theorem dX11_resultOf_3 : decode cX11_resultOf 3 = .ok (.invokevirtual 107, 3) := by decide +kernel
theorem dX11_protest_0 : decode cX11_protest 0 = .ok (.aload_n 0, 1) := by decide +kernel
theorem dX11_protest_1 : decode cX11_protest 1 = .ok (.iload_n 1, 1) := by decide +kernel
theorem dX11_protest_2 : decode cX11_protest 2 = .ok (.iload_n 2, 1) := by decide +kernel
theorem dX11_protest_3 : decode cX11_protest 3 = .ok (.iload_n 3, 1) := by decide +kernel
theorem dX11_protest_4 : decode cX11_protest 4 = .ok (.invokevirtual 161, 3) := by decide +kernel
theorem dX11_decide_0 : decode cX11_decide 0 = .ok (.iload_n 1, 1) := by decide +kernel
theorem dX11_decide_1 : decode cX11_decide 1 = .ok (.ifCond .lt 14, 3) := by decide +kernel
theorem dX11_decide_4 : decode cX11_decide 4 = .ok (.iload_n 1, 1) := by decide +kernel
theorem dX11_decide_5 : decode cX11_decide 5 = .ok (.aload_n 0, 1) := by decide +kernel
theorem dX11_decide_6 : decode cX11_decide 6 = .ok (.getfield 25, 3) := by decide +kernel
theorem dX11_decide_9 : decode cX11_decide 9 = .ok (.getfield 292, 3) := by decide +kernel
theorem dX11_decide_12 : decode cX11_decide 12 = .ok (.if_icmp .lt 14, 3) := by decide +kernel
theorem dX11_decide_15 : decode cX11_decide 15 = .ok (.new 299, 3) := by decide +kernel
theorem dX11_decide_18 : decode cX11_decide 18 = .ok (.dup, 1) := by decide +kernel
theorem dX11_decide_19 : decode cX11_decide 19 = .ok (.ldc_w 301, 3) := by decide +kernel
theorem dX11_decide_22 : decode cX11_decide 22 = .ok (.invokespecial 303, 3) := by decide +kernel
theorem dX11_decide_25 : decode cX11_decide 25 = .ok (.athrow, 1) := by decide +kernel
theorem dX11_dope_0 : decode cX11_dope 0 = .ok (.aload_n 0, 1) := by decide +kernel
theorem dX11_dope_1 : decode cX11_dope 1 = .ok (.iload_n 1, 1) := by decide +kernel
theorem dX11_dope_2 : decode cX11_dope 2 = .ok (.invokevirtual 317, 3) := by decide +kernel
theorem dX11_close_0 : decode cX11_close 0 = .ok (.aload_n 0, 1) := by decide +kernel
theorem dX11_close_1 : decode cX11_close 1 = .ok (.iload_n 1, 1) := by decide +kernel
theorem dX11_close_2 : decode cX11_close 2 = .ok (.invokevirtual 130, 3) := by decide +kernel
theorem dX11_record_0 : decode cX11_record 0 = .ok (.aload_n 0, 1) := by decide +kernel
theorem dX11_record_1 : decode cX11_record 1 = .ok (.iload_n 1, 1) := by decide +kernel
theorem dX11_record_2 : decode cX11_record 2 = .ok (.invokevirtual 130, 3) := by decide +kernel
theorem dX11_holder_0 : decode cX11_holder 0 = .ok (.aload_n 0, 1) := by decide +kernel
theorem dX11_holder_1 : decode cX11_holder 1 = .ok (.aload_n 0, 1) := by decide +kernel
theorem dX11_holder_2 : decode cX11_holder 2 = .ok (.iload_n 1, 1) := by decide +kernel
theorem dX11_holder_3 : decode cX11_holder 3 = .ok (.invokevirtual 130, 3) := by decide +kernel
theorem dX11_sharers_0 : decode cX11_sharers 0 = .ok (.aload_n 0, 1) := by decide +kernel
theorem dX11_sharers_1 : decode cX11_sharers 1 = .ok (.aload_n 0, 1) := by decide +kernel
theorem dX11_sharers_2 : decode cX11_sharers 2 = .ok (.iload_n 1, 1) := by decide +kernel
theorem dX11_sharers_3 : decode cX11_sharers 3 = .ok (.invokevirtual 130, 3) := by decide +kernel
theorem dX11_eventAt_0 : decode cX11_eventAt 0 = .ok (.iload_n 1, 1) := by decide +kernel
theorem dX11_eventAt_1 : decode cX11_eventAt 1 = .ok (.ifCond .lt 11, 3) := by decide +kernel
theorem dX11_eventAt_4 : decode cX11_eventAt 4 = .ok (.iload_n 1, 1) := by decide +kernel
theorem dX11_eventAt_5 : decode cX11_eventAt 5 = .ok (.aload_n 0, 1) := by decide +kernel
theorem dX11_eventAt_6 : decode cX11_eventAt 6 = .ok (.getfield 64, 3) := by decide +kernel
theorem dX11_eventAt_9 : decode cX11_eventAt 9 = .ok (.if_icmp .lt 14, 3) := by decide +kernel
theorem dX11_eventAt_12 : decode cX11_eventAt 12 = .ok (.new 299, 3) := by decide +kernel
theorem dX11_eventAt_15 : decode cX11_eventAt 15 = .ok (.dup, 1) := by decide +kernel
theorem dX11_eventAt_16 : decode cX11_eventAt 16 = .ok (.ldc_w 382, 3) := by decide +kernel
theorem dX11_eventAt_19 : decode cX11_eventAt 19 = .ok (.invokespecial 303, 3) := by decide +kernel
theorem dX11_eventAt_22 : decode cX11_eventAt 22 = .ok (.athrow, 1) := by decide +kernel
theorem dX11_eventFor_0 : decode cX11_eventFor 0 = .ok (.aload_n 0, 1) := by decide +kernel
theorem dX11_eventFor_1 : decode cX11_eventFor 1 = .ok (.iload_n 1, 1) := by decide +kernel
theorem dX11_eventFor_2 : decode cX11_eventFor 2 = .ok (.invokevirtual 130, 3) := by decide +kernel
theorem dX11_raceFor_0 : decode cX11_raceFor 0 = .ok (.aload_n 0, 1) := by decide +kernel
theorem dX11_raceFor_1 : decode cX11_raceFor 1 = .ok (.iload_n 1, 1) := by decide +kernel
theorem dX11_raceFor_2 : decode cX11_raceFor 2 = .ok (.iload_n 3, 1) := by decide +kernel
theorem dX11_raceFor_3 : decode cX11_raceFor 3 = .ok (.invokevirtual 107, 3) := by decide +kernel
theorem dX11_requireAthlete_0 : decode cX11_requireAthlete 0 = .ok (.iload_n 1, 1) := by decide +kernel
theorem dX11_requireAthlete_1 : decode cX11_requireAthlete 1 = .ok (.ifCond .lt 14, 3) := by decide +kernel
theorem dX11_requireAthlete_4 : decode cX11_requireAthlete 4 = .ok (.iload_n 1, 1) := by decide +kernel
theorem dX11_requireAthlete_5 : decode cX11_requireAthlete 5 = .ok (.aload_n 0, 1) := by decide +kernel
theorem dX11_requireAthlete_6 : decode cX11_requireAthlete 6 = .ok (.getfield 12, 3) := by decide +kernel
theorem dX11_requireAthlete_9 : decode cX11_requireAthlete 9 = .ok (.getfield 78, 3) := by decide +kernel
theorem dX11_requireAthlete_12 : decode cX11_requireAthlete 12 = .ok (.if_icmp .lt 14, 3) := by decide +kernel
theorem dX11_requireAthlete_15 : decode cX11_requireAthlete 15 = .ok (.new 299, 3) := by decide +kernel
theorem dX11_requireAthlete_18 : decode cX11_requireAthlete 18 = .ok (.dup, 1) := by decide +kernel
theorem dX11_requireAthlete_19 : decode cX11_requireAthlete 19 = .ok (.ldc_w 384, 3) := by decide +kernel
theorem dX11_requireAthlete_22 : decode cX11_requireAthlete 22 = .ok (.invokespecial 303, 3) := by decide +kernel
theorem dX11_requireAthlete_25 : decode cX11_requireAthlete 25 = .ok (.athrow, 1) := by decide +kernel
def zX11_eventAt_ws : List Cond := .code yX11_eventAt cX11_eventAt 3 (some (.object "HeatStadium$Event")) :: ([.classLink RX11 299 "java/lang/IndexOutOfBoundsException", .initialized "java/lang/IndexOutOfBoundsException", .fieldLink RX11 64 "HeatStadium" "eventCount" "I"] ++ (((vx_atS RX11 303 "java/lang/IndexOutOfBoundsException" ["java/lang/RuntimeException", "java/lang/Exception"]).filter goodWord) ++ (wsX110 ++ ([]))))
theorem zX11_eventAt_ws_good : zX11_eventAt_ws.all goodWord = true := by decide +kernel
set_option maxHeartbeats 4000000 in
set_option maxRecDepth 100000 in
/-- eventAt(n) of games without events: throws -/
theorem c_eventAt (l : Launch) (hst : l.stackTraces = false) (D : va_G) (sz : Nat) (h0 : Nat) (a : Nat → Nat) (x1 : Int32) : vx_Met l yX11_eventAt zX11_eventAt_ws (zR 0 1 6) (zPre [.ref h0, .int x1] D [(h0, .inr (17, zHS a))] [] (fun q : Nat => sz ≤ q) sz) (va_Qq (S := Unit) (fun _ _ => False) (fun _ _ => True) (fun q : Nat => sz ≤ q)) (zThr "java/lang/IndexOutOfBoundsException" (fun q : Nat => sz ≤ q)) 1 6 (fun q : Nat => sz ≤ q) := by
  refine vx_ofW (cc := cX11_eventAt) (maxL := 3) (ret := (some (.object "HeatStadium$Event"))) (by decide) rfl ?_
  intro p e s m args below meth c s₁ B hml ht hv
  obtain ⟨rfl, hsz, hP, hK, hD0, hz⟩ := hv
  have hx := B.exec
  have hb := B.bytes
  have hr := B.returns
  have hts := atoms_spec (ws := zX11_eventAt_ws) B.pre
  have hown : s.vm.findClass RX11 = some m.cls := findClass_of_methodNamed B.named
  have hlocks := B.notSynchronized
  subst hsz
  obtain ⟨A, hAe⟩ : ∃ A : Nat → Prop, A = (fun q : Nat => s.heap.size ≤ q) := ⟨_, rfl⟩
  rw [← hAe] at hz ⊢
  have hA : ∀ q : Nat, s.heap.size ≤ q → A q := fun q h => by rw [hAe]; exact h
  have hD := hD0
  have hS : va_S A s.heap s.heap [] := va_S.rf
  have hP : va_P D vwCl [(h0, .inr (17, zHS a))] s.heap := hP
  have hl := lv_entry ([.ref h0, .int x1]) (n := 3) (Nat.le_of_ble_eq_true rfl)
  rw [lg_entry_eq]
  generalize (lg_sl ([.ref h0, .int x1]) ++ List.replicate (3 - (lg_sl ([.ref h0, .int x1])).length) Slot.unset).toArray = ls at hl ⊢
  have hl : lv_has ls 3 [(0, .ref h0), (1, .int x1)] := hl
  refine lv_iload_n hx hb dX11_eventAt_0 rfl (lv_at hl 1 rfl) ?_
  refine lv_if_lt (tgt := 12) hx hb dX11_eventAt_1 (by decide) (fun c1 => ?_) (fun c1 => ?_)
  · obtain ⟨sa, hstr⟩ := hz.2.1 (RX11, 382, "no such event") (by decide +kernel)
    exact vx_throwSW (names := ["java/lang/RuntimeException", "java/lang/Exception"]) hx hb hst hown (by decide +kernel) (by decide +kernel) (hts (.classLink RX11 299 "java/lang/IndexOutOfBoundsException") (by decide +kernel)) (hts (.initialized "java/lang/IndexOutOfBoundsException") (by decide +kernel)) hstr (vx_hat (B := zWords) (fun w hw => hts w (List.mem_cons_of_mem _ (List.mem_append_right _ (List.mem_append_left _ hw)))) (by decide +kernel) (fun w hw => hz.w w hw)) (List.all_eq_true.mp (by decide +kernel)) hz.1.1 hz.1.2 hS (hml ▸ hl.1) dX11_eventAt_12 dX11_eventAt_15 dX11_eventAt_16 dX11_eventAt_19 dX11_eventAt_22 (fun x hx => (ht x hx).elim) (Nat.le_of_ble_eq_true rfl) (Nat.le_of_ble_eq_true rfl) (Nat.le_of_ble_eq_true rfl) (Nat.le_of_ble_eq_true rfl) hlocks (fun t _ h1 h2 => ⟨(), trivial, rfl, zF hS h1 h2⟩) hS.2.2 (Nat.le_of_ble_eq_true rfl) (Nat.le_of_ble_eq_true rfl)
  · refine lv_iload_n hx hb dX11_eventAt_4 rfl (lv_at hl 1 rfl) ?_
    refine lv_aload_n hx hb dX11_eventAt_5 rfl (lv_at hl 0 rfl) ?_
    refine va_get (D := D) (ci := 17) (v := .int 0) (C := RX11) (T := TX11) (N := 11) hx hb hts (by decide +kernel) hown hK hP 0 rfl rfl 8 (by decide) (hts (.fieldLink RX11 64 "HeatStadium" "eventCount" "I") (by decide +kernel)) (fun _ h9 => h9) rfl dX11_eventAt_6 ?_
    refine lv_icmp_lt (tgt := 23) hx hb dX11_eventAt_9 (by decide) (fun c9 => absurd c9 c1) (fun _ => ?_)
    obtain ⟨sa, hstr⟩ := hz.2.1 (RX11, 382, "no such event") (by decide +kernel)
    exact vx_throwSW (names := ["java/lang/RuntimeException", "java/lang/Exception"]) hx hb hst hown (by decide +kernel) (by decide +kernel) (hts (.classLink RX11 299 "java/lang/IndexOutOfBoundsException") (by decide +kernel)) (hts (.initialized "java/lang/IndexOutOfBoundsException") (by decide +kernel)) hstr (vx_hat (B := zWords) (fun w hw => hts w (List.mem_cons_of_mem _ (List.mem_append_right _ (List.mem_append_left _ hw)))) (by decide +kernel) (fun w hw => hz.w w hw)) (List.all_eq_true.mp (by decide +kernel)) hz.1.1 hz.1.2 hS (hml ▸ hl.1) dX11_eventAt_12 dX11_eventAt_15 dX11_eventAt_16 dX11_eventAt_19 dX11_eventAt_22 (fun x hx => (ht x hx).elim) (Nat.le_of_ble_eq_true rfl) (Nat.le_of_ble_eq_true rfl) (Nat.le_of_ble_eq_true rfl) (Nat.le_of_ble_eq_true rfl) hlocks (fun t _ h1 h2 => ⟨(), trivial, rfl, zF hS h1 h2⟩) hS.2.2 (Nat.le_of_ble_eq_true rfl) (Nat.le_of_ble_eq_true rfl)

def zX11_eventFor_ws : List Cond := .code yX11_eventFor cX11_eventFor 4 (some (.object "HeatStadium$Event")) :: ([.methodLink RX11 130 yX11_eventAt, .instanceMethod yX11_eventAt, .selects RX11 yX11_eventAt yX11_eventAt, .initialized RX11] ++ (zX11_eventAt_ws ++ ([])))
theorem zX11_eventFor_ws_good : zX11_eventFor_ws.all goodWord = true := by decide +kernel
set_option maxHeartbeats 4000000 in
set_option maxRecDepth 100000 in
/-- eventFor(n, k): throws -/
theorem c_eventFor (l : Launch) (hst : l.stackTraces = false) (D : va_G) (sz : Nat) (h0 : Nat) (a : Nat → Nat) (x1 x2 : Int32) : vx_Met l yX11_eventFor zX11_eventFor_ws (zR 1 1 6) (zPre [.ref h0, .int x1, .int x2] D [(h0, .inr (17, zHS a))] [] (fun q : Nat => sz ≤ q) sz) (va_Qq (S := Unit) (fun _ _ => False) (fun _ _ => True) (fun q : Nat => sz ≤ q)) (zThr "java/lang/IndexOutOfBoundsException" (fun q : Nat => sz ≤ q)) 1 6 (fun q : Nat => sz ≤ q) := by
  refine vx_ofW (cc := cX11_eventFor) (maxL := 4) (ret := (some (.object "HeatStadium$Event"))) (by decide) rfl ?_
  intro p e s m args below meth c s₁ B hml ht hv
  obtain ⟨rfl, hsz, hP, hK, hD0, hz⟩ := hv
  have hx := B.exec
  have hb := B.bytes
  have hr := B.returns
  have hts := atoms_spec (ws := zX11_eventFor_ws) B.pre
  have hown : s.vm.findClass RX11 = some m.cls := findClass_of_methodNamed B.named
  have hlocks := B.notSynchronized
  subst hsz
  obtain ⟨A, hAe⟩ : ∃ A : Nat → Prop, A = (fun q : Nat => s.heap.size ≤ q) := ⟨_, rfl⟩
  rw [← hAe] at hz ⊢
  have hA : ∀ q : Nat, s.heap.size ≤ q → A q := fun q h => by rw [hAe]; exact h
  have hD := hD0
  have hS : va_S A s.heap s.heap [] := va_S.rf
  have hP : va_P D vwCl [(h0, .inr (17, zHS a))] s.heap := hP
  have hl := lv_entry ([.ref h0, .int x1, .int x2]) (n := 4) (Nat.le_of_ble_eq_true rfl)
  rw [lg_entry_eq]
  generalize (lg_sl ([.ref h0, .int x1, .int x2]) ++ List.replicate (4 - (lg_sl ([.ref h0, .int x1, .int x2])).length) Slot.unset).toArray = ls at hl ⊢
  have hl : lv_has ls 4 [(0, .ref h0), (1, .int x1), (2, .int x2)] := hl
  refine lv_aload_n hx hb dX11_eventFor_0 rfl (lv_at hl 0 rfl) ?_
  refine lv_iload_n hx hb dX11_eventFor_1 rfl (lv_at hl 1 rfl) ?_
  have hPc := hP.sub (ws' := [(h0, .inr (17, zHS a))]) [0] rfl
  have hDc := hD.sub (ws' := [(h0, .inr (17, zHS a))]) [0] (by decide) rfl
  have hKc := hK.sub (tys' := []) [] rfl
  have hFc : ∀ q : Nat, s.heap.size ≤ q → A q := fun q h => hA q (Nat.le_trans hS.1 h)
  refine vx_callq (vx_runV (As := [.int x1]) (rest := []) ⟨hx, hb, hml, hown, hts⟩ (c_eventAt l hst D s.heap.size h0 a x1) (cwV 1 hts (goodIn_app (goodIn_of _ (by decide +kernel)) (goodIn_sub (fun _ h => List.mem_cons_of_mem _ (List.mem_append_right _ (List.mem_append_left _ h))) zX11_eventAt_ws_good)) rfl rfl rfl (by decide +kernel) ⟨Nat.le_of_ble_eq_true rfl, Nat.le_of_ble_eq_true rfl⟩) ⟨zPre.blind, va_recv hKc hPc (ci := 17) (q0 := 0) rfl rfl, zPre.mk hPc hKc hDc hz hS (fun q h => hFc q h)⟩ rfl rfl hl.1 rfl (lv_room (Nat.le_of_ble_eq_true rfl)) dX11_eventFor_2 ⟨Nat.le_of_ble_eq_true rfl, Nat.le_of_ble_eq_true rfl⟩) hS (fun q _ h => hFc q h) (fun q h => hFc q h) (fun q _ h => hFc q h) (fun E9 ce q9 u t H1 locs ht9 hvm hpx hBX hz1 hk1 hS hcell hv9 hcl => ?_) (fun _ _ t H1 locs _ _ hw _ _ _ _ => hw.elim)
  · cases hBX
    exact vx_out (fun x hx => (ht x hx).elim) hlocks hcell hv9 hcl (fun t9 ht9 _ => ⟨(), trivial, rfl, hS.F ht9⟩) hS.2.2 (Nat.le_of_ble_eq_true rfl) (Nat.le_of_ble_eq_true rfl)

def zX11_raceFor_ws : List Cond := .code yX11_raceFor cX11_raceFor 5 (some (.object "HeatStadium$Event")) :: ([.methodLink RX11 107 yX11_eventFor, .instanceMethod yX11_eventFor, .selects RX11 yX11_eventFor yX11_eventFor, .initialized RX11] ++ (zX11_eventFor_ws ++ ([])))
theorem zX11_raceFor_ws_good : zX11_raceFor_ws.all goodWord = true := by decide +kernel
set_option maxHeartbeats 4000000 in
set_option maxRecDepth 100000 in
/-- raceFor(n, r, k): throws -/
theorem c_raceFor (l : Launch) (hst : l.stackTraces = false) (D : va_G) (sz : Nat) (h0 : Nat) (a : Nat → Nat) (x1 x2 x3 : Int32) : vx_Met l yX11_raceFor zX11_raceFor_ws (zR 2 1 6) (zPre [.ref h0, .int x1, .int x2, .int x3] D [(h0, .inr (17, zHS a))] [] (fun q : Nat => sz ≤ q) sz) (va_Qq (S := Unit) (fun _ _ => False) (fun _ _ => True) (fun q : Nat => sz ≤ q)) (zThr "java/lang/IndexOutOfBoundsException" (fun q : Nat => sz ≤ q)) 1 6 (fun q : Nat => sz ≤ q) := by
  refine vx_ofW (cc := cX11_raceFor) (maxL := 5) (ret := (some (.object "HeatStadium$Event"))) (by decide) rfl ?_
  intro p e s m args below meth c s₁ B hml ht hv
  obtain ⟨rfl, hsz, hP, hK, hD0, hz⟩ := hv
  have hx := B.exec
  have hb := B.bytes
  have hr := B.returns
  have hts := atoms_spec (ws := zX11_raceFor_ws) B.pre
  have hown : s.vm.findClass RX11 = some m.cls := findClass_of_methodNamed B.named
  have hlocks := B.notSynchronized
  subst hsz
  obtain ⟨A, hAe⟩ : ∃ A : Nat → Prop, A = (fun q : Nat => s.heap.size ≤ q) := ⟨_, rfl⟩
  rw [← hAe] at hz ⊢
  have hA : ∀ q : Nat, s.heap.size ≤ q → A q := fun q h => by rw [hAe]; exact h
  have hD := hD0
  have hS : va_S A s.heap s.heap [] := va_S.rf
  have hP : va_P D vwCl [(h0, .inr (17, zHS a))] s.heap := hP
  have hl := lv_entry ([.ref h0, .int x1, .int x2, .int x3]) (n := 5) (Nat.le_of_ble_eq_true rfl)
  rw [lg_entry_eq]
  generalize (lg_sl ([.ref h0, .int x1, .int x2, .int x3]) ++ List.replicate (5 - (lg_sl ([.ref h0, .int x1, .int x2, .int x3])).length) Slot.unset).toArray = ls at hl ⊢
  have hl : lv_has ls 5 [(0, .ref h0), (1, .int x1), (2, .int x2), (3, .int x3)] := hl
  refine lv_aload_n hx hb dX11_raceFor_0 rfl (lv_at hl 0 rfl) ?_
  refine lv_iload_n hx hb dX11_raceFor_1 rfl (lv_at hl 1 rfl) ?_
  refine lv_iload_n hx hb dX11_raceFor_2 rfl (lv_at hl 3 rfl) ?_
  have hPc := hP.sub (ws' := [(h0, .inr (17, zHS a))]) [0] rfl
  have hDc := hD.sub (ws' := [(h0, .inr (17, zHS a))]) [0] (by decide) rfl
  have hKc := hK.sub (tys' := []) [] rfl
  have hFc : ∀ q : Nat, s.heap.size ≤ q → A q := fun q h => hA q (Nat.le_trans hS.1 h)
  refine vx_callq (vx_runV (As := [.int x1, .int x3]) (rest := []) ⟨hx, hb, hml, hown, hts⟩ (c_eventFor l hst D s.heap.size h0 a x1 x3) (cwV 2 hts (goodIn_app (goodIn_of _ (by decide +kernel)) (goodIn_sub (fun _ h => List.mem_cons_of_mem _ (List.mem_append_right _ (List.mem_append_left _ h))) zX11_eventFor_ws_good)) rfl rfl rfl (by decide +kernel) ⟨Nat.le_of_ble_eq_true rfl, Nat.le_of_ble_eq_true rfl⟩) ⟨zPre.blind, va_recv hKc hPc (ci := 17) (q0 := 0) rfl rfl, zPre.mk hPc hKc hDc hz hS (fun q h => hFc q h)⟩ rfl rfl hl.1 rfl (lv_room (Nat.le_of_ble_eq_true rfl)) dX11_raceFor_3 ⟨Nat.le_of_ble_eq_true rfl, Nat.le_of_ble_eq_true rfl⟩) hS (fun q _ h => hFc q h) (fun q h => hFc q h) (fun q _ h => hFc q h) (fun E9 ce q9 u t H1 locs ht9 hvm hpx hBX hz1 hk1 hS hcell hv9 hcl => ?_) (fun _ _ t H1 locs _ _ hw _ _ _ _ => hw.elim)
  · cases hBX
    exact vx_out (fun x hx => (ht x hx).elim) hlocks hcell hv9 hcl (fun t9 ht9 _ => ⟨(), trivial, rfl, hS.F ht9⟩) hS.2.2 (Nat.le_of_ble_eq_true rfl) (Nat.le_of_ble_eq_true rfl)

def zX11_requireAthlete_ws : List Cond := .code yX11_requireAthlete cX11_requireAthlete 2 none :: ([.classLink RX11 299 "java/lang/IndexOutOfBoundsException", .initialized "java/lang/IndexOutOfBoundsException", .fieldLink RX11 12 "HeatStadium" "athletes" "LHeatStadium$Athletes;"] ++ (((vx_atS RX11 303 "java/lang/IndexOutOfBoundsException" ["java/lang/RuntimeException", "java/lang/Exception"]).filter goodWord) ++ (wsX110 ++ (wsX00 ++ ([])))))
theorem zX11_requireAthlete_ws_good : zX11_requireAthlete_ws.all goodWord = true := by decide +kernel
set_option maxHeartbeats 4000000 in
set_option maxRecDepth 100000 in
/-- requireAthlete(k) of games without athletes: throws -/
theorem c_requireAthlete (l : Launch) (hst : l.stackTraces = false) (D : va_G) (sz : Nat) (h0 : Nat) (a : Nat → Nat) (a1 a2 : Nat) (x1 : Int32) : vx_Met l yX11_requireAthlete zX11_requireAthlete_ws (zR 0 1 6) (zPre [.ref h0, .int x1] D [(h0, .inr (17, zHS a)), ((a 0), .inr (6, [.ref a1, .ref a2, .int 0]))] [] (fun q : Nat => sz ≤ q) sz) (va_Qv (S := Unit) (fun _ => False) (fun _ _ => True) (fun q : Nat => sz ≤ q)) (zThr "java/lang/IndexOutOfBoundsException" (fun q : Nat => sz ≤ q)) 1 6 (fun q : Nat => sz ≤ q) := by
  refine vx_ofW (cc := cX11_requireAthlete) (maxL := 2) (ret := none) (by decide) rfl ?_
  intro p e s m args below meth c s₁ B hml ht hv
  obtain ⟨rfl, hsz, hP, hK, hD0, hz⟩ := hv
  have hx := B.exec
  have hb := B.bytes
  have hr := B.returns
  have hts := atoms_spec (ws := zX11_requireAthlete_ws) B.pre
  have hown : s.vm.findClass RX11 = some m.cls := findClass_of_methodNamed B.named
  have hlocks := B.notSynchronized
  subst hsz
  obtain ⟨A, hAe⟩ : ∃ A : Nat → Prop, A = (fun q : Nat => s.heap.size ≤ q) := ⟨_, rfl⟩
  rw [← hAe] at hz ⊢
  have hA : ∀ q : Nat, s.heap.size ≤ q → A q := fun q h => by rw [hAe]; exact h
  have hD := hD0
  have hS : va_S A s.heap s.heap [] := va_S.rf
  have hP : va_P D vwCl [(h0, .inr (17, zHS a)), ((a 0), .inr (6, [.ref a1, .ref a2, .int 0]))] s.heap := hP
  have hl := lv_entry ([.ref h0, .int x1]) (n := 2) (Nat.le_of_ble_eq_true rfl)
  rw [lg_entry_eq]
  generalize (lg_sl ([.ref h0, .int x1]) ++ List.replicate (2 - (lg_sl ([.ref h0, .int x1])).length) Slot.unset).toArray = ls at hl ⊢
  have hl : lv_has ls 2 [(0, .ref h0), (1, .int x1)] := hl
  refine lv_iload_n hx hb dX11_requireAthlete_0 rfl (lv_at hl 1 rfl) ?_
  refine lv_if_lt (tgt := 15) hx hb dX11_requireAthlete_1 (by decide) (fun c1 => ?_) (fun c1 => ?_)
  · obtain ⟨sa, hstr⟩ := hz.2.1 (RX11, 384, "no such athlete") (by decide +kernel)
    exact vx_throwSW (names := ["java/lang/RuntimeException", "java/lang/Exception"]) hx hb hst hown (by decide +kernel) (by decide +kernel) (hts (.classLink RX11 299 "java/lang/IndexOutOfBoundsException") (by decide +kernel)) (hts (.initialized "java/lang/IndexOutOfBoundsException") (by decide +kernel)) hstr (vx_hat (B := zWords) (fun w hw => hts w (List.mem_cons_of_mem _ (List.mem_append_right _ (List.mem_append_left _ hw)))) (by decide +kernel) (fun w hw => hz.w w hw)) (List.all_eq_true.mp (by decide +kernel)) hz.1.1 hz.1.2 hS (hml ▸ hl.1) dX11_requireAthlete_15 dX11_requireAthlete_18 dX11_requireAthlete_19 dX11_requireAthlete_22 dX11_requireAthlete_25 (fun x hx => (ht x hx).elim) (Nat.le_of_ble_eq_true rfl) (Nat.le_of_ble_eq_true rfl) (Nat.le_of_ble_eq_true rfl) (Nat.le_of_ble_eq_true rfl) hlocks (fun t _ h1 h2 => ⟨(), trivial, rfl, zF hS h1 h2⟩) hS.2.2 (Nat.le_of_ble_eq_true rfl) (Nat.le_of_ble_eq_true rfl)
  · refine lv_iload_n hx hb dX11_requireAthlete_4 rfl (lv_at hl 1 rfl) ?_
    refine lv_aload_n hx hb dX11_requireAthlete_5 rfl (lv_at hl 0 rfl) ?_
    refine va_get (D := D) (ci := 17) (v := .ref (a 0)) (C := RX11) (T := TX11) (N := 11) hx hb hts (by decide +kernel) hown hK hP 0 rfl rfl 0 (by decide) (hts (.fieldLink RX11 12 "HeatStadium" "athletes" "LHeatStadium$Athletes;") (by decide +kernel)) (fun _ h9 => h9) rfl dX11_requireAthlete_6 ?_
    refine va_getN (D := D) (ci := 6) (v := .int 0) (C := RX0) (T := TX0) (N := 3) hx hb hts (by decide +kernel) hown hK hP 1 rfl rfl 2 (by decide) (hz.w (.fieldLinkNest RX11 78 "HeatStadium$Athletes" "count" "I" RX11) (by decide +kernel)) (fun _ h9 => h9) rfl dX11_requireAthlete_9 ?_
    refine lv_icmp_lt (tgt := 26) hx hb dX11_requireAthlete_12 (by decide) (fun c9 => absurd c9 c1) (fun _ => ?_)
    obtain ⟨sa, hstr⟩ := hz.2.1 (RX11, 384, "no such athlete") (by decide +kernel)
    exact vx_throwSW (names := ["java/lang/RuntimeException", "java/lang/Exception"]) hx hb hst hown (by decide +kernel) (by decide +kernel) (hts (.classLink RX11 299 "java/lang/IndexOutOfBoundsException") (by decide +kernel)) (hts (.initialized "java/lang/IndexOutOfBoundsException") (by decide +kernel)) hstr (vx_hat (B := zWords) (fun w hw => hts w (List.mem_cons_of_mem _ (List.mem_append_right _ (List.mem_append_left _ hw)))) (by decide +kernel) (fun w hw => hz.w w hw)) (List.all_eq_true.mp (by decide +kernel)) hz.1.1 hz.1.2 hS (hml ▸ hl.1) dX11_requireAthlete_15 dX11_requireAthlete_18 dX11_requireAthlete_19 dX11_requireAthlete_22 dX11_requireAthlete_25 (fun x hx => (ht x hx).elim) (Nat.le_of_ble_eq_true rfl) (Nat.le_of_ble_eq_true rfl) (Nat.le_of_ble_eq_true rfl) (Nat.le_of_ble_eq_true rfl) hlocks (fun t _ h1 h2 => ⟨(), trivial, rfl, zF hS h1 h2⟩) hS.2.2 (Nat.le_of_ble_eq_true rfl) (Nat.le_of_ble_eq_true rfl)

def zX11_enter_ws : List Cond := .code yX11_enter cX11_enter 5 (some .int) :: ([.methodLink RX11 107 yX11_eventFor, .instanceMethod yX11_eventFor, .selects RX11 yX11_eventFor yX11_eventFor, .initialized RX11] ++ (zX11_eventFor_ws ++ ([])))
theorem zX11_enter_ws_good : zX11_enter_ws.all goodWord = true := by decide +kernel
set_option maxHeartbeats 4000000 in
set_option maxRecDepth 100000 in
/-- enter of games without events: throws -/
theorem c_enter (l : Launch) (hst : l.stackTraces = false) (D : va_G) (sz : Nat) (h0 : Nat) (a : Nat → Nat) (x1 x2 x3 : Int32) : vx_Met l yX11_enter zX11_enter_ws (zR 3 1 6) (zPre [.ref h0, .int x1, .int x2, .int x3] D [(h0, .inr (17, zHS a))] [] (fun q : Nat => sz ≤ q) sz) (va_Qi (S := Unit) (fun _ _ => False) (fun _ _ => True) (fun q : Nat => sz ≤ q)) (zThr "java/lang/IndexOutOfBoundsException" (fun q : Nat => sz ≤ q)) 1 6 (fun q : Nat => sz ≤ q) := by
  refine vx_ofW (cc := cX11_enter) (maxL := 5) (ret := (some .int)) (by decide) rfl ?_
  intro p e s m args below meth c s₁ B hml ht hv
  obtain ⟨rfl, hsz, hP, hK, hD0, hz⟩ := hv
  have hx := B.exec
  have hb := B.bytes
  have hr := B.returns
  have hts := atoms_spec (ws := zX11_enter_ws) B.pre
  have hown : s.vm.findClass RX11 = some m.cls := findClass_of_methodNamed B.named
  have hlocks := B.notSynchronized
  subst hsz
  obtain ⟨A, hAe⟩ : ∃ A : Nat → Prop, A = (fun q : Nat => s.heap.size ≤ q) := ⟨_, rfl⟩
  rw [← hAe] at hz ⊢
  have hA : ∀ q : Nat, s.heap.size ≤ q → A q := fun q h => by rw [hAe]; exact h
  have hD := hD0
  have hS : va_S A s.heap s.heap [] := va_S.rf
  have hP : va_P D vwCl [(h0, .inr (17, zHS a))] s.heap := hP
  have hl := lv_entry ([.ref h0, .int x1, .int x2, .int x3]) (n := 5) (Nat.le_of_ble_eq_true rfl)
  rw [lg_entry_eq]
  generalize (lg_sl ([.ref h0, .int x1, .int x2, .int x3]) ++ List.replicate (5 - (lg_sl ([.ref h0, .int x1, .int x2, .int x3])).length) Slot.unset).toArray = ls at hl ⊢
  have hl : lv_has ls 5 [(0, .ref h0), (1, .int x1), (2, .int x2), (3, .int x3)] := hl
  refine lv_aload_n hx hb dX11_enter_0 rfl (lv_at hl 0 rfl) ?_
  refine lv_iload_n hx hb dX11_enter_1 rfl (lv_at hl 1 rfl) ?_
  refine lv_iload_n hx hb dX11_enter_2 rfl (lv_at hl 2 rfl) ?_
  have hPc := hP.sub (ws' := [(h0, .inr (17, zHS a))]) [0] rfl
  have hDc := hD.sub (ws' := [(h0, .inr (17, zHS a))]) [0] (by decide) rfl
  have hKc := hK.sub (tys' := []) [] rfl
  have hFc : ∀ q : Nat, s.heap.size ≤ q → A q := fun q h => hA q (Nat.le_trans hS.1 h)
  refine vx_callq (vx_runV (As := [.int x1, .int x2]) (rest := []) ⟨hx, hb, hml, hown, hts⟩ (c_eventFor l hst D s.heap.size h0 a x1 x2) (cwV 2 hts (goodIn_app (goodIn_of _ (by decide +kernel)) (goodIn_sub (fun _ h => List.mem_cons_of_mem _ (List.mem_append_right _ (List.mem_append_left _ h))) zX11_eventFor_ws_good)) rfl rfl rfl (by decide +kernel) ⟨Nat.le_of_ble_eq_true rfl, Nat.le_of_ble_eq_true rfl⟩) ⟨zPre.blind, va_recv hKc hPc (ci := 17) (q0 := 0) rfl rfl, zPre.mk hPc hKc hDc hz hS (fun q h => hFc q h)⟩ rfl rfl hl.1 rfl (lv_room (Nat.le_of_ble_eq_true rfl)) dX11_enter_3 ⟨Nat.le_of_ble_eq_true rfl, Nat.le_of_ble_eq_true rfl⟩) hS (fun q _ h => hFc q h) (fun q h => hFc q h) (fun q _ h => hFc q h) (fun E9 ce q9 u t H1 locs ht9 hvm hpx hBX hz1 hk1 hS hcell hv9 hcl => ?_) (fun _ _ t H1 locs _ _ hw _ _ _ _ => hw.elim)
  · cases hBX
    exact vx_out (fun x hx => (ht x hx).elim) hlocks hcell hv9 hcl (fun t9 ht9 _ => ⟨(), trivial, rfl, hS.F ht9⟩) hS.2.2 (Nat.le_of_ble_eq_true rfl) (Nat.le_of_ble_eq_true rfl)

def zX11_withdraw_ws : List Cond := .code yX11_withdraw cX11_withdraw 6 (some .boolean) :: ([.methodLink RX11 107 yX11_eventFor, .instanceMethod yX11_eventFor, .selects RX11 yX11_eventFor yX11_eventFor, .initialized RX11] ++ (zX11_eventFor_ws ++ ([])))
theorem zX11_withdraw_ws_good : zX11_withdraw_ws.all goodWord = true := by decide +kernel
set_option maxHeartbeats 4000000 in
set_option maxRecDepth 100000 in
/-- withdraw of games without events: throws -/
theorem c_withdraw (l : Launch) (hst : l.stackTraces = false) (D : va_G) (sz : Nat) (h0 : Nat) (a : Nat → Nat) (x1 x2 x3 : Int32) : vx_Met l yX11_withdraw zX11_withdraw_ws (zR 3 1 6) (zPre [.ref h0, .int x1, .int x2, .int x3] D [(h0, .inr (17, zHS a))] [] (fun q : Nat => sz ≤ q) sz) (va_Qi (S := Unit) (fun _ _ => False) (fun _ _ => True) (fun q : Nat => sz ≤ q)) (zThr "java/lang/IndexOutOfBoundsException" (fun q : Nat => sz ≤ q)) 1 6 (fun q : Nat => sz ≤ q) := by
  refine vx_ofW (cc := cX11_withdraw) (maxL := 6) (ret := (some .boolean)) (by decide) rfl ?_
  intro p e s m args below meth c s₁ B hml ht hv
  obtain ⟨rfl, hsz, hP, hK, hD0, hz⟩ := hv
  have hx := B.exec
  have hb := B.bytes
  have hr := B.returns
  have hts := atoms_spec (ws := zX11_withdraw_ws) B.pre
  have hown : s.vm.findClass RX11 = some m.cls := findClass_of_methodNamed B.named
  have hlocks := B.notSynchronized
  subst hsz
  obtain ⟨A, hAe⟩ : ∃ A : Nat → Prop, A = (fun q : Nat => s.heap.size ≤ q) := ⟨_, rfl⟩
  rw [← hAe] at hz ⊢
  have hA : ∀ q : Nat, s.heap.size ≤ q → A q := fun q h => by rw [hAe]; exact h
  have hD := hD0
  have hS : va_S A s.heap s.heap [] := va_S.rf
  have hP : va_P D vwCl [(h0, .inr (17, zHS a))] s.heap := hP
  have hl := lv_entry ([.ref h0, .int x1, .int x2, .int x3]) (n := 6) (Nat.le_of_ble_eq_true rfl)
  rw [lg_entry_eq]
  generalize (lg_sl ([.ref h0, .int x1, .int x2, .int x3]) ++ List.replicate (6 - (lg_sl ([.ref h0, .int x1, .int x2, .int x3])).length) Slot.unset).toArray = ls at hl ⊢
  have hl : lv_has ls 6 [(0, .ref h0), (1, .int x1), (2, .int x2), (3, .int x3)] := hl
  refine lv_aload_n hx hb dX11_withdraw_0 rfl (lv_at hl 0 rfl) ?_
  refine lv_iload_n hx hb dX11_withdraw_1 rfl (lv_at hl 1 rfl) ?_
  refine lv_iload_n hx hb dX11_withdraw_2 rfl (lv_at hl 2 rfl) ?_
  have hPc := hP.sub (ws' := [(h0, .inr (17, zHS a))]) [0] rfl
  have hDc := hD.sub (ws' := [(h0, .inr (17, zHS a))]) [0] (by decide) rfl
  have hKc := hK.sub (tys' := []) [] rfl
  have hFc : ∀ q : Nat, s.heap.size ≤ q → A q := fun q h => hA q (Nat.le_trans hS.1 h)
  refine vx_callq (vx_runV (As := [.int x1, .int x2]) (rest := []) ⟨hx, hb, hml, hown, hts⟩ (c_eventFor l hst D s.heap.size h0 a x1 x2) (cwV 2 hts (goodIn_app (goodIn_of _ (by decide +kernel)) (goodIn_sub (fun _ h => List.mem_cons_of_mem _ (List.mem_append_right _ (List.mem_append_left _ h))) zX11_eventFor_ws_good)) rfl rfl rfl (by decide +kernel) ⟨Nat.le_of_ble_eq_true rfl, Nat.le_of_ble_eq_true rfl⟩) ⟨zPre.blind, va_recv hKc hPc (ci := 17) (q0 := 0) rfl rfl, zPre.mk hPc hKc hDc hz hS (fun q h => hFc q h)⟩ rfl rfl hl.1 rfl (lv_room (Nat.le_of_ble_eq_true rfl)) dX11_withdraw_3 ⟨Nat.le_of_ble_eq_true rfl, Nat.le_of_ble_eq_true rfl⟩) hS (fun q _ h => hFc q h) (fun q h => hFc q h) (fun q _ h => hFc q h) (fun E9 ce q9 u t H1 locs ht9 hvm hpx hBX hz1 hk1 hS hcell hv9 hcl => ?_) (fun _ _ t H1 locs _ _ hw _ _ _ _ => hw.elim)
  · cases hBX
    exact vx_out (fun x hx => (ht x hx).elim) hlocks hcell hv9 hcl (fun t9 ht9 _ => ⟨(), trivial, rfl, hS.F ht9⟩) hS.2.2 (Nat.le_of_ble_eq_true rfl) (Nat.le_of_ble_eq_true rfl)

def zX11_field_ws : List Cond := .code yX11_field cX11_field 2 (some .int) :: ([.fieldLink RX11 32 "HeatStadium" "fieldNow" "LHeatStadium$FieldNow;", .methodLink RX11 130 yX11_eventAt, .instanceMethod yX11_eventAt, .selects RX11 yX11_eventAt yX11_eventAt, .initialized RX11] ++ (wsX110 ++ (zX11_eventAt_ws ++ ([]))))
theorem zX11_field_ws_good : zX11_field_ws.all goodWord = true := by decide +kernel
set_option maxHeartbeats 4000000 in
set_option maxRecDepth 100000 in
/-- field of games without events: throws -/
theorem c_field (l : Launch) (hst : l.stackTraces = false) (D : va_G) (sz : Nat) (h0 : Nat) (a : Nat → Nat) (x1 : Int32) : vx_Met l yX11_field zX11_field_ws (zR 3 1 6) (zPre [.ref h0, .int x1] D [(h0, .inr (17, zHS a))] [] (fun q : Nat => sz ≤ q) sz) (va_Qi (S := Unit) (fun _ _ => False) (fun _ _ => True) (fun q : Nat => sz ≤ q)) (zThr "java/lang/IndexOutOfBoundsException" (fun q : Nat => sz ≤ q)) 1 6 (fun q : Nat => sz ≤ q) := by
  refine vx_ofW (cc := cX11_field) (maxL := 2) (ret := (some .int)) (by decide) rfl ?_
  intro p e s m args below meth c s₁ B hml ht hv
  obtain ⟨rfl, hsz, hP, hK, hD0, hz⟩ := hv
  have hx := B.exec
  have hb := B.bytes
  have hr := B.returns
  have hts := atoms_spec (ws := zX11_field_ws) B.pre
  have hown : s.vm.findClass RX11 = some m.cls := findClass_of_methodNamed B.named
  have hlocks := B.notSynchronized
  subst hsz
  obtain ⟨A, hAe⟩ : ∃ A : Nat → Prop, A = (fun q : Nat => s.heap.size ≤ q) := ⟨_, rfl⟩
  rw [← hAe] at hz ⊢
  have hA : ∀ q : Nat, s.heap.size ≤ q → A q := fun q h => by rw [hAe]; exact h
  have hD := hD0
  have hS : va_S A s.heap s.heap [] := va_S.rf
  have hP : va_P D vwCl [(h0, .inr (17, zHS a))] s.heap := hP
  have hl := lv_entry ([.ref h0, .int x1]) (n := 2) (Nat.le_of_ble_eq_true rfl)
  rw [lg_entry_eq]
  generalize (lg_sl ([.ref h0, .int x1]) ++ List.replicate (2 - (lg_sl ([.ref h0, .int x1])).length) Slot.unset).toArray = ls at hl ⊢
  have hl : lv_has ls 2 [(0, .ref h0), (1, .int x1)] := hl
  refine lv_aload_n hx hb dX11_field_0 rfl (lv_at hl 0 rfl) ?_
  refine va_get (D := D) (ci := 17) (v := .ref (a 3)) (C := RX11) (T := TX11) (N := 11) hx hb hts (by decide +kernel) hown hK hP 0 rfl rfl 3 (by decide) (hts (.fieldLink RX11 32 "HeatStadium" "fieldNow" "LHeatStadium$FieldNow;") (by decide +kernel)) (fun _ h9 => h9) rfl dX11_field_1 ?_
  refine lv_aload_n hx hb dX11_field_4 rfl (lv_at hl 0 rfl) ?_
  refine lv_iload_n hx hb dX11_field_5 rfl (lv_at hl 1 rfl) ?_
  have hPc := hP.sub (ws' := [(h0, .inr (17, zHS a))]) [0] rfl
  have hDc := hD.sub (ws' := [(h0, .inr (17, zHS a))]) [0] (by decide) rfl
  have hKc := hK.sub (tys' := []) [] rfl
  have hFc : ∀ q : Nat, s.heap.size ≤ q → A q := fun q h => hA q (Nat.le_trans hS.1 h)
  refine vx_callq (vx_runV (As := [.int x1]) (rest := [.ref (a 3)]) ⟨hx, hb, hml, hown, hts⟩ (c_eventAt l hst D s.heap.size h0 a x1) (cwV 1 hts (goodIn_app (goodIn_of _ (by decide +kernel)) (goodIn_sub (fun _ h => List.mem_cons_of_mem _ (List.mem_append_right _ (List.mem_append_right _ (List.mem_append_left _ h)))) zX11_eventAt_ws_good)) rfl rfl rfl (by decide +kernel) ⟨Nat.le_of_ble_eq_true rfl, Nat.le_of_ble_eq_true rfl⟩) ⟨zPre.blind, va_recv hKc hPc (ci := 17) (q0 := 0) rfl rfl, zPre.mk hPc hKc hDc hz hS (fun q h => hFc q h)⟩ rfl rfl hl.1 rfl (lv_room (Nat.le_of_ble_eq_true rfl)) dX11_field_6 ⟨Nat.le_of_ble_eq_true rfl, Nat.le_of_ble_eq_true rfl⟩) hS (fun q _ h => hFc q h) (fun q h => hFc q h) (fun q _ h => hFc q h) (fun E9 ce q9 u t H1 locs ht9 hvm hpx hBX hz1 hk1 hS hcell hv9 hcl => ?_) (fun _ _ t H1 locs _ _ hw _ _ _ _ => hw.elim)
  · cases hBX
    exact vx_out (fun x hx => (ht x hx).elim) hlocks hcell hv9 hcl (fun t9 ht9 _ => ⟨(), trivial, rfl, hS.F ht9⟩) hS.2.2 (Nat.le_of_ble_eq_true rfl) (Nat.le_of_ble_eq_true rfl)

def zX11_inField_ws : List Cond := .code yX11_inField cX11_inField 3 (some .int) :: ([.fieldLink RX11 32 "HeatStadium" "fieldNow" "LHeatStadium$FieldNow;", .methodLink RX11 130 yX11_eventAt, .instanceMethod yX11_eventAt, .selects RX11 yX11_eventAt yX11_eventAt, .initialized RX11] ++ (wsX110 ++ (zX11_eventAt_ws ++ ([]))))
theorem zX11_inField_ws_good : zX11_inField_ws.all goodWord = true := by decide +kernel
set_option maxHeartbeats 4000000 in
set_option maxRecDepth 100000 in
/-- inField of games without events: throws -/
theorem c_inField (l : Launch) (hst : l.stackTraces = false) (D : va_G) (sz : Nat) (h0 : Nat) (a : Nat → Nat) (x1 x2 : Int32) : vx_Met l yX11_inField zX11_inField_ws (zR 3 1 6) (zPre [.ref h0, .int x1, .int x2] D [(h0, .inr (17, zHS a))] [] (fun q : Nat => sz ≤ q) sz) (va_Qi (S := Unit) (fun _ _ => False) (fun _ _ => True) (fun q : Nat => sz ≤ q)) (zThr "java/lang/IndexOutOfBoundsException" (fun q : Nat => sz ≤ q)) 1 6 (fun q : Nat => sz ≤ q) := by
  refine vx_ofW (cc := cX11_inField) (maxL := 3) (ret := (some .int)) (by decide) rfl ?_
  intro p e s m args below meth c s₁ B hml ht hv
  obtain ⟨rfl, hsz, hP, hK, hD0, hz⟩ := hv
  have hx := B.exec
  have hb := B.bytes
  have hr := B.returns
  have hts := atoms_spec (ws := zX11_inField_ws) B.pre
  have hown : s.vm.findClass RX11 = some m.cls := findClass_of_methodNamed B.named
  have hlocks := B.notSynchronized
  subst hsz
  obtain ⟨A, hAe⟩ : ∃ A : Nat → Prop, A = (fun q : Nat => s.heap.size ≤ q) := ⟨_, rfl⟩
  rw [← hAe] at hz ⊢
  have hA : ∀ q : Nat, s.heap.size ≤ q → A q := fun q h => by rw [hAe]; exact h
  have hD := hD0
  have hS : va_S A s.heap s.heap [] := va_S.rf
  have hP : va_P D vwCl [(h0, .inr (17, zHS a))] s.heap := hP
  have hl := lv_entry ([.ref h0, .int x1, .int x2]) (n := 3) (Nat.le_of_ble_eq_true rfl)
  rw [lg_entry_eq]
  generalize (lg_sl ([.ref h0, .int x1, .int x2]) ++ List.replicate (3 - (lg_sl ([.ref h0, .int x1, .int x2])).length) Slot.unset).toArray = ls at hl ⊢
  have hl : lv_has ls 3 [(0, .ref h0), (1, .int x1), (2, .int x2)] := hl
  refine lv_aload_n hx hb dX11_inField_0 rfl (lv_at hl 0 rfl) ?_
  refine va_get (D := D) (ci := 17) (v := .ref (a 3)) (C := RX11) (T := TX11) (N := 11) hx hb hts (by decide +kernel) hown hK hP 0 rfl rfl 3 (by decide) (hts (.fieldLink RX11 32 "HeatStadium" "fieldNow" "LHeatStadium$FieldNow;") (by decide +kernel)) (fun _ h9 => h9) rfl dX11_inField_1 ?_
  refine lv_aload_n hx hb dX11_inField_4 rfl (lv_at hl 0 rfl) ?_
  refine lv_iload_n hx hb dX11_inField_5 rfl (lv_at hl 1 rfl) ?_
  have hPc := hP.sub (ws' := [(h0, .inr (17, zHS a))]) [0] rfl
  have hDc := hD.sub (ws' := [(h0, .inr (17, zHS a))]) [0] (by decide) rfl
  have hKc := hK.sub (tys' := []) [] rfl
  have hFc : ∀ q : Nat, s.heap.size ≤ q → A q := fun q h => hA q (Nat.le_trans hS.1 h)
  refine vx_callq (vx_runV (As := [.int x1]) (rest := [.ref (a 3)]) ⟨hx, hb, hml, hown, hts⟩ (c_eventAt l hst D s.heap.size h0 a x1) (cwV 1 hts (goodIn_app (goodIn_of _ (by decide +kernel)) (goodIn_sub (fun _ h => List.mem_cons_of_mem _ (List.mem_append_right _ (List.mem_append_right _ (List.mem_append_left _ h)))) zX11_eventAt_ws_good)) rfl rfl rfl (by decide +kernel) ⟨Nat.le_of_ble_eq_true rfl, Nat.le_of_ble_eq_true rfl⟩) ⟨zPre.blind, va_recv hKc hPc (ci := 17) (q0 := 0) rfl rfl, zPre.mk hPc hKc hDc hz hS (fun q h => hFc q h)⟩ rfl rfl hl.1 rfl (lv_room (Nat.le_of_ble_eq_true rfl)) dX11_inField_6 ⟨Nat.le_of_ble_eq_true rfl, Nat.le_of_ble_eq_true rfl⟩) hS (fun q _ h => hFc q h) (fun q h => hFc q h) (fun q _ h => hFc q h) (fun E9 ce q9 u t H1 locs ht9 hvm hpx hBX hz1 hk1 hS hcell hv9 hcl => ?_) (fun _ _ t H1 locs _ _ hw _ _ _ _ => hw.elim)
  · cases hBX
    exact vx_out (fun x hx => (ht x hx).elim) hlocks hcell hv9 hcl (fun t9 ht9 _ => ⟨(), trivial, rfl, hS.F ht9⟩) hS.2.2 (Nat.le_of_ble_eq_true rfl) (Nat.le_of_ble_eq_true rfl)

def zX11_heatOf_ws : List Cond := .code yX11_heatOf cX11_heatOf 4 (some .int) :: ([.methodLink RX11 107 yX11_eventFor, .instanceMethod yX11_eventFor, .selects RX11 yX11_eventFor yX11_eventFor, .initialized RX11] ++ (zX11_eventFor_ws ++ ([])))
theorem zX11_heatOf_ws_good : zX11_heatOf_ws.all goodWord = true := by decide +kernel
set_option maxHeartbeats 4000000 in
set_option maxRecDepth 100000 in
/-- heatOf of games without events: throws -/
theorem c_heatOf (l : Launch) (hst : l.stackTraces = false) (D : va_G) (sz : Nat) (h0 : Nat) (a : Nat → Nat) (x1 x2 : Int32) : vx_Met l yX11_heatOf zX11_heatOf_ws (zR 3 1 6) (zPre [.ref h0, .int x1, .int x2] D [(h0, .inr (17, zHS a))] [] (fun q : Nat => sz ≤ q) sz) (va_Qi (S := Unit) (fun _ _ => False) (fun _ _ => True) (fun q : Nat => sz ≤ q)) (zThr "java/lang/IndexOutOfBoundsException" (fun q : Nat => sz ≤ q)) 1 6 (fun q : Nat => sz ≤ q) := by
  refine vx_ofW (cc := cX11_heatOf) (maxL := 4) (ret := (some .int)) (by decide) rfl ?_
  intro p e s m args below meth c s₁ B hml ht hv
  obtain ⟨rfl, hsz, hP, hK, hD0, hz⟩ := hv
  have hx := B.exec
  have hb := B.bytes
  have hr := B.returns
  have hts := atoms_spec (ws := zX11_heatOf_ws) B.pre
  have hown : s.vm.findClass RX11 = some m.cls := findClass_of_methodNamed B.named
  have hlocks := B.notSynchronized
  subst hsz
  obtain ⟨A, hAe⟩ : ∃ A : Nat → Prop, A = (fun q : Nat => s.heap.size ≤ q) := ⟨_, rfl⟩
  rw [← hAe] at hz ⊢
  have hA : ∀ q : Nat, s.heap.size ≤ q → A q := fun q h => by rw [hAe]; exact h
  have hD := hD0
  have hS : va_S A s.heap s.heap [] := va_S.rf
  have hP : va_P D vwCl [(h0, .inr (17, zHS a))] s.heap := hP
  have hl := lv_entry ([.ref h0, .int x1, .int x2]) (n := 4) (Nat.le_of_ble_eq_true rfl)
  rw [lg_entry_eq]
  generalize (lg_sl ([.ref h0, .int x1, .int x2]) ++ List.replicate (4 - (lg_sl ([.ref h0, .int x1, .int x2])).length) Slot.unset).toArray = ls at hl ⊢
  have hl : lv_has ls 4 [(0, .ref h0), (1, .int x1), (2, .int x2)] := hl
  refine lv_aload_n hx hb dX11_heatOf_0 rfl (lv_at hl 0 rfl) ?_
  refine lv_iload_n hx hb dX11_heatOf_1 rfl (lv_at hl 1 rfl) ?_
  refine lv_iload_n hx hb dX11_heatOf_2 rfl (lv_at hl 2 rfl) ?_
  have hPc := hP.sub (ws' := [(h0, .inr (17, zHS a))]) [0] rfl
  have hDc := hD.sub (ws' := [(h0, .inr (17, zHS a))]) [0] (by decide) rfl
  have hKc := hK.sub (tys' := []) [] rfl
  have hFc : ∀ q : Nat, s.heap.size ≤ q → A q := fun q h => hA q (Nat.le_trans hS.1 h)
  refine vx_callq (vx_runV (As := [.int x1, .int x2]) (rest := []) ⟨hx, hb, hml, hown, hts⟩ (c_eventFor l hst D s.heap.size h0 a x1 x2) (cwV 2 hts (goodIn_app (goodIn_of _ (by decide +kernel)) (goodIn_sub (fun _ h => List.mem_cons_of_mem _ (List.mem_append_right _ (List.mem_append_left _ h))) zX11_eventFor_ws_good)) rfl rfl rfl (by decide +kernel) ⟨Nat.le_of_ble_eq_true rfl, Nat.le_of_ble_eq_true rfl⟩) ⟨zPre.blind, va_recv hKc hPc (ci := 17) (q0 := 0) rfl rfl, zPre.mk hPc hKc hDc hz hS (fun q h => hFc q h)⟩ rfl rfl hl.1 rfl (lv_room (Nat.le_of_ble_eq_true rfl)) dX11_heatOf_3 ⟨Nat.le_of_ble_eq_true rfl, Nat.le_of_ble_eq_true rfl⟩) hS (fun q _ h => hFc q h) (fun q h => hFc q h) (fun q _ h => hFc q h) (fun E9 ce q9 u t H1 locs ht9 hvm hpx hBX hz1 hk1 hS hcell hv9 hcl => ?_) (fun _ _ t H1 locs _ _ hw _ _ _ _ => hw.elim)
  · cases hBX
    exact vx_out (fun x hx => (ht x hx).elim) hlocks hcell hv9 hcl (fun t9 ht9 _ => ⟨(), trivial, rfl, hS.F ht9⟩) hS.2.2 (Nat.le_of_ble_eq_true rfl) (Nat.le_of_ble_eq_true rfl)

def zX11_laneOf_ws : List Cond := .code yX11_laneOf cX11_laneOf 6 (some .int) :: ([.methodLink RX11 161 yX11_raceFor, .instanceMethod yX11_raceFor, .selects RX11 yX11_raceFor yX11_raceFor, .initialized RX11] ++ (zX11_raceFor_ws ++ ([])))
theorem zX11_laneOf_ws_good : zX11_laneOf_ws.all goodWord = true := by decide +kernel
set_option maxHeartbeats 4000000 in
set_option maxRecDepth 100000 in
/-- laneOf of games without events: throws -/
theorem c_laneOf (l : Launch) (hst : l.stackTraces = false) (D : va_G) (sz : Nat) (h0 : Nat) (a : Nat → Nat) (x1 x2 x3 : Int32) : vx_Met l yX11_laneOf zX11_laneOf_ws (zR 3 1 6) (zPre [.ref h0, .int x1, .int x2, .int x3] D [(h0, .inr (17, zHS a))] [] (fun q : Nat => sz ≤ q) sz) (va_Qi (S := Unit) (fun _ _ => False) (fun _ _ => True) (fun q : Nat => sz ≤ q)) (zThr "java/lang/IndexOutOfBoundsException" (fun q : Nat => sz ≤ q)) 1 6 (fun q : Nat => sz ≤ q) := by
  refine vx_ofW (cc := cX11_laneOf) (maxL := 6) (ret := (some .int)) (by decide) rfl ?_
  intro p e s m args below meth c s₁ B hml ht hv
  obtain ⟨rfl, hsz, hP, hK, hD0, hz⟩ := hv
  have hx := B.exec
  have hb := B.bytes
  have hr := B.returns
  have hts := atoms_spec (ws := zX11_laneOf_ws) B.pre
  have hown : s.vm.findClass RX11 = some m.cls := findClass_of_methodNamed B.named
  have hlocks := B.notSynchronized
  subst hsz
  obtain ⟨A, hAe⟩ : ∃ A : Nat → Prop, A = (fun q : Nat => s.heap.size ≤ q) := ⟨_, rfl⟩
  rw [← hAe] at hz ⊢
  have hA : ∀ q : Nat, s.heap.size ≤ q → A q := fun q h => by rw [hAe]; exact h
  have hD := hD0
  have hS : va_S A s.heap s.heap [] := va_S.rf
  have hP : va_P D vwCl [(h0, .inr (17, zHS a))] s.heap := hP
  have hl := lv_entry ([.ref h0, .int x1, .int x2, .int x3]) (n := 6) (Nat.le_of_ble_eq_true rfl)
  rw [lg_entry_eq]
  generalize (lg_sl ([.ref h0, .int x1, .int x2, .int x3]) ++ List.replicate (6 - (lg_sl ([.ref h0, .int x1, .int x2, .int x3])).length) Slot.unset).toArray = ls at hl ⊢
  have hl : lv_has ls 6 [(0, .ref h0), (1, .int x1), (2, .int x2), (3, .int x3)] := hl
  refine lv_aload_n hx hb dX11_laneOf_0 rfl (lv_at hl 0 rfl) ?_
  refine lv_iload_n hx hb dX11_laneOf_1 rfl (lv_at hl 1 rfl) ?_
  refine lv_iload_n hx hb dX11_laneOf_2 rfl (lv_at hl 2 rfl) ?_
  refine lv_iload_n hx hb dX11_laneOf_3 rfl (lv_at hl 3 rfl) ?_
  have hPc := hP.sub (ws' := [(h0, .inr (17, zHS a))]) [0] rfl
  have hDc := hD.sub (ws' := [(h0, .inr (17, zHS a))]) [0] (by decide) rfl
  have hKc := hK.sub (tys' := []) [] rfl
  have hFc : ∀ q : Nat, s.heap.size ≤ q → A q := fun q h => hA q (Nat.le_trans hS.1 h)
  refine vx_callq (vx_runV (As := [.int x1, .int x2, .int x3]) (rest := []) ⟨hx, hb, hml, hown, hts⟩ (c_raceFor l hst D s.heap.size h0 a x1 x2 x3) (cwV 3 hts (goodIn_app (goodIn_of _ (by decide +kernel)) (goodIn_sub (fun _ h => List.mem_cons_of_mem _ (List.mem_append_right _ (List.mem_append_left _ h))) zX11_raceFor_ws_good)) rfl rfl rfl (by decide +kernel) ⟨Nat.le_of_ble_eq_true rfl, Nat.le_of_ble_eq_true rfl⟩) ⟨zPre.blind, va_recv hKc hPc (ci := 17) (q0 := 0) rfl rfl, zPre.mk hPc hKc hDc hz hS (fun q h => hFc q h)⟩ rfl rfl hl.1 rfl (lv_room (Nat.le_of_ble_eq_true rfl)) dX11_laneOf_4 ⟨Nat.le_of_ble_eq_true rfl, Nat.le_of_ble_eq_true rfl⟩) hS (fun q _ h => hFc q h) (fun q h => hFc q h) (fun q _ h => hFc q h) (fun E9 ce q9 u t H1 locs ht9 hvm hpx hBX hz1 hk1 hS hcell hv9 hcl => ?_) (fun _ _ t H1 locs _ _ hw _ _ _ _ => hw.elim)
  · cases hBX
    exact vx_out (fun x hx => (ht x hx).elim) hlocks hcell hv9 hcl (fun t9 ht9 _ => ⟨(), trivial, rfl, hS.F ht9⟩) hS.2.2 (Nat.le_of_ble_eq_true rfl) (Nat.le_of_ble_eq_true rfl)

def zX11_time_ws : List Cond := .code yX11_time cX11_time 10 (some .int) :: ([.methodLink RX11 107 yX11_eventFor, .instanceMethod yX11_eventFor, .selects RX11 yX11_eventFor yX11_eventFor, .initialized RX11] ++ (zX11_eventFor_ws ++ ([])))
theorem zX11_time_ws_good : zX11_time_ws.all goodWord = true := by decide +kernel
set_option maxHeartbeats 4000000 in
set_option maxRecDepth 100000 in
/-- time of games without events: throws -/
theorem c_time (l : Launch) (hst : l.stackTraces = false) (D : va_G) (sz : Nat) (h0 : Nat) (a : Nat → Nat) (x1 x2 x3 x4 x5 x6 : Int32) : vx_Met l yX11_time zX11_time_ws (zR 3 1 6) (zPre [.ref h0, .int x1, .int x2, .int x3, .int x4, .int x5, .int x6] D [(h0, .inr (17, zHS a))] [] (fun q : Nat => sz ≤ q) sz) (va_Qi (S := Unit) (fun _ _ => False) (fun _ _ => True) (fun q : Nat => sz ≤ q)) (zThr "java/lang/IndexOutOfBoundsException" (fun q : Nat => sz ≤ q)) 1 6 (fun q : Nat => sz ≤ q) := by
  refine vx_ofW (cc := cX11_time) (maxL := 10) (ret := (some .int)) (by decide) rfl ?_
  intro p e s m args below meth c s₁ B hml ht hv
  obtain ⟨rfl, hsz, hP, hK, hD0, hz⟩ := hv
  have hx := B.exec
  have hb := B.bytes
  have hr := B.returns
  have hts := atoms_spec (ws := zX11_time_ws) B.pre
  have hown : s.vm.findClass RX11 = some m.cls := findClass_of_methodNamed B.named
  have hlocks := B.notSynchronized
  subst hsz
  obtain ⟨A, hAe⟩ : ∃ A : Nat → Prop, A = (fun q : Nat => s.heap.size ≤ q) := ⟨_, rfl⟩
  rw [← hAe] at hz ⊢
  have hA : ∀ q : Nat, s.heap.size ≤ q → A q := fun q h => by rw [hAe]; exact h
  have hD := hD0
  have hS : va_S A s.heap s.heap [] := va_S.rf
  have hP : va_P D vwCl [(h0, .inr (17, zHS a))] s.heap := hP
  have hl := lv_entry ([.ref h0, .int x1, .int x2, .int x3, .int x4, .int x5, .int x6]) (n := 10) (Nat.le_of_ble_eq_true rfl)
  rw [lg_entry_eq]
  generalize (lg_sl ([.ref h0, .int x1, .int x2, .int x3, .int x4, .int x5, .int x6]) ++ List.replicate (10 - (lg_sl ([.ref h0, .int x1, .int x2, .int x3, .int x4, .int x5, .int x6])).length) Slot.unset).toArray = ls at hl ⊢
  have hl : lv_has ls 10 [(0, .ref h0), (1, .int x1), (2, .int x2), (3, .int x3), (4, .int x4), (5, .int x5), (6, .int x6)] := hl
  refine lv_aload_n hx hb dX11_time_0 rfl (lv_at hl 0 rfl) ?_
  refine lv_iload_n hx hb dX11_time_1 rfl (lv_at hl 1 rfl) ?_
  refine lv_iload_n hx hb dX11_time_2 rfl (lv_at hl 3 rfl) ?_
  have hPc := hP.sub (ws' := [(h0, .inr (17, zHS a))]) [0] rfl
  have hDc := hD.sub (ws' := [(h0, .inr (17, zHS a))]) [0] (by decide) rfl
  have hKc := hK.sub (tys' := []) [] rfl
  have hFc : ∀ q : Nat, s.heap.size ≤ q → A q := fun q h => hA q (Nat.le_trans hS.1 h)
  refine vx_callq (vx_runV (As := [.int x1, .int x3]) (rest := []) ⟨hx, hb, hml, hown, hts⟩ (c_eventFor l hst D s.heap.size h0 a x1 x3) (cwV 2 hts (goodIn_app (goodIn_of _ (by decide +kernel)) (goodIn_sub (fun _ h => List.mem_cons_of_mem _ (List.mem_append_right _ (List.mem_append_left _ h))) zX11_eventFor_ws_good)) rfl rfl rfl (by decide +kernel) ⟨Nat.le_of_ble_eq_true rfl, Nat.le_of_ble_eq_true rfl⟩) ⟨zPre.blind, va_recv hKc hPc (ci := 17) (q0 := 0) rfl rfl, zPre.mk hPc hKc hDc hz hS (fun q h => hFc q h)⟩ rfl rfl hl.1 rfl (lv_room (Nat.le_of_ble_eq_true rfl)) dX11_time_3 ⟨Nat.le_of_ble_eq_true rfl, Nat.le_of_ble_eq_true rfl⟩) hS (fun q _ h => hFc q h) (fun q h => hFc q h) (fun q _ h => hFc q h) (fun E9 ce q9 u t H1 locs ht9 hvm hpx hBX hz1 hk1 hS hcell hv9 hcl => ?_) (fun _ _ t H1 locs _ _ hw _ _ _ _ => hw.elim)
  · cases hBX
    exact vx_out (fun x hx => (ht x hx).elim) hlocks hcell hv9 hcl (fun t9 ht9 _ => ⟨(), trivial, rfl, hS.F ht9⟩) hS.2.2 (Nat.le_of_ble_eq_true rfl) (Nat.le_of_ble_eq_true rfl)

def zX11_react_ws : List Cond := .code yX11_react cX11_react 8 (some .boolean) :: ([.methodLink RX11 107 yX11_eventFor, .instanceMethod yX11_eventFor, .selects RX11 yX11_eventFor yX11_eventFor, .initialized RX11] ++ (zX11_eventFor_ws ++ ([])))
theorem zX11_react_ws_good : zX11_react_ws.all goodWord = true := by decide +kernel
set_option maxHeartbeats 4000000 in
set_option maxRecDepth 100000 in
/-- react of games without events: throws -/
theorem c_react (l : Launch) (hst : l.stackTraces = false) (D : va_G) (sz : Nat) (h0 : Nat) (a : Nat → Nat) (x1 x2 x3 x4 : Int32) : vx_Met l yX11_react zX11_react_ws (zR 3 1 6) (zPre [.ref h0, .int x1, .int x2, .int x3, .int x4] D [(h0, .inr (17, zHS a))] [] (fun q : Nat => sz ≤ q) sz) (va_Qi (S := Unit) (fun _ _ => False) (fun _ _ => True) (fun q : Nat => sz ≤ q)) (zThr "java/lang/IndexOutOfBoundsException" (fun q : Nat => sz ≤ q)) 1 6 (fun q : Nat => sz ≤ q) := by
  refine vx_ofW (cc := cX11_react) (maxL := 8) (ret := (some .boolean)) (by decide) rfl ?_
  intro p e s m args below meth c s₁ B hml ht hv
  obtain ⟨rfl, hsz, hP, hK, hD0, hz⟩ := hv
  have hx := B.exec
  have hb := B.bytes
  have hr := B.returns
  have hts := atoms_spec (ws := zX11_react_ws) B.pre
  have hown : s.vm.findClass RX11 = some m.cls := findClass_of_methodNamed B.named
  have hlocks := B.notSynchronized
  subst hsz
  obtain ⟨A, hAe⟩ : ∃ A : Nat → Prop, A = (fun q : Nat => s.heap.size ≤ q) := ⟨_, rfl⟩
  rw [← hAe] at hz ⊢
  have hA : ∀ q : Nat, s.heap.size ≤ q → A q := fun q h => by rw [hAe]; exact h
  have hD := hD0
  have hS : va_S A s.heap s.heap [] := va_S.rf
  have hP : va_P D vwCl [(h0, .inr (17, zHS a))] s.heap := hP
  have hl := lv_entry ([.ref h0, .int x1, .int x2, .int x3, .int x4]) (n := 8) (Nat.le_of_ble_eq_true rfl)
  rw [lg_entry_eq]
  generalize (lg_sl ([.ref h0, .int x1, .int x2, .int x3, .int x4]) ++ List.replicate (8 - (lg_sl ([.ref h0, .int x1, .int x2, .int x3, .int x4])).length) Slot.unset).toArray = ls at hl ⊢
  have hl : lv_has ls 8 [(0, .ref h0), (1, .int x1), (2, .int x2), (3, .int x3), (4, .int x4)] := hl
  refine lv_aload_n hx hb dX11_react_0 rfl (lv_at hl 0 rfl) ?_
  refine lv_iload_n hx hb dX11_react_1 rfl (lv_at hl 1 rfl) ?_
  refine lv_iload_n hx hb dX11_react_2 rfl (lv_at hl 3 rfl) ?_
  have hPc := hP.sub (ws' := [(h0, .inr (17, zHS a))]) [0] rfl
  have hDc := hD.sub (ws' := [(h0, .inr (17, zHS a))]) [0] (by decide) rfl
  have hKc := hK.sub (tys' := []) [] rfl
  have hFc : ∀ q : Nat, s.heap.size ≤ q → A q := fun q h => hA q (Nat.le_trans hS.1 h)
  refine vx_callq (vx_runV (As := [.int x1, .int x3]) (rest := []) ⟨hx, hb, hml, hown, hts⟩ (c_eventFor l hst D s.heap.size h0 a x1 x3) (cwV 2 hts (goodIn_app (goodIn_of _ (by decide +kernel)) (goodIn_sub (fun _ h => List.mem_cons_of_mem _ (List.mem_append_right _ (List.mem_append_left _ h))) zX11_eventFor_ws_good)) rfl rfl rfl (by decide +kernel) ⟨Nat.le_of_ble_eq_true rfl, Nat.le_of_ble_eq_true rfl⟩) ⟨zPre.blind, va_recv hKc hPc (ci := 17) (q0 := 0) rfl rfl, zPre.mk hPc hKc hDc hz hS (fun q h => hFc q h)⟩ rfl rfl hl.1 rfl (lv_room (Nat.le_of_ble_eq_true rfl)) dX11_react_3 ⟨Nat.le_of_ble_eq_true rfl, Nat.le_of_ble_eq_true rfl⟩) hS (fun q _ h => hFc q h) (fun q h => hFc q h) (fun q _ h => hFc q h) (fun E9 ce q9 u t H1 locs ht9 hvm hpx hBX hz1 hk1 hS hcell hv9 hcl => ?_) (fun _ _ t H1 locs _ _ hw _ _ _ _ => hw.elim)
  · cases hBX
    exact vx_out (fun x hx => (ht x hx).elim) hlocks hcell hv9 hcl (fun t9 ht9 _ => ⟨(), trivial, rfl, hS.F ht9⟩) hS.2.2 (Nat.le_of_ble_eq_true rfl) (Nat.le_of_ble_eq_true rfl)

def zX11_putOut_ws : List Cond := .code yX11_putOut cX11_putOut 5 (some .boolean) :: ([.methodLink RX11 161 yX11_raceFor, .instanceMethod yX11_raceFor, .selects RX11 yX11_raceFor yX11_raceFor, .initialized RX11] ++ (zX11_raceFor_ws ++ ([])))
theorem zX11_putOut_ws_good : zX11_putOut_ws.all goodWord = true := by decide +kernel
set_option maxHeartbeats 4000000 in
set_option maxRecDepth 100000 in
/-- putOut of games without events: throws -/
theorem c_putOut (l : Launch) (hst : l.stackTraces = false) (D : va_G) (sz : Nat) (h0 : Nat) (a : Nat → Nat) (x1 x2 x3 : Int32) : vx_Met l yX11_putOut zX11_putOut_ws (zR 3 1 6) (zPre [.ref h0, .int x1, .int x2, .int x3] D [(h0, .inr (17, zHS a))] [] (fun q : Nat => sz ≤ q) sz) (va_Qi (S := Unit) (fun _ _ => False) (fun _ _ => True) (fun q : Nat => sz ≤ q)) (zThr "java/lang/IndexOutOfBoundsException" (fun q : Nat => sz ≤ q)) 1 6 (fun q : Nat => sz ≤ q) := by
  refine vx_ofW (cc := cX11_putOut) (maxL := 5) (ret := (some .boolean)) (by decide) rfl ?_
  intro p e s m args below meth c s₁ B hml ht hv
  obtain ⟨rfl, hsz, hP, hK, hD0, hz⟩ := hv
  have hx := B.exec
  have hb := B.bytes
  have hr := B.returns
  have hts := atoms_spec (ws := zX11_putOut_ws) B.pre
  have hown : s.vm.findClass RX11 = some m.cls := findClass_of_methodNamed B.named
  have hlocks := B.notSynchronized
  subst hsz
  obtain ⟨A, hAe⟩ : ∃ A : Nat → Prop, A = (fun q : Nat => s.heap.size ≤ q) := ⟨_, rfl⟩
  rw [← hAe] at hz ⊢
  have hA : ∀ q : Nat, s.heap.size ≤ q → A q := fun q h => by rw [hAe]; exact h
  have hD := hD0
  have hS : va_S A s.heap s.heap [] := va_S.rf
  have hP : va_P D vwCl [(h0, .inr (17, zHS a))] s.heap := hP
  have hl := lv_entry ([.ref h0, .int x1, .int x2, .int x3]) (n := 5) (Nat.le_of_ble_eq_true rfl)
  rw [lg_entry_eq]
  generalize (lg_sl ([.ref h0, .int x1, .int x2, .int x3]) ++ List.replicate (5 - (lg_sl ([.ref h0, .int x1, .int x2, .int x3])).length) Slot.unset).toArray = ls at hl ⊢
  have hl : lv_has ls 5 [(0, .ref h0), (1, .int x1), (2, .int x2), (3, .int x3)] := hl
  refine lv_aload_n hx hb dX11_putOut_0 rfl (lv_at hl 0 rfl) ?_
  refine lv_iload_n hx hb dX11_putOut_1 rfl (lv_at hl 1 rfl) ?_
  refine lv_iload_n hx hb dX11_putOut_2 rfl (lv_at hl 2 rfl) ?_
  refine lv_iload_n hx hb dX11_putOut_3 rfl (lv_at hl 3 rfl) ?_
  have hPc := hP.sub (ws' := [(h0, .inr (17, zHS a))]) [0] rfl
  have hDc := hD.sub (ws' := [(h0, .inr (17, zHS a))]) [0] (by decide) rfl
  have hKc := hK.sub (tys' := []) [] rfl
  have hFc : ∀ q : Nat, s.heap.size ≤ q → A q := fun q h => hA q (Nat.le_trans hS.1 h)
  refine vx_callq (vx_runV (As := [.int x1, .int x2, .int x3]) (rest := []) ⟨hx, hb, hml, hown, hts⟩ (c_raceFor l hst D s.heap.size h0 a x1 x2 x3) (cwV 3 hts (goodIn_app (goodIn_of _ (by decide +kernel)) (goodIn_sub (fun _ h => List.mem_cons_of_mem _ (List.mem_append_right _ (List.mem_append_left _ h))) zX11_raceFor_ws_good)) rfl rfl rfl (by decide +kernel) ⟨Nat.le_of_ble_eq_true rfl, Nat.le_of_ble_eq_true rfl⟩) ⟨zPre.blind, va_recv hKc hPc (ci := 17) (q0 := 0) rfl rfl, zPre.mk hPc hKc hDc hz hS (fun q h => hFc q h)⟩ rfl rfl hl.1 rfl (lv_room (Nat.le_of_ble_eq_true rfl)) dX11_putOut_4 ⟨Nat.le_of_ble_eq_true rfl, Nat.le_of_ble_eq_true rfl⟩) hS (fun q _ h => hFc q h) (fun q h => hFc q h) (fun q _ h => hFc q h) (fun E9 ce q9 u t H1 locs ht9 hvm hpx hBX hz1 hk1 hS hcell hv9 hcl => ?_) (fun _ _ t H1 locs _ _ hw _ _ _ _ => hw.elim)
  · cases hBX
    exact vx_out (fun x hx => (ht x hx).elim) hlocks hcell hv9 hcl (fun t9 ht9 _ => ⟨(), trivial, rfl, hS.F ht9⟩) hS.2.2 (Nat.le_of_ble_eq_true rfl) (Nat.le_of_ble_eq_true rfl)

def zX11_isOut_ws : List Cond := .code yX11_isOut cX11_isOut 5 (some .boolean) :: ([.methodLink RX11 161 yX11_raceFor, .instanceMethod yX11_raceFor, .selects RX11 yX11_raceFor yX11_raceFor, .initialized RX11] ++ (zX11_raceFor_ws ++ ([])))
theorem zX11_isOut_ws_good : zX11_isOut_ws.all goodWord = true := by decide +kernel
set_option maxHeartbeats 4000000 in
set_option maxRecDepth 100000 in
/-- isOut of games without events: throws -/
theorem c_isOut (l : Launch) (hst : l.stackTraces = false) (D : va_G) (sz : Nat) (h0 : Nat) (a : Nat → Nat) (x1 x2 x3 : Int32) : vx_Met l yX11_isOut zX11_isOut_ws (zR 3 1 6) (zPre [.ref h0, .int x1, .int x2, .int x3] D [(h0, .inr (17, zHS a))] [] (fun q : Nat => sz ≤ q) sz) (va_Qi (S := Unit) (fun _ _ => False) (fun _ _ => True) (fun q : Nat => sz ≤ q)) (zThr "java/lang/IndexOutOfBoundsException" (fun q : Nat => sz ≤ q)) 1 6 (fun q : Nat => sz ≤ q) := by
  refine vx_ofW (cc := cX11_isOut) (maxL := 5) (ret := (some .boolean)) (by decide) rfl ?_
  intro p e s m args below meth c s₁ B hml ht hv
  obtain ⟨rfl, hsz, hP, hK, hD0, hz⟩ := hv
  have hx := B.exec
  have hb := B.bytes
  have hr := B.returns
  have hts := atoms_spec (ws := zX11_isOut_ws) B.pre
  have hown : s.vm.findClass RX11 = some m.cls := findClass_of_methodNamed B.named
  have hlocks := B.notSynchronized
  subst hsz
  obtain ⟨A, hAe⟩ : ∃ A : Nat → Prop, A = (fun q : Nat => s.heap.size ≤ q) := ⟨_, rfl⟩
  rw [← hAe] at hz ⊢
  have hA : ∀ q : Nat, s.heap.size ≤ q → A q := fun q h => by rw [hAe]; exact h
  have hD := hD0
  have hS : va_S A s.heap s.heap [] := va_S.rf
  have hP : va_P D vwCl [(h0, .inr (17, zHS a))] s.heap := hP
  have hl := lv_entry ([.ref h0, .int x1, .int x2, .int x3]) (n := 5) (Nat.le_of_ble_eq_true rfl)
  rw [lg_entry_eq]
  generalize (lg_sl ([.ref h0, .int x1, .int x2, .int x3]) ++ List.replicate (5 - (lg_sl ([.ref h0, .int x1, .int x2, .int x3])).length) Slot.unset).toArray = ls at hl ⊢
  have hl : lv_has ls 5 [(0, .ref h0), (1, .int x1), (2, .int x2), (3, .int x3)] := hl
  refine lv_aload_n hx hb dX11_isOut_0 rfl (lv_at hl 0 rfl) ?_
  refine lv_iload_n hx hb dX11_isOut_1 rfl (lv_at hl 1 rfl) ?_
  refine lv_iload_n hx hb dX11_isOut_2 rfl (lv_at hl 2 rfl) ?_
  refine lv_iload_n hx hb dX11_isOut_3 rfl (lv_at hl 3 rfl) ?_
  have hPc := hP.sub (ws' := [(h0, .inr (17, zHS a))]) [0] rfl
  have hDc := hD.sub (ws' := [(h0, .inr (17, zHS a))]) [0] (by decide) rfl
  have hKc := hK.sub (tys' := []) [] rfl
  have hFc : ∀ q : Nat, s.heap.size ≤ q → A q := fun q h => hA q (Nat.le_trans hS.1 h)
  refine vx_callq (vx_runV (As := [.int x1, .int x2, .int x3]) (rest := []) ⟨hx, hb, hml, hown, hts⟩ (c_raceFor l hst D s.heap.size h0 a x1 x2 x3) (cwV 3 hts (goodIn_app (goodIn_of _ (by decide +kernel)) (goodIn_sub (fun _ h => List.mem_cons_of_mem _ (List.mem_append_right _ (List.mem_append_left _ h))) zX11_raceFor_ws_good)) rfl rfl rfl (by decide +kernel) ⟨Nat.le_of_ble_eq_true rfl, Nat.le_of_ble_eq_true rfl⟩) ⟨zPre.blind, va_recv hKc hPc (ci := 17) (q0 := 0) rfl rfl, zPre.mk hPc hKc hDc hz hS (fun q h => hFc q h)⟩ rfl rfl hl.1 rfl (lv_room (Nat.le_of_ble_eq_true rfl)) dX11_isOut_4 ⟨Nat.le_of_ble_eq_true rfl, Nat.le_of_ble_eq_true rfl⟩) hS (fun q _ h => hFc q h) (fun q h => hFc q h) (fun q _ h => hFc q h) (fun E9 ce q9 u t H1 locs ht9 hvm hpx hBX hz1 hk1 hS hcell hv9 hcl => ?_) (fun _ _ t H1 locs _ _ hw _ _ _ _ => hw.elim)
  · cases hBX
    exact vx_out (fun x hx => (ht x hx).elim) hlocks hcell hv9 hcl (fun t9 ht9 _ => ⟨(), trivial, rfl, hS.F ht9⟩) hS.2.2 (Nat.le_of_ble_eq_true rfl) (Nat.le_of_ble_eq_true rfl)

def zX11_inFinal_ws : List Cond := .code yX11_inFinal cX11_inFinal 4 (some .int) :: ([.methodLink RX11 130 yX11_eventAt, .instanceMethod yX11_eventAt, .selects RX11 yX11_eventAt yX11_eventAt, .initialized RX11] ++ (zX11_eventAt_ws ++ ([])))
theorem zX11_inFinal_ws_good : zX11_inFinal_ws.all goodWord = true := by decide +kernel
set_option maxHeartbeats 4000000 in
set_option maxRecDepth 100000 in
/-- inFinal of games without events: throws -/
theorem c_inFinal (l : Launch) (hst : l.stackTraces = false) (D : va_G) (sz : Nat) (h0 : Nat) (a : Nat → Nat) (x1 x2 : Int32) : vx_Met l yX11_inFinal zX11_inFinal_ws (zR 3 1 6) (zPre [.ref h0, .int x1, .int x2] D [(h0, .inr (17, zHS a))] [] (fun q : Nat => sz ≤ q) sz) (va_Qi (S := Unit) (fun _ _ => False) (fun _ _ => True) (fun q : Nat => sz ≤ q)) (zThr "java/lang/IndexOutOfBoundsException" (fun q : Nat => sz ≤ q)) 1 6 (fun q : Nat => sz ≤ q) := by
  refine vx_ofW (cc := cX11_inFinal) (maxL := 4) (ret := (some .int)) (by decide) rfl ?_
  intro p e s m args below meth c s₁ B hml ht hv
  obtain ⟨rfl, hsz, hP, hK, hD0, hz⟩ := hv
  have hx := B.exec
  have hb := B.bytes
  have hr := B.returns
  have hts := atoms_spec (ws := zX11_inFinal_ws) B.pre
  have hown : s.vm.findClass RX11 = some m.cls := findClass_of_methodNamed B.named
  have hlocks := B.notSynchronized
  subst hsz
  obtain ⟨A, hAe⟩ : ∃ A : Nat → Prop, A = (fun q : Nat => s.heap.size ≤ q) := ⟨_, rfl⟩
  rw [← hAe] at hz ⊢
  have hA : ∀ q : Nat, s.heap.size ≤ q → A q := fun q h => by rw [hAe]; exact h
  have hD := hD0
  have hS : va_S A s.heap s.heap [] := va_S.rf
  have hP : va_P D vwCl [(h0, .inr (17, zHS a))] s.heap := hP
  have hl := lv_entry ([.ref h0, .int x1, .int x2]) (n := 4) (Nat.le_of_ble_eq_true rfl)
  rw [lg_entry_eq]
  generalize (lg_sl ([.ref h0, .int x1, .int x2]) ++ List.replicate (4 - (lg_sl ([.ref h0, .int x1, .int x2])).length) Slot.unset).toArray = ls at hl ⊢
  have hl : lv_has ls 4 [(0, .ref h0), (1, .int x1), (2, .int x2)] := hl
  refine lv_aload_n hx hb dX11_inFinal_0 rfl (lv_at hl 0 rfl) ?_
  refine lv_iload_n hx hb dX11_inFinal_1 rfl (lv_at hl 1 rfl) ?_
  have hPc := hP.sub (ws' := [(h0, .inr (17, zHS a))]) [0] rfl
  have hDc := hD.sub (ws' := [(h0, .inr (17, zHS a))]) [0] (by decide) rfl
  have hKc := hK.sub (tys' := []) [] rfl
  have hFc : ∀ q : Nat, s.heap.size ≤ q → A q := fun q h => hA q (Nat.le_trans hS.1 h)
  refine vx_callq (vx_runV (As := [.int x1]) (rest := []) ⟨hx, hb, hml, hown, hts⟩ (c_eventAt l hst D s.heap.size h0 a x1) (cwV 1 hts (goodIn_app (goodIn_of _ (by decide +kernel)) (goodIn_sub (fun _ h => List.mem_cons_of_mem _ (List.mem_append_right _ (List.mem_append_left _ h))) zX11_eventAt_ws_good)) rfl rfl rfl (by decide +kernel) ⟨Nat.le_of_ble_eq_true rfl, Nat.le_of_ble_eq_true rfl⟩) ⟨zPre.blind, va_recv hKc hPc (ci := 17) (q0 := 0) rfl rfl, zPre.mk hPc hKc hDc hz hS (fun q h => hFc q h)⟩ rfl rfl hl.1 rfl (lv_room (Nat.le_of_ble_eq_true rfl)) dX11_inFinal_2 ⟨Nat.le_of_ble_eq_true rfl, Nat.le_of_ble_eq_true rfl⟩) hS (fun q _ h => hFc q h) (fun q h => hFc q h) (fun q _ h => hFc q h) (fun E9 ce q9 u t H1 locs ht9 hvm hpx hBX hz1 hk1 hS hcell hv9 hcl => ?_) (fun _ _ t H1 locs _ _ hw _ _ _ _ => hw.elim)
  · cases hBX
    exact vx_out (fun x hx => (ht x hx).elim) hlocks hcell hv9 hcl (fun t9 ht9 _ => ⟨(), trivial, rfl, hS.F ht9⟩) hS.2.2 (Nat.le_of_ble_eq_true rfl) (Nat.le_of_ble_eq_true rfl)

def zX11_bar_ws : List Cond := .code yX11_bar cX11_bar 6 (some .int) :: ([.methodLink RX11 130 yX11_eventAt, .instanceMethod yX11_eventAt, .selects RX11 yX11_eventAt yX11_eventAt, .initialized RX11] ++ (zX11_eventAt_ws ++ ([])))
theorem zX11_bar_ws_good : zX11_bar_ws.all goodWord = true := by decide +kernel
set_option maxHeartbeats 4000000 in
set_option maxRecDepth 100000 in
/-- bar of games without events: throws -/
theorem c_bar (l : Launch) (hst : l.stackTraces = false) (D : va_G) (sz : Nat) (h0 : Nat) (a : Nat → Nat) (x1 x2 : Int32) : vx_Met l yX11_bar zX11_bar_ws (zR 3 1 6) (zPre [.ref h0, .int x1, .int x2] D [(h0, .inr (17, zHS a))] [] (fun q : Nat => sz ≤ q) sz) (va_Qi (S := Unit) (fun _ _ => False) (fun _ _ => True) (fun q : Nat => sz ≤ q)) (zThr "java/lang/IndexOutOfBoundsException" (fun q : Nat => sz ≤ q)) 1 6 (fun q : Nat => sz ≤ q) := by
  refine vx_ofW (cc := cX11_bar) (maxL := 6) (ret := (some .int)) (by decide) rfl ?_
  intro p e s m args below meth c s₁ B hml ht hv
  obtain ⟨rfl, hsz, hP, hK, hD0, hz⟩ := hv
  have hx := B.exec
  have hb := B.bytes
  have hr := B.returns
  have hts := atoms_spec (ws := zX11_bar_ws) B.pre
  have hown : s.vm.findClass RX11 = some m.cls := findClass_of_methodNamed B.named
  have hlocks := B.notSynchronized
  subst hsz
  obtain ⟨A, hAe⟩ : ∃ A : Nat → Prop, A = (fun q : Nat => s.heap.size ≤ q) := ⟨_, rfl⟩
  rw [← hAe] at hz ⊢
  have hA : ∀ q : Nat, s.heap.size ≤ q → A q := fun q h => by rw [hAe]; exact h
  have hD := hD0
  have hS : va_S A s.heap s.heap [] := va_S.rf
  have hP : va_P D vwCl [(h0, .inr (17, zHS a))] s.heap := hP
  have hl := lv_entry ([.ref h0, .int x1, .int x2]) (n := 6) (Nat.le_of_ble_eq_true rfl)
  rw [lg_entry_eq]
  generalize (lg_sl ([.ref h0, .int x1, .int x2]) ++ List.replicate (6 - (lg_sl ([.ref h0, .int x1, .int x2])).length) Slot.unset).toArray = ls at hl ⊢
  have hl : lv_has ls 6 [(0, .ref h0), (1, .int x1), (2, .int x2)] := hl
  refine lv_aload_n hx hb dX11_bar_0 rfl (lv_at hl 0 rfl) ?_
  refine lv_iload_n hx hb dX11_bar_1 rfl (lv_at hl 1 rfl) ?_
  have hPc := hP.sub (ws' := [(h0, .inr (17, zHS a))]) [0] rfl
  have hDc := hD.sub (ws' := [(h0, .inr (17, zHS a))]) [0] (by decide) rfl
  have hKc := hK.sub (tys' := []) [] rfl
  have hFc : ∀ q : Nat, s.heap.size ≤ q → A q := fun q h => hA q (Nat.le_trans hS.1 h)
  refine vx_callq (vx_runV (As := [.int x1]) (rest := []) ⟨hx, hb, hml, hown, hts⟩ (c_eventAt l hst D s.heap.size h0 a x1) (cwV 1 hts (goodIn_app (goodIn_of _ (by decide +kernel)) (goodIn_sub (fun _ h => List.mem_cons_of_mem _ (List.mem_append_right _ (List.mem_append_left _ h))) zX11_eventAt_ws_good)) rfl rfl rfl (by decide +kernel) ⟨Nat.le_of_ble_eq_true rfl, Nat.le_of_ble_eq_true rfl⟩) ⟨zPre.blind, va_recv hKc hPc (ci := 17) (q0 := 0) rfl rfl, zPre.mk hPc hKc hDc hz hS (fun q h => hFc q h)⟩ rfl rfl hl.1 rfl (lv_room (Nat.le_of_ble_eq_true rfl)) dX11_bar_2 ⟨Nat.le_of_ble_eq_true rfl, Nat.le_of_ble_eq_true rfl⟩) hS (fun q _ h => hFc q h) (fun q h => hFc q h) (fun q _ h => hFc q h) (fun E9 ce q9 u t H1 locs ht9 hvm hpx hBX hz1 hk1 hS hcell hv9 hcl => ?_) (fun _ _ t H1 locs _ _ hw _ _ _ _ => hw.elim)
  · cases hBX
    exact vx_out (fun x hx => (ht x hx).elim) hlocks hcell hv9 hcl (fun t9 ht9 _ => ⟨(), trivial, rfl, hS.F ht9⟩) hS.2.2 (Nat.le_of_ble_eq_true rfl) (Nat.le_of_ble_eq_true rfl)

def zX11_jump_ws : List Cond := .code yX11_jump cX11_jump 6 (some .int) :: ([.methodLink RX11 107 yX11_eventFor, .instanceMethod yX11_eventFor, .selects RX11 yX11_eventFor yX11_eventFor, .initialized RX11] ++ (zX11_eventFor_ws ++ ([])))
theorem zX11_jump_ws_good : zX11_jump_ws.all goodWord = true := by decide +kernel
set_option maxHeartbeats 4000000 in
set_option maxRecDepth 100000 in
/-- jump of games without events: throws -/
theorem c_jump (l : Launch) (hst : l.stackTraces = false) (D : va_G) (sz : Nat) (h0 : Nat) (a : Nat → Nat) (x1 x2 x3 : Int32) : vx_Met l yX11_jump zX11_jump_ws (zR 3 1 6) (zPre [.ref h0, .int x1, .int x2, .int x3] D [(h0, .inr (17, zHS a))] [] (fun q : Nat => sz ≤ q) sz) (va_Qi (S := Unit) (fun _ _ => False) (fun _ _ => True) (fun q : Nat => sz ≤ q)) (zThr "java/lang/IndexOutOfBoundsException" (fun q : Nat => sz ≤ q)) 1 6 (fun q : Nat => sz ≤ q) := by
  refine vx_ofW (cc := cX11_jump) (maxL := 6) (ret := (some .int)) (by decide) rfl ?_
  intro p e s m args below meth c s₁ B hml ht hv
  obtain ⟨rfl, hsz, hP, hK, hD0, hz⟩ := hv
  have hx := B.exec
  have hb := B.bytes
  have hr := B.returns
  have hts := atoms_spec (ws := zX11_jump_ws) B.pre
  have hown : s.vm.findClass RX11 = some m.cls := findClass_of_methodNamed B.named
  have hlocks := B.notSynchronized
  subst hsz
  obtain ⟨A, hAe⟩ : ∃ A : Nat → Prop, A = (fun q : Nat => s.heap.size ≤ q) := ⟨_, rfl⟩
  rw [← hAe] at hz ⊢
  have hA : ∀ q : Nat, s.heap.size ≤ q → A q := fun q h => by rw [hAe]; exact h
  have hD := hD0
  have hS : va_S A s.heap s.heap [] := va_S.rf
  have hP : va_P D vwCl [(h0, .inr (17, zHS a))] s.heap := hP
  have hl := lv_entry ([.ref h0, .int x1, .int x2, .int x3]) (n := 6) (Nat.le_of_ble_eq_true rfl)
  rw [lg_entry_eq]
  generalize (lg_sl ([.ref h0, .int x1, .int x2, .int x3]) ++ List.replicate (6 - (lg_sl ([.ref h0, .int x1, .int x2, .int x3])).length) Slot.unset).toArray = ls at hl ⊢
  have hl : lv_has ls 6 [(0, .ref h0), (1, .int x1), (2, .int x2), (3, .int x3)] := hl
  refine lv_aload_n hx hb dX11_jump_0 rfl (lv_at hl 0 rfl) ?_
  refine lv_iload_n hx hb dX11_jump_1 rfl (lv_at hl 1 rfl) ?_
  refine lv_iload_n hx hb dX11_jump_2 rfl (lv_at hl 2 rfl) ?_
  have hPc := hP.sub (ws' := [(h0, .inr (17, zHS a))]) [0] rfl
  have hDc := hD.sub (ws' := [(h0, .inr (17, zHS a))]) [0] (by decide) rfl
  have hKc := hK.sub (tys' := []) [] rfl
  have hFc : ∀ q : Nat, s.heap.size ≤ q → A q := fun q h => hA q (Nat.le_trans hS.1 h)
  refine vx_callq (vx_runV (As := [.int x1, .int x2]) (rest := []) ⟨hx, hb, hml, hown, hts⟩ (c_eventFor l hst D s.heap.size h0 a x1 x2) (cwV 2 hts (goodIn_app (goodIn_of _ (by decide +kernel)) (goodIn_sub (fun _ h => List.mem_cons_of_mem _ (List.mem_append_right _ (List.mem_append_left _ h))) zX11_eventFor_ws_good)) rfl rfl rfl (by decide +kernel) ⟨Nat.le_of_ble_eq_true rfl, Nat.le_of_ble_eq_true rfl⟩) ⟨zPre.blind, va_recv hKc hPc (ci := 17) (q0 := 0) rfl rfl, zPre.mk hPc hKc hDc hz hS (fun q h => hFc q h)⟩ rfl rfl hl.1 rfl (lv_room (Nat.le_of_ble_eq_true rfl)) dX11_jump_3 ⟨Nat.le_of_ble_eq_true rfl, Nat.le_of_ble_eq_true rfl⟩) hS (fun q _ h => hFc q h) (fun q h => hFc q h) (fun q _ h => hFc q h) (fun E9 ce q9 u t H1 locs ht9 hvm hpx hBX hz1 hk1 hS hcell hv9 hcl => ?_) (fun _ _ t H1 locs _ _ hw _ _ _ _ => hw.elim)
  · cases hBX
    exact vx_out (fun x hx => (ht x hx).elim) hlocks hcell hv9 hcl (fun t9 ht9 _ => ⟨(), trivial, rfl, hS.F ht9⟩) hS.2.2 (Nat.le_of_ble_eq_true rfl) (Nat.le_of_ble_eq_true rfl)

def zX11_put_ws : List Cond := .code yX11_put cX11_put 7 (some .int) :: ([.methodLink RX11 107 yX11_eventFor, .instanceMethod yX11_eventFor, .selects RX11 yX11_eventFor yX11_eventFor, .initialized RX11] ++ (zX11_eventFor_ws ++ ([])))
theorem zX11_put_ws_good : zX11_put_ws.all goodWord = true := by decide +kernel
set_option maxHeartbeats 4000000 in
set_option maxRecDepth 100000 in
/-- put of games without events: throws -/
theorem c_put (l : Launch) (hst : l.stackTraces = false) (D : va_G) (sz : Nat) (h0 : Nat) (a : Nat → Nat) (x1 x2 x3 : Int32) : vx_Met l yX11_put zX11_put_ws (zR 3 1 6) (zPre [.ref h0, .int x1, .int x2, .int x3] D [(h0, .inr (17, zHS a))] [] (fun q : Nat => sz ≤ q) sz) (va_Qi (S := Unit) (fun _ _ => False) (fun _ _ => True) (fun q : Nat => sz ≤ q)) (zThr "java/lang/IndexOutOfBoundsException" (fun q : Nat => sz ≤ q)) 1 6 (fun q : Nat => sz ≤ q) := by
  refine vx_ofW (cc := cX11_put) (maxL := 7) (ret := (some .int)) (by decide) rfl ?_
  intro p e s m args below meth c s₁ B hml ht hv
  obtain ⟨rfl, hsz, hP, hK, hD0, hz⟩ := hv
  have hx := B.exec
  have hb := B.bytes
  have hr := B.returns
  have hts := atoms_spec (ws := zX11_put_ws) B.pre
  have hown : s.vm.findClass RX11 = some m.cls := findClass_of_methodNamed B.named
  have hlocks := B.notSynchronized
  subst hsz
  obtain ⟨A, hAe⟩ : ∃ A : Nat → Prop, A = (fun q : Nat => s.heap.size ≤ q) := ⟨_, rfl⟩
  rw [← hAe] at hz ⊢
  have hA : ∀ q : Nat, s.heap.size ≤ q → A q := fun q h => by rw [hAe]; exact h
  have hD := hD0
  have hS : va_S A s.heap s.heap [] := va_S.rf
  have hP : va_P D vwCl [(h0, .inr (17, zHS a))] s.heap := hP
  have hl := lv_entry ([.ref h0, .int x1, .int x2, .int x3]) (n := 7) (Nat.le_of_ble_eq_true rfl)
  rw [lg_entry_eq]
  generalize (lg_sl ([.ref h0, .int x1, .int x2, .int x3]) ++ List.replicate (7 - (lg_sl ([.ref h0, .int x1, .int x2, .int x3])).length) Slot.unset).toArray = ls at hl ⊢
  have hl : lv_has ls 7 [(0, .ref h0), (1, .int x1), (2, .int x2), (3, .int x3)] := hl
  refine lv_aload_n hx hb dX11_put_0 rfl (lv_at hl 0 rfl) ?_
  refine lv_iload_n hx hb dX11_put_1 rfl (lv_at hl 1 rfl) ?_
  refine lv_iload_n hx hb dX11_put_2 rfl (lv_at hl 2 rfl) ?_
  have hPc := hP.sub (ws' := [(h0, .inr (17, zHS a))]) [0] rfl
  have hDc := hD.sub (ws' := [(h0, .inr (17, zHS a))]) [0] (by decide) rfl
  have hKc := hK.sub (tys' := []) [] rfl
  have hFc : ∀ q : Nat, s.heap.size ≤ q → A q := fun q h => hA q (Nat.le_trans hS.1 h)
  refine vx_callq (vx_runV (As := [.int x1, .int x2]) (rest := []) ⟨hx, hb, hml, hown, hts⟩ (c_eventFor l hst D s.heap.size h0 a x1 x2) (cwV 2 hts (goodIn_app (goodIn_of _ (by decide +kernel)) (goodIn_sub (fun _ h => List.mem_cons_of_mem _ (List.mem_append_right _ (List.mem_append_left _ h))) zX11_eventFor_ws_good)) rfl rfl rfl (by decide +kernel) ⟨Nat.le_of_ble_eq_true rfl, Nat.le_of_ble_eq_true rfl⟩) ⟨zPre.blind, va_recv hKc hPc (ci := 17) (q0 := 0) rfl rfl, zPre.mk hPc hKc hDc hz hS (fun q h => hFc q h)⟩ rfl rfl hl.1 rfl (lv_room (Nat.le_of_ble_eq_true rfl)) dX11_put_3 ⟨Nat.le_of_ble_eq_true rfl, Nat.le_of_ble_eq_true rfl⟩) hS (fun q _ h => hFc q h) (fun q h => hFc q h) (fun q _ h => hFc q h) (fun E9 ce q9 u t H1 locs ht9 hvm hpx hBX hz1 hk1 hS hcell hv9 hcl => ?_) (fun _ _ t H1 locs _ _ hw _ _ _ _ => hw.elim)
  · cases hBX
    exact vx_out (fun x hx => (ht x hx).elim) hlocks hcell hv9 hcl (fun t9 ht9 _ => ⟨(), trivial, rfl, hS.F ht9⟩) hS.2.2 (Nat.le_of_ble_eq_true rfl) (Nat.le_of_ble_eq_true rfl)

def zX11_rankOf_ws : List Cond := .code yX11_rankOf cX11_rankOf 3 (some .int) :: ([.methodLink RX11 107 yX11_eventFor, .instanceMethod yX11_eventFor, .selects RX11 yX11_eventFor yX11_eventFor, .initialized RX11] ++ (zX11_eventFor_ws ++ ([])))
theorem zX11_rankOf_ws_good : zX11_rankOf_ws.all goodWord = true := by decide +kernel
set_option maxHeartbeats 4000000 in
set_option maxRecDepth 100000 in
/-- rankOf of games without events: throws -/
theorem c_rankOf (l : Launch) (hst : l.stackTraces = false) (D : va_G) (sz : Nat) (h0 : Nat) (a : Nat → Nat) (x1 x2 : Int32) : vx_Met l yX11_rankOf zX11_rankOf_ws (zR 3 1 6) (zPre [.ref h0, .int x1, .int x2] D [(h0, .inr (17, zHS a))] [] (fun q : Nat => sz ≤ q) sz) (va_Qi (S := Unit) (fun _ _ => False) (fun _ _ => True) (fun q : Nat => sz ≤ q)) (zThr "java/lang/IndexOutOfBoundsException" (fun q : Nat => sz ≤ q)) 1 6 (fun q : Nat => sz ≤ q) := by
  refine vx_ofW (cc := cX11_rankOf) (maxL := 3) (ret := (some .int)) (by decide) rfl ?_
  intro p e s m args below meth c s₁ B hml ht hv
  obtain ⟨rfl, hsz, hP, hK, hD0, hz⟩ := hv
  have hx := B.exec
  have hb := B.bytes
  have hr := B.returns
  have hts := atoms_spec (ws := zX11_rankOf_ws) B.pre
  have hown : s.vm.findClass RX11 = some m.cls := findClass_of_methodNamed B.named
  have hlocks := B.notSynchronized
  subst hsz
  obtain ⟨A, hAe⟩ : ∃ A : Nat → Prop, A = (fun q : Nat => s.heap.size ≤ q) := ⟨_, rfl⟩
  rw [← hAe] at hz ⊢
  have hA : ∀ q : Nat, s.heap.size ≤ q → A q := fun q h => by rw [hAe]; exact h
  have hD := hD0
  have hS : va_S A s.heap s.heap [] := va_S.rf
  have hP : va_P D vwCl [(h0, .inr (17, zHS a))] s.heap := hP
  have hl := lv_entry ([.ref h0, .int x1, .int x2]) (n := 3) (Nat.le_of_ble_eq_true rfl)
  rw [lg_entry_eq]
  generalize (lg_sl ([.ref h0, .int x1, .int x2]) ++ List.replicate (3 - (lg_sl ([.ref h0, .int x1, .int x2])).length) Slot.unset).toArray = ls at hl ⊢
  have hl : lv_has ls 3 [(0, .ref h0), (1, .int x1), (2, .int x2)] := hl
  refine lv_aload_n hx hb dX11_rankOf_0 rfl (lv_at hl 0 rfl) ?_
  refine lv_aload_n hx hb dX11_rankOf_1 rfl (lv_at hl 0 rfl) ?_
  refine lv_iload_n hx hb dX11_rankOf_2 rfl (lv_at hl 1 rfl) ?_
  refine lv_iload_n hx hb dX11_rankOf_3 rfl (lv_at hl 2 rfl) ?_
  have hPc := hP.sub (ws' := [(h0, .inr (17, zHS a))]) [0] rfl
  have hDc := hD.sub (ws' := [(h0, .inr (17, zHS a))]) [0] (by decide) rfl
  have hKc := hK.sub (tys' := []) [] rfl
  have hFc : ∀ q : Nat, s.heap.size ≤ q → A q := fun q h => hA q (Nat.le_trans hS.1 h)
  refine vx_callq (vx_runV (As := [.int x1, .int x2]) (rest := [.ref h0]) ⟨hx, hb, hml, hown, hts⟩ (c_eventFor l hst D s.heap.size h0 a x1 x2) (cwV 2 hts (goodIn_app (goodIn_of _ (by decide +kernel)) (goodIn_sub (fun _ h => List.mem_cons_of_mem _ (List.mem_append_right _ (List.mem_append_left _ h))) zX11_eventFor_ws_good)) rfl rfl rfl (by decide +kernel) ⟨Nat.le_of_ble_eq_true rfl, Nat.le_of_ble_eq_true rfl⟩) ⟨zPre.blind, va_recv hKc hPc (ci := 17) (q0 := 0) rfl rfl, zPre.mk hPc hKc hDc hz hS (fun q h => hFc q h)⟩ rfl rfl hl.1 rfl (lv_room (Nat.le_of_ble_eq_true rfl)) dX11_rankOf_4 ⟨Nat.le_of_ble_eq_true rfl, Nat.le_of_ble_eq_true rfl⟩) hS (fun q _ h => hFc q h) (fun q h => hFc q h) (fun q _ h => hFc q h) (fun E9 ce q9 u t H1 locs ht9 hvm hpx hBX hz1 hk1 hS hcell hv9 hcl => ?_) (fun _ _ t H1 locs _ _ hw _ _ _ _ => hw.elim)
  · cases hBX
    exact vx_out (fun x hx => (ht x hx).elim) hlocks hcell hv9 hcl (fun t9 ht9 _ => ⟨(), trivial, rfl, hS.F ht9⟩) hS.2.2 (Nat.le_of_ble_eq_true rfl) (Nat.le_of_ble_eq_true rfl)

def zX11_resultOf_ws : List Cond := .code yX11_resultOf cX11_resultOf 4 (some .int) :: ([.methodLink RX11 107 yX11_eventFor, .instanceMethod yX11_eventFor, .selects RX11 yX11_eventFor yX11_eventFor, .initialized RX11] ++ (zX11_eventFor_ws ++ ([])))
theorem zX11_resultOf_ws_good : zX11_resultOf_ws.all goodWord = true := by decide +kernel
set_option maxHeartbeats 4000000 in
set_option maxRecDepth 100000 in
/-- resultOf of games without events: throws -/
theorem c_resultOf (l : Launch) (hst : l.stackTraces = false) (D : va_G) (sz : Nat) (h0 : Nat) (a : Nat → Nat) (x1 x2 : Int32) : vx_Met l yX11_resultOf zX11_resultOf_ws (zR 3 1 6) (zPre [.ref h0, .int x1, .int x2] D [(h0, .inr (17, zHS a))] [] (fun q : Nat => sz ≤ q) sz) (va_Qi (S := Unit) (fun _ _ => False) (fun _ _ => True) (fun q : Nat => sz ≤ q)) (zThr "java/lang/IndexOutOfBoundsException" (fun q : Nat => sz ≤ q)) 1 6 (fun q : Nat => sz ≤ q) := by
  refine vx_ofW (cc := cX11_resultOf) (maxL := 4) (ret := (some .int)) (by decide) rfl ?_
  intro p e s m args below meth c s₁ B hml ht hv
  obtain ⟨rfl, hsz, hP, hK, hD0, hz⟩ := hv
  have hx := B.exec
  have hb := B.bytes
  have hr := B.returns
  have hts := atoms_spec (ws := zX11_resultOf_ws) B.pre
  have hown : s.vm.findClass RX11 = some m.cls := findClass_of_methodNamed B.named
  have hlocks := B.notSynchronized
  subst hsz
  obtain ⟨A, hAe⟩ : ∃ A : Nat → Prop, A = (fun q : Nat => s.heap.size ≤ q) := ⟨_, rfl⟩
  rw [← hAe] at hz ⊢
  have hA : ∀ q : Nat, s.heap.size ≤ q → A q := fun q h => by rw [hAe]; exact h
  have hD := hD0
  have hS : va_S A s.heap s.heap [] := va_S.rf
  have hP : va_P D vwCl [(h0, .inr (17, zHS a))] s.heap := hP
  have hl := lv_entry ([.ref h0, .int x1, .int x2]) (n := 4) (Nat.le_of_ble_eq_true rfl)
  rw [lg_entry_eq]
  generalize (lg_sl ([.ref h0, .int x1, .int x2]) ++ List.replicate (4 - (lg_sl ([.ref h0, .int x1, .int x2])).length) Slot.unset).toArray = ls at hl ⊢
  have hl : lv_has ls 4 [(0, .ref h0), (1, .int x1), (2, .int x2)] := hl
  refine lv_aload_n hx hb dX11_resultOf_0 rfl (lv_at hl 0 rfl) ?_
  refine lv_iload_n hx hb dX11_resultOf_1 rfl (lv_at hl 1 rfl) ?_
  refine lv_iload_n hx hb dX11_resultOf_2 rfl (lv_at hl 2 rfl) ?_
  have hPc := hP.sub (ws' := [(h0, .inr (17, zHS a))]) [0] rfl
  have hDc := hD.sub (ws' := [(h0, .inr (17, zHS a))]) [0] (by decide) rfl
  have hKc := hK.sub (tys' := []) [] rfl
  have hFc : ∀ q : Nat, s.heap.size ≤ q → A q := fun q h => hA q (Nat.le_trans hS.1 h)
  refine vx_callq (vx_runV (As := [.int x1, .int x2]) (rest := []) ⟨hx, hb, hml, hown, hts⟩ (c_eventFor l hst D s.heap.size h0 a x1 x2) (cwV 2 hts (goodIn_app (goodIn_of _ (by decide +kernel)) (goodIn_sub (fun _ h => List.mem_cons_of_mem _ (List.mem_append_right _ (List.mem_append_left _ h))) zX11_eventFor_ws_good)) rfl rfl rfl (by decide +kernel) ⟨Nat.le_of_ble_eq_true rfl, Nat.le_of_ble_eq_true rfl⟩) ⟨zPre.blind, va_recv hKc hPc (ci := 17) (q0 := 0) rfl rfl, zPre.mk hPc hKc hDc hz hS (fun q h => hFc q h)⟩ rfl rfl hl.1 rfl (lv_room (Nat.le_of_ble_eq_true rfl)) dX11_resultOf_3 ⟨Nat.le_of_ble_eq_true rfl, Nat.le_of_ble_eq_true rfl⟩) hS (fun q _ h => hFc q h) (fun q h => hFc q h) (fun q _ h => hFc q h) (fun E9 ce q9 u t H1 locs ht9 hvm hpx hBX hz1 hk1 hS hcell hv9 hcl => ?_) (fun _ _ t H1 locs _ _ hw _ _ _ _ => hw.elim)
  · cases hBX
    exact vx_out (fun x hx => (ht x hx).elim) hlocks hcell hv9 hcl (fun t9 ht9 _ => ⟨(), trivial, rfl, hS.F ht9⟩) hS.2.2 (Nat.le_of_ble_eq_true rfl) (Nat.le_of_ble_eq_true rfl)

def zX11_protest_ws : List Cond := .code yX11_protest cX11_protest 6 (some .int) :: ([.methodLink RX11 161 yX11_raceFor, .instanceMethod yX11_raceFor, .selects RX11 yX11_raceFor yX11_raceFor, .initialized RX11] ++ (zX11_raceFor_ws ++ ([])))
theorem zX11_protest_ws_good : zX11_protest_ws.all goodWord = true := by decide +kernel
set_option maxHeartbeats 4000000 in
set_option maxRecDepth 100000 in
/-- protest of games without events: throws -/
theorem c_protest (l : Launch) (hst : l.stackTraces = false) (D : va_G) (sz : Nat) (h0 : Nat) (a : Nat → Nat) (x1 x2 x3 : Int32) : vx_Met l yX11_protest zX11_protest_ws (zR 3 1 6) (zPre [.ref h0, .int x1, .int x2, .int x3] D [(h0, .inr (17, zHS a))] [] (fun q : Nat => sz ≤ q) sz) (va_Qi (S := Unit) (fun _ _ => False) (fun _ _ => True) (fun q : Nat => sz ≤ q)) (zThr "java/lang/IndexOutOfBoundsException" (fun q : Nat => sz ≤ q)) 1 6 (fun q : Nat => sz ≤ q) := by
  refine vx_ofW (cc := cX11_protest) (maxL := 6) (ret := (some .int)) (by decide) rfl ?_
  intro p e s m args below meth c s₁ B hml ht hv
  obtain ⟨rfl, hsz, hP, hK, hD0, hz⟩ := hv
  have hx := B.exec
  have hb := B.bytes
  have hr := B.returns
  have hts := atoms_spec (ws := zX11_protest_ws) B.pre
  have hown : s.vm.findClass RX11 = some m.cls := findClass_of_methodNamed B.named
  have hlocks := B.notSynchronized
  subst hsz
  obtain ⟨A, hAe⟩ : ∃ A : Nat → Prop, A = (fun q : Nat => s.heap.size ≤ q) := ⟨_, rfl⟩
  rw [← hAe] at hz ⊢
  have hA : ∀ q : Nat, s.heap.size ≤ q → A q := fun q h => by rw [hAe]; exact h
  have hD := hD0
  have hS : va_S A s.heap s.heap [] := va_S.rf
  have hP : va_P D vwCl [(h0, .inr (17, zHS a))] s.heap := hP
  have hl := lv_entry ([.ref h0, .int x1, .int x2, .int x3]) (n := 6) (Nat.le_of_ble_eq_true rfl)
  rw [lg_entry_eq]
  generalize (lg_sl ([.ref h0, .int x1, .int x2, .int x3]) ++ List.replicate (6 - (lg_sl ([.ref h0, .int x1, .int x2, .int x3])).length) Slot.unset).toArray = ls at hl ⊢
  have hl : lv_has ls 6 [(0, .ref h0), (1, .int x1), (2, .int x2), (3, .int x3)] := hl
  refine lv_aload_n hx hb dX11_protest_0 rfl (lv_at hl 0 rfl) ?_
  refine lv_iload_n hx hb dX11_protest_1 rfl (lv_at hl 1 rfl) ?_
  refine lv_iload_n hx hb dX11_protest_2 rfl (lv_at hl 2 rfl) ?_
  refine lv_iload_n hx hb dX11_protest_3 rfl (lv_at hl 3 rfl) ?_
  have hPc := hP.sub (ws' := [(h0, .inr (17, zHS a))]) [0] rfl
  have hDc := hD.sub (ws' := [(h0, .inr (17, zHS a))]) [0] (by decide) rfl
  have hKc := hK.sub (tys' := []) [] rfl
  have hFc : ∀ q : Nat, s.heap.size ≤ q → A q := fun q h => hA q (Nat.le_trans hS.1 h)
  refine vx_callq (vx_runV (As := [.int x1, .int x2, .int x3]) (rest := []) ⟨hx, hb, hml, hown, hts⟩ (c_raceFor l hst D s.heap.size h0 a x1 x2 x3) (cwV 3 hts (goodIn_app (goodIn_of _ (by decide +kernel)) (goodIn_sub (fun _ h => List.mem_cons_of_mem _ (List.mem_append_right _ (List.mem_append_left _ h))) zX11_raceFor_ws_good)) rfl rfl rfl (by decide +kernel) ⟨Nat.le_of_ble_eq_true rfl, Nat.le_of_ble_eq_true rfl⟩) ⟨zPre.blind, va_recv hKc hPc (ci := 17) (q0 := 0) rfl rfl, zPre.mk hPc hKc hDc hz hS (fun q h => hFc q h)⟩ rfl rfl hl.1 rfl (lv_room (Nat.le_of_ble_eq_true rfl)) dX11_protest_4 ⟨Nat.le_of_ble_eq_true rfl, Nat.le_of_ble_eq_true rfl⟩) hS (fun q _ h => hFc q h) (fun q h => hFc q h) (fun q _ h => hFc q h) (fun E9 ce q9 u t H1 locs ht9 hvm hpx hBX hz1 hk1 hS hcell hv9 hcl => ?_) (fun _ _ t H1 locs _ _ hw _ _ _ _ => hw.elim)
  · cases hBX
    exact vx_out (fun x hx => (ht x hx).elim) hlocks hcell hv9 hcl (fun t9 ht9 _ => ⟨(), trivial, rfl, hS.F ht9⟩) hS.2.2 (Nat.le_of_ble_eq_true rfl) (Nat.le_of_ble_eq_true rfl)

def zX11_close_ws : List Cond := .code yX11_close cX11_close 5 (some .boolean) :: ([.methodLink RX11 130 yX11_eventAt, .instanceMethod yX11_eventAt, .selects RX11 yX11_eventAt yX11_eventAt, .initialized RX11] ++ (zX11_eventAt_ws ++ ([])))
theorem zX11_close_ws_good : zX11_close_ws.all goodWord = true := by decide +kernel
set_option maxHeartbeats 4000000 in
set_option maxRecDepth 100000 in
/-- close of games without events: throws -/
theorem c_close (l : Launch) (hst : l.stackTraces = false) (D : va_G) (sz : Nat) (h0 : Nat) (a : Nat → Nat) (x1 x2 : Int32) : vx_Met l yX11_close zX11_close_ws (zR 3 1 6) (zPre [.ref h0, .int x1, .int x2] D [(h0, .inr (17, zHS a))] [] (fun q : Nat => sz ≤ q) sz) (va_Qi (S := Unit) (fun _ _ => False) (fun _ _ => True) (fun q : Nat => sz ≤ q)) (zThr "java/lang/IndexOutOfBoundsException" (fun q : Nat => sz ≤ q)) 1 6 (fun q : Nat => sz ≤ q) := by
  refine vx_ofW (cc := cX11_close) (maxL := 5) (ret := (some .boolean)) (by decide) rfl ?_
  intro p e s m args below meth c s₁ B hml ht hv
  obtain ⟨rfl, hsz, hP, hK, hD0, hz⟩ := hv
  have hx := B.exec
  have hb := B.bytes
  have hr := B.returns
  have hts := atoms_spec (ws := zX11_close_ws) B.pre
  have hown : s.vm.findClass RX11 = some m.cls := findClass_of_methodNamed B.named
  have hlocks := B.notSynchronized
  subst hsz
  obtain ⟨A, hAe⟩ : ∃ A : Nat → Prop, A = (fun q : Nat => s.heap.size ≤ q) := ⟨_, rfl⟩
  rw [← hAe] at hz ⊢
  have hA : ∀ q : Nat, s.heap.size ≤ q → A q := fun q h => by rw [hAe]; exact h
  have hD := hD0
  have hS : va_S A s.heap s.heap [] := va_S.rf
  have hP : va_P D vwCl [(h0, .inr (17, zHS a))] s.heap := hP
  have hl := lv_entry ([.ref h0, .int x1, .int x2]) (n := 5) (Nat.le_of_ble_eq_true rfl)
  rw [lg_entry_eq]
  generalize (lg_sl ([.ref h0, .int x1, .int x2]) ++ List.replicate (5 - (lg_sl ([.ref h0, .int x1, .int x2])).length) Slot.unset).toArray = ls at hl ⊢
  have hl : lv_has ls 5 [(0, .ref h0), (1, .int x1), (2, .int x2)] := hl
  refine lv_aload_n hx hb dX11_close_0 rfl (lv_at hl 0 rfl) ?_
  refine lv_iload_n hx hb dX11_close_1 rfl (lv_at hl 1 rfl) ?_
  have hPc := hP.sub (ws' := [(h0, .inr (17, zHS a))]) [0] rfl
  have hDc := hD.sub (ws' := [(h0, .inr (17, zHS a))]) [0] (by decide) rfl
  have hKc := hK.sub (tys' := []) [] rfl
  have hFc : ∀ q : Nat, s.heap.size ≤ q → A q := fun q h => hA q (Nat.le_trans hS.1 h)
  refine vx_callq (vx_runV (As := [.int x1]) (rest := []) ⟨hx, hb, hml, hown, hts⟩ (c_eventAt l hst D s.heap.size h0 a x1) (cwV 1 hts (goodIn_app (goodIn_of _ (by decide +kernel)) (goodIn_sub (fun _ h => List.mem_cons_of_mem _ (List.mem_append_right _ (List.mem_append_left _ h))) zX11_eventAt_ws_good)) rfl rfl rfl (by decide +kernel) ⟨Nat.le_of_ble_eq_true rfl, Nat.le_of_ble_eq_true rfl⟩) ⟨zPre.blind, va_recv hKc hPc (ci := 17) (q0 := 0) rfl rfl, zPre.mk hPc hKc hDc hz hS (fun q h => hFc q h)⟩ rfl rfl hl.1 rfl (lv_room (Nat.le_of_ble_eq_true rfl)) dX11_close_2 ⟨Nat.le_of_ble_eq_true rfl, Nat.le_of_ble_eq_true rfl⟩) hS (fun q _ h => hFc q h) (fun q h => hFc q h) (fun q _ h => hFc q h) (fun E9 ce q9 u t H1 locs ht9 hvm hpx hBX hz1 hk1 hS hcell hv9 hcl => ?_) (fun _ _ t H1 locs _ _ hw _ _ _ _ => hw.elim)
  · cases hBX
    exact vx_out (fun x hx => (ht x hx).elim) hlocks hcell hv9 hcl (fun t9 ht9 _ => ⟨(), trivial, rfl, hS.F ht9⟩) hS.2.2 (Nat.le_of_ble_eq_true rfl) (Nat.le_of_ble_eq_true rfl)

def zX11_record_ws : List Cond := .code yX11_record cX11_record 3 (some .int) :: ([.methodLink RX11 130 yX11_eventAt, .instanceMethod yX11_eventAt, .selects RX11 yX11_eventAt yX11_eventAt, .initialized RX11] ++ (zX11_eventAt_ws ++ ([])))
theorem zX11_record_ws_good : zX11_record_ws.all goodWord = true := by decide +kernel
set_option maxHeartbeats 4000000 in
set_option maxRecDepth 100000 in
/-- record of games without events: throws -/
theorem c_record (l : Launch) (hst : l.stackTraces = false) (D : va_G) (sz : Nat) (h0 : Nat) (a : Nat → Nat) (x1 : Int32) : vx_Met l yX11_record zX11_record_ws (zR 3 1 6) (zPre [.ref h0, .int x1] D [(h0, .inr (17, zHS a))] [] (fun q : Nat => sz ≤ q) sz) (va_Qi (S := Unit) (fun _ _ => False) (fun _ _ => True) (fun q : Nat => sz ≤ q)) (zThr "java/lang/IndexOutOfBoundsException" (fun q : Nat => sz ≤ q)) 1 6 (fun q : Nat => sz ≤ q) := by
  refine vx_ofW (cc := cX11_record) (maxL := 3) (ret := (some .int)) (by decide) rfl ?_
  intro p e s m args below meth c s₁ B hml ht hv
  obtain ⟨rfl, hsz, hP, hK, hD0, hz⟩ := hv
  have hx := B.exec
  have hb := B.bytes
  have hr := B.returns
  have hts := atoms_spec (ws := zX11_record_ws) B.pre
  have hown : s.vm.findClass RX11 = some m.cls := findClass_of_methodNamed B.named
  have hlocks := B.notSynchronized
  subst hsz
  obtain ⟨A, hAe⟩ : ∃ A : Nat → Prop, A = (fun q : Nat => s.heap.size ≤ q) := ⟨_, rfl⟩
  rw [← hAe] at hz ⊢
  have hA : ∀ q : Nat, s.heap.size ≤ q → A q := fun q h => by rw [hAe]; exact h
  have hD := hD0
  have hS : va_S A s.heap s.heap [] := va_S.rf
  have hP : va_P D vwCl [(h0, .inr (17, zHS a))] s.heap := hP
  have hl := lv_entry ([.ref h0, .int x1]) (n := 3) (Nat.le_of_ble_eq_true rfl)
  rw [lg_entry_eq]
  generalize (lg_sl ([.ref h0, .int x1]) ++ List.replicate (3 - (lg_sl ([.ref h0, .int x1])).length) Slot.unset).toArray = ls at hl ⊢
  have hl : lv_has ls 3 [(0, .ref h0), (1, .int x1)] := hl
  refine lv_aload_n hx hb dX11_record_0 rfl (lv_at hl 0 rfl) ?_
  refine lv_iload_n hx hb dX11_record_1 rfl (lv_at hl 1 rfl) ?_
  have hPc := hP.sub (ws' := [(h0, .inr (17, zHS a))]) [0] rfl
  have hDc := hD.sub (ws' := [(h0, .inr (17, zHS a))]) [0] (by decide) rfl
  have hKc := hK.sub (tys' := []) [] rfl
  have hFc : ∀ q : Nat, s.heap.size ≤ q → A q := fun q h => hA q (Nat.le_trans hS.1 h)
  refine vx_callq (vx_runV (As := [.int x1]) (rest := []) ⟨hx, hb, hml, hown, hts⟩ (c_eventAt l hst D s.heap.size h0 a x1) (cwV 1 hts (goodIn_app (goodIn_of _ (by decide +kernel)) (goodIn_sub (fun _ h => List.mem_cons_of_mem _ (List.mem_append_right _ (List.mem_append_left _ h))) zX11_eventAt_ws_good)) rfl rfl rfl (by decide +kernel) ⟨Nat.le_of_ble_eq_true rfl, Nat.le_of_ble_eq_true rfl⟩) ⟨zPre.blind, va_recv hKc hPc (ci := 17) (q0 := 0) rfl rfl, zPre.mk hPc hKc hDc hz hS (fun q h => hFc q h)⟩ rfl rfl hl.1 rfl (lv_room (Nat.le_of_ble_eq_true rfl)) dX11_record_2 ⟨Nat.le_of_ble_eq_true rfl, Nat.le_of_ble_eq_true rfl⟩) hS (fun q _ h => hFc q h) (fun q h => hFc q h) (fun q _ h => hFc q h) (fun E9 ce q9 u t H1 locs ht9 hvm hpx hBX hz1 hk1 hS hcell hv9 hcl => ?_) (fun _ _ t H1 locs _ _ hw _ _ _ _ => hw.elim)
  · cases hBX
    exact vx_out (fun x hx => (ht x hx).elim) hlocks hcell hv9 hcl (fun t9 ht9 _ => ⟨(), trivial, rfl, hS.F ht9⟩) hS.2.2 (Nat.le_of_ble_eq_true rfl) (Nat.le_of_ble_eq_true rfl)

def zX11_holder_ws : List Cond := .code yX11_holder cX11_holder 2 (some .int) :: ([.methodLink RX11 130 yX11_eventAt, .instanceMethod yX11_eventAt, .selects RX11 yX11_eventAt yX11_eventAt, .initialized RX11] ++ (zX11_eventAt_ws ++ ([])))
theorem zX11_holder_ws_good : zX11_holder_ws.all goodWord = true := by decide +kernel
set_option maxHeartbeats 4000000 in
set_option maxRecDepth 100000 in
/-- holder of games without events: throws -/
theorem c_holder (l : Launch) (hst : l.stackTraces = false) (D : va_G) (sz : Nat) (h0 : Nat) (a : Nat → Nat) (x1 : Int32) : vx_Met l yX11_holder zX11_holder_ws (zR 3 1 6) (zPre [.ref h0, .int x1] D [(h0, .inr (17, zHS a))] [] (fun q : Nat => sz ≤ q) sz) (va_Qi (S := Unit) (fun _ _ => False) (fun _ _ => True) (fun q : Nat => sz ≤ q)) (zThr "java/lang/IndexOutOfBoundsException" (fun q : Nat => sz ≤ q)) 1 6 (fun q : Nat => sz ≤ q) := by
  refine vx_ofW (cc := cX11_holder) (maxL := 2) (ret := (some .int)) (by decide) rfl ?_
  intro p e s m args below meth c s₁ B hml ht hv
  obtain ⟨rfl, hsz, hP, hK, hD0, hz⟩ := hv
  have hx := B.exec
  have hb := B.bytes
  have hr := B.returns
  have hts := atoms_spec (ws := zX11_holder_ws) B.pre
  have hown : s.vm.findClass RX11 = some m.cls := findClass_of_methodNamed B.named
  have hlocks := B.notSynchronized
  subst hsz
  obtain ⟨A, hAe⟩ : ∃ A : Nat → Prop, A = (fun q : Nat => s.heap.size ≤ q) := ⟨_, rfl⟩
  rw [← hAe] at hz ⊢
  have hA : ∀ q : Nat, s.heap.size ≤ q → A q := fun q h => by rw [hAe]; exact h
  have hD := hD0
  have hS : va_S A s.heap s.heap [] := va_S.rf
  have hP : va_P D vwCl [(h0, .inr (17, zHS a))] s.heap := hP
  have hl := lv_entry ([.ref h0, .int x1]) (n := 2) (Nat.le_of_ble_eq_true rfl)
  rw [lg_entry_eq]
  generalize (lg_sl ([.ref h0, .int x1]) ++ List.replicate (2 - (lg_sl ([.ref h0, .int x1])).length) Slot.unset).toArray = ls at hl ⊢
  have hl : lv_has ls 2 [(0, .ref h0), (1, .int x1)] := hl
  refine lv_aload_n hx hb dX11_holder_0 rfl (lv_at hl 0 rfl) ?_
  refine lv_aload_n hx hb dX11_holder_1 rfl (lv_at hl 0 rfl) ?_
  refine lv_iload_n hx hb dX11_holder_2 rfl (lv_at hl 1 rfl) ?_
  have hPc := hP.sub (ws' := [(h0, .inr (17, zHS a))]) [0] rfl
  have hDc := hD.sub (ws' := [(h0, .inr (17, zHS a))]) [0] (by decide) rfl
  have hKc := hK.sub (tys' := []) [] rfl
  have hFc : ∀ q : Nat, s.heap.size ≤ q → A q := fun q h => hA q (Nat.le_trans hS.1 h)
  refine vx_callq (vx_runV (As := [.int x1]) (rest := [.ref h0]) ⟨hx, hb, hml, hown, hts⟩ (c_eventAt l hst D s.heap.size h0 a x1) (cwV 1 hts (goodIn_app (goodIn_of _ (by decide +kernel)) (goodIn_sub (fun _ h => List.mem_cons_of_mem _ (List.mem_append_right _ (List.mem_append_left _ h))) zX11_eventAt_ws_good)) rfl rfl rfl (by decide +kernel) ⟨Nat.le_of_ble_eq_true rfl, Nat.le_of_ble_eq_true rfl⟩) ⟨zPre.blind, va_recv hKc hPc (ci := 17) (q0 := 0) rfl rfl, zPre.mk hPc hKc hDc hz hS (fun q h => hFc q h)⟩ rfl rfl hl.1 rfl (lv_room (Nat.le_of_ble_eq_true rfl)) dX11_holder_3 ⟨Nat.le_of_ble_eq_true rfl, Nat.le_of_ble_eq_true rfl⟩) hS (fun q _ h => hFc q h) (fun q h => hFc q h) (fun q _ h => hFc q h) (fun E9 ce q9 u t H1 locs ht9 hvm hpx hBX hz1 hk1 hS hcell hv9 hcl => ?_) (fun _ _ t H1 locs _ _ hw _ _ _ _ => hw.elim)
  · cases hBX
    exact vx_out (fun x hx => (ht x hx).elim) hlocks hcell hv9 hcl (fun t9 ht9 _ => ⟨(), trivial, rfl, hS.F ht9⟩) hS.2.2 (Nat.le_of_ble_eq_true rfl) (Nat.le_of_ble_eq_true rfl)

def zX11_sharers_ws : List Cond := .code yX11_sharers cX11_sharers 2 (some .int) :: ([.methodLink RX11 130 yX11_eventAt, .instanceMethod yX11_eventAt, .selects RX11 yX11_eventAt yX11_eventAt, .initialized RX11] ++ (zX11_eventAt_ws ++ ([])))
theorem zX11_sharers_ws_good : zX11_sharers_ws.all goodWord = true := by decide +kernel
set_option maxHeartbeats 4000000 in
set_option maxRecDepth 100000 in
/-- sharers of games without events: throws -/
theorem c_sharers (l : Launch) (hst : l.stackTraces = false) (D : va_G) (sz : Nat) (h0 : Nat) (a : Nat → Nat) (x1 : Int32) : vx_Met l yX11_sharers zX11_sharers_ws (zR 3 1 6) (zPre [.ref h0, .int x1] D [(h0, .inr (17, zHS a))] [] (fun q : Nat => sz ≤ q) sz) (va_Qi (S := Unit) (fun _ _ => False) (fun _ _ => True) (fun q : Nat => sz ≤ q)) (zThr "java/lang/IndexOutOfBoundsException" (fun q : Nat => sz ≤ q)) 1 6 (fun q : Nat => sz ≤ q) := by
  refine vx_ofW (cc := cX11_sharers) (maxL := 2) (ret := (some .int)) (by decide) rfl ?_
  intro p e s m args below meth c s₁ B hml ht hv
  obtain ⟨rfl, hsz, hP, hK, hD0, hz⟩ := hv
  have hx := B.exec
  have hb := B.bytes
  have hr := B.returns
  have hts := atoms_spec (ws := zX11_sharers_ws) B.pre
  have hown : s.vm.findClass RX11 = some m.cls := findClass_of_methodNamed B.named
  have hlocks := B.notSynchronized
  subst hsz
  obtain ⟨A, hAe⟩ : ∃ A : Nat → Prop, A = (fun q : Nat => s.heap.size ≤ q) := ⟨_, rfl⟩
  rw [← hAe] at hz ⊢
  have hA : ∀ q : Nat, s.heap.size ≤ q → A q := fun q h => by rw [hAe]; exact h
  have hD := hD0
  have hS : va_S A s.heap s.heap [] := va_S.rf
  have hP : va_P D vwCl [(h0, .inr (17, zHS a))] s.heap := hP
  have hl := lv_entry ([.ref h0, .int x1]) (n := 2) (Nat.le_of_ble_eq_true rfl)
  rw [lg_entry_eq]
  generalize (lg_sl ([.ref h0, .int x1]) ++ List.replicate (2 - (lg_sl ([.ref h0, .int x1])).length) Slot.unset).toArray = ls at hl ⊢
  have hl : lv_has ls 2 [(0, .ref h0), (1, .int x1)] := hl
  refine lv_aload_n hx hb dX11_sharers_0 rfl (lv_at hl 0 rfl) ?_
  refine lv_aload_n hx hb dX11_sharers_1 rfl (lv_at hl 0 rfl) ?_
  refine lv_iload_n hx hb dX11_sharers_2 rfl (lv_at hl 1 rfl) ?_
  have hPc := hP.sub (ws' := [(h0, .inr (17, zHS a))]) [0] rfl
  have hDc := hD.sub (ws' := [(h0, .inr (17, zHS a))]) [0] (by decide) rfl
  have hKc := hK.sub (tys' := []) [] rfl
  have hFc : ∀ q : Nat, s.heap.size ≤ q → A q := fun q h => hA q (Nat.le_trans hS.1 h)
  refine vx_callq (vx_runV (As := [.int x1]) (rest := [.ref h0]) ⟨hx, hb, hml, hown, hts⟩ (c_eventAt l hst D s.heap.size h0 a x1) (cwV 1 hts (goodIn_app (goodIn_of _ (by decide +kernel)) (goodIn_sub (fun _ h => List.mem_cons_of_mem _ (List.mem_append_right _ (List.mem_append_left _ h))) zX11_eventAt_ws_good)) rfl rfl rfl (by decide +kernel) ⟨Nat.le_of_ble_eq_true rfl, Nat.le_of_ble_eq_true rfl⟩) ⟨zPre.blind, va_recv hKc hPc (ci := 17) (q0 := 0) rfl rfl, zPre.mk hPc hKc hDc hz hS (fun q h => hFc q h)⟩ rfl rfl hl.1 rfl (lv_room (Nat.le_of_ble_eq_true rfl)) dX11_sharers_3 ⟨Nat.le_of_ble_eq_true rfl, Nat.le_of_ble_eq_true rfl⟩) hS (fun q _ h => hFc q h) (fun q h => hFc q h) (fun q _ h => hFc q h) (fun E9 ce q9 u t H1 locs ht9 hvm hpx hBX hz1 hk1 hS hcell hv9 hcl => ?_) (fun _ _ t H1 locs _ _ hw _ _ _ _ => hw.elim)
  · cases hBX
    exact vx_out (fun x hx => (ht x hx).elim) hlocks hcell hv9 hcl (fun t9 ht9 _ => ⟨(), trivial, rfl, hS.F ht9⟩) hS.2.2 (Nat.le_of_ble_eq_true rfl) (Nat.le_of_ble_eq_true rfl)

def zX11_dope_ws : List Cond := .code yX11_dope cX11_dope 4 (some .boolean) :: ([.methodLink RX11 317 yX11_requireAthlete, .instanceMethod yX11_requireAthlete, .selects RX11 yX11_requireAthlete yX11_requireAthlete, .initialized RX11] ++ (zX11_requireAthlete_ws ++ ([])))
theorem zX11_dope_ws_good : zX11_dope_ws.all goodWord = true := by decide +kernel
set_option maxHeartbeats 4000000 in
set_option maxRecDepth 100000 in
/-- dope of games without athletes: throws -/
theorem c_dope (l : Launch) (hst : l.stackTraces = false) (D : va_G) (sz : Nat) (h0 : Nat) (a : Nat → Nat) (a1 a2 : Nat) (x1 x2 : Int32) : vx_Met l yX11_dope zX11_dope_ws (zR 3 1 6) (zPre [.ref h0, .int x1, .int x2] D [(h0, .inr (17, zHS a)), ((a 0), .inr (6, [.ref a1, .ref a2, .int 0]))] [] (fun q : Nat => sz ≤ q) sz) (va_Qi (S := Unit) (fun _ _ => False) (fun _ _ => True) (fun q : Nat => sz ≤ q)) (zThr "java/lang/IndexOutOfBoundsException" (fun q : Nat => sz ≤ q)) 1 6 (fun q : Nat => sz ≤ q) := by
  refine vx_ofW (cc := cX11_dope) (maxL := 4) (ret := (some .boolean)) (by decide) rfl ?_
  intro p e s m args below meth c s₁ B hml ht hv
  obtain ⟨rfl, hsz, hP, hK, hD0, hz⟩ := hv
  have hx := B.exec
  have hb := B.bytes
  have hr := B.returns
  have hts := atoms_spec (ws := zX11_dope_ws) B.pre
  have hown : s.vm.findClass RX11 = some m.cls := findClass_of_methodNamed B.named
  have hlocks := B.notSynchronized
  subst hsz
  obtain ⟨A, hAe⟩ : ∃ A : Nat → Prop, A = (fun q : Nat => s.heap.size ≤ q) := ⟨_, rfl⟩
  rw [← hAe] at hz ⊢
  have hA : ∀ q : Nat, s.heap.size ≤ q → A q := fun q h => by rw [hAe]; exact h
  have hD := hD0
  have hS : va_S A s.heap s.heap [] := va_S.rf
  have hP : va_P D vwCl [(h0, .inr (17, zHS a)), ((a 0), .inr (6, [.ref a1, .ref a2, .int 0]))] s.heap := hP
  have hl := lv_entry ([.ref h0, .int x1, .int x2]) (n := 4) (Nat.le_of_ble_eq_true rfl)
  rw [lg_entry_eq]
  generalize (lg_sl ([.ref h0, .int x1, .int x2]) ++ List.replicate (4 - (lg_sl ([.ref h0, .int x1, .int x2])).length) Slot.unset).toArray = ls at hl ⊢
  have hl : lv_has ls 4 [(0, .ref h0), (1, .int x1), (2, .int x2)] := hl
  refine lv_aload_n hx hb dX11_dope_0 rfl (lv_at hl 0 rfl) ?_
  refine lv_iload_n hx hb dX11_dope_1 rfl (lv_at hl 1 rfl) ?_
  have hPc := hP.sub (ws' := [(h0, .inr (17, zHS a)), ((a 0), .inr (6, [.ref a1, .ref a2, .int 0]))]) [0, 1] rfl
  have hDc := hD.sub (ws' := [(h0, .inr (17, zHS a)), ((a 0), .inr (6, [.ref a1, .ref a2, .int 0]))]) [0, 1] (by decide) rfl
  have hKc := hK.sub (tys' := []) [] rfl
  have hFc : ∀ q : Nat, s.heap.size ≤ q → A q := fun q h => hA q (Nat.le_trans hS.1 h)
  refine vx_callv (vx_runV (As := [.int x1]) (rest := []) ⟨hx, hb, hml, hown, hts⟩ (c_requireAthlete l hst D s.heap.size h0 a a1 a2 x1) (cwV 1 hts (goodIn_app (goodIn_of _ (by decide +kernel)) (goodIn_sub (fun _ h => List.mem_cons_of_mem _ (List.mem_append_right _ (List.mem_append_left _ h))) zX11_requireAthlete_ws_good)) rfl rfl rfl (by decide +kernel) ⟨Nat.le_of_ble_eq_true rfl, Nat.le_of_ble_eq_true rfl⟩) ⟨zPre.blind, va_recv hKc hPc (ci := 17) (q0 := 0) rfl rfl, zPre.mk hPc hKc hDc hz hS (fun q h => hFc q h)⟩ rfl rfl hl.1 rfl (lv_room (Nat.le_of_ble_eq_true rfl)) dX11_dope_2 ⟨Nat.le_of_ble_eq_true rfl, Nat.le_of_ble_eq_true rfl⟩) hS (fun q _ h => hFc q h) (fun q h => hFc q h) (fun q _ h => hFc q h) (fun E9 ce q9 u t H1 locs ht9 hvm hpx hBX hz1 hk1 hS hcell hv9 hcl => ?_) (fun _ t H1 locs _ _ hw _ _ _ _ => hw.elim)
  · cases hBX
    exact vx_out (fun x hx => (ht x hx).elim) hlocks hcell hv9 hcl (fun t9 ht9 _ => ⟨(), trivial, rfl, hS.F ht9⟩) hS.2.2 (Nat.le_of_ble_eq_true rfl) (Nat.le_of_ble_eq_true rfl)

def zX11_decide_ws : List Cond := .code yX11_decide cX11_decide 3 (some .long) :: ([.classLink RX11 299 "java/lang/IndexOutOfBoundsException", .initialized "java/lang/IndexOutOfBoundsException", .fieldLink RX11 25 "HeatStadium" "protests" "LHeatStadium$Protests;"] ++ (((vx_atS RX11 303 "java/lang/IndexOutOfBoundsException" ["java/lang/RuntimeException", "java/lang/Exception"]).filter goodWord) ++ (wsX110 ++ (wsX50 ++ ([])))))
theorem zX11_decide_ws_good : zX11_decide_ws.all goodWord = true := by decide +kernel
set_option maxHeartbeats 4000000 in
set_option maxRecDepth 100000 in
/-- decide of games without protests: throws -/
theorem c_decide (l : Launch) (hst : l.stackTraces = false) (D : va_G) (sz : Nat) (h0 : Nat) (a : Nat → Nat) (p1 p2 p3 : Nat) (x1 x2 : Int32) : vx_Met l yX11_decide zX11_decide_ws (zR 3 1 6) (zPre [.ref h0, .int x1, .int x2] D [(h0, .inr (17, zHS a)), ((a 2), .inr (11, [.ref p1, .ref p2, .ref p3, .int 0, .long 0]))] [] (fun q : Nat => sz ≤ q) sz) (va_Ql (S := Unit) (fun _ _ => False) (fun _ _ => True) (fun q : Nat => sz ≤ q)) (zThr "java/lang/IndexOutOfBoundsException" (fun q : Nat => sz ≤ q)) 1 6 (fun q : Nat => sz ≤ q) := by
  refine vx_ofW (cc := cX11_decide) (maxL := 3) (ret := (some .long)) (by decide) rfl ?_
  intro p e s m args below meth c s₁ B hml ht hv
  obtain ⟨rfl, hsz, hP, hK, hD0, hz⟩ := hv
  have hx := B.exec
  have hb := B.bytes
  have hr := B.returns
  have hts := atoms_spec (ws := zX11_decide_ws) B.pre
  have hown : s.vm.findClass RX11 = some m.cls := findClass_of_methodNamed B.named
  have hlocks := B.notSynchronized
  subst hsz
  obtain ⟨A, hAe⟩ : ∃ A : Nat → Prop, A = (fun q : Nat => s.heap.size ≤ q) := ⟨_, rfl⟩
  rw [← hAe] at hz ⊢
  have hA : ∀ q : Nat, s.heap.size ≤ q → A q := fun q h => by rw [hAe]; exact h
  have hD := hD0
  have hS : va_S A s.heap s.heap [] := va_S.rf
  have hP : va_P D vwCl [(h0, .inr (17, zHS a)), ((a 2), .inr (11, [.ref p1, .ref p2, .ref p3, .int 0, .long 0]))] s.heap := hP
  have hl := lv_entry ([.ref h0, .int x1, .int x2]) (n := 3) (Nat.le_of_ble_eq_true rfl)
  rw [lg_entry_eq]
  generalize (lg_sl ([.ref h0, .int x1, .int x2]) ++ List.replicate (3 - (lg_sl ([.ref h0, .int x1, .int x2])).length) Slot.unset).toArray = ls at hl ⊢
  have hl : lv_has ls 3 [(0, .ref h0), (1, .int x1), (2, .int x2)] := hl
  refine lv_iload_n hx hb dX11_decide_0 rfl (lv_at hl 1 rfl) ?_
  refine lv_if_lt (tgt := 15) hx hb dX11_decide_1 (by decide) (fun c1 => ?_) (fun c1 => ?_)
  · obtain ⟨sa, hstr⟩ := hz.2.1 (RX11, 301, "no such protest") (by decide +kernel)
    exact vx_throwSW (names := ["java/lang/RuntimeException", "java/lang/Exception"]) hx hb hst hown (by decide +kernel) (by decide +kernel) (hts (.classLink RX11 299 "java/lang/IndexOutOfBoundsException") (by decide +kernel)) (hts (.initialized "java/lang/IndexOutOfBoundsException") (by decide +kernel)) hstr (vx_hat (B := zWords) (fun w hw => hts w (List.mem_cons_of_mem _ (List.mem_append_right _ (List.mem_append_left _ hw)))) (by decide +kernel) (fun w hw => hz.w w hw)) (List.all_eq_true.mp (by decide +kernel)) hz.1.1 hz.1.2 hS (hml ▸ hl.1) dX11_decide_15 dX11_decide_18 dX11_decide_19 dX11_decide_22 dX11_decide_25 (fun x hx => (ht x hx).elim) (Nat.le_of_ble_eq_true rfl) (Nat.le_of_ble_eq_true rfl) (Nat.le_of_ble_eq_true rfl) (Nat.le_of_ble_eq_true rfl) hlocks (fun t _ h1 h2 => ⟨(), trivial, rfl, zF hS h1 h2⟩) hS.2.2 (Nat.le_of_ble_eq_true rfl) (Nat.le_of_ble_eq_true rfl)
  · refine lv_iload_n hx hb dX11_decide_4 rfl (lv_at hl 1 rfl) ?_
    refine lv_aload_n hx hb dX11_decide_5 rfl (lv_at hl 0 rfl) ?_
    refine va_get (D := D) (ci := 17) (v := .ref (a 2)) (C := RX11) (T := TX11) (N := 11) hx hb hts (by decide +kernel) hown hK hP 0 rfl rfl 2 (by decide) (hts (.fieldLink RX11 25 "HeatStadium" "protests" "LHeatStadium$Protests;") (by decide +kernel)) (fun _ h9 => h9) rfl dX11_decide_6 ?_
    refine va_getN (D := D) (ci := 11) (v := .int 0) (C := RX5) (T := TX5) (N := 5) hx hb hts (by decide +kernel) hown hK hP 1 rfl rfl 3 (by decide) (hz.w (.fieldLinkNest RX11 292 "HeatStadium$Protests" "count" "I" RX11) (by decide +kernel)) (fun _ h9 => h9) rfl dX11_decide_9 ?_
    refine lv_icmp_lt (tgt := 26) hx hb dX11_decide_12 (by decide) (fun c9 => absurd c9 c1) (fun _ => ?_)
    obtain ⟨sa, hstr⟩ := hz.2.1 (RX11, 301, "no such protest") (by decide +kernel)
    exact vx_throwSW (names := ["java/lang/RuntimeException", "java/lang/Exception"]) hx hb hst hown (by decide +kernel) (by decide +kernel) (hts (.classLink RX11 299 "java/lang/IndexOutOfBoundsException") (by decide +kernel)) (hts (.initialized "java/lang/IndexOutOfBoundsException") (by decide +kernel)) hstr (vx_hat (B := zWords) (fun w hw => hts w (List.mem_cons_of_mem _ (List.mem_append_right _ (List.mem_append_left _ hw)))) (by decide +kernel) (fun w hw => hz.w w hw)) (List.all_eq_true.mp (by decide +kernel)) hz.1.1 hz.1.2 hS (hml ▸ hl.1) dX11_decide_15 dX11_decide_18 dX11_decide_19 dX11_decide_22 dX11_decide_25 (fun x hx => (ht x hx).elim) (Nat.le_of_ble_eq_true rfl) (Nat.le_of_ble_eq_true rfl) (Nat.le_of_ble_eq_true rfl) (Nat.le_of_ble_eq_true rfl) hlocks (fun t _ h1 h2 => ⟨(), trivial, rfl, zF hS h1 h2⟩) hS.2.2 (Nat.le_of_ble_eq_true rfl) (Nat.le_of_ble_eq_true rfl)
end
section
/-! printed rows that this part uses -/
theorem dL_enter_0 : decode cL_enter 0 = .ok (.aload 4, 2) := by decide +kernel
theorem dL_enter_2 : decode cL_enter 2 = .ok (.iconst 0, 1) := by decide +kernel
theorem dL_enter_3 : decode cL_enter 3 = .ok (.aload_n 0, 1) := by decide +kernel
theorem dL_enter_4 : decode cL_enter 4 = .ok (.iload_n 1, 1) := by decide +kernel
theorem dL_enter_5 : decode cL_enter 5 = .ok (.iload_n 2, 1) := by decide +kernel
theorem dL_enter_6 : decode cL_enter 6 = .ok (.iload_n 3, 1) := by decide +kernel
theorem dL_enter_7 : decode cL_enter 7 = .ok (.invokevirtual 21, 3) := by decide +kernel
theorem dL_enter_15 : decode cL_enter 15 = .ok (.astore 5, 2) := by decide +kernel
theorem dL_enter_17 : decode cL_enter 17 = .ok (.iconst 1, 1) := by decide +kernel
theorem dL_enter_18 : decode cL_enter 18 = .ok (.ireturn, 1) := by decide +kernel
theorem dL_withdraw_0 : decode cL_withdraw 0 = .ok (.aload 4, 2) := by decide +kernel
theorem dL_withdraw_2 : decode cL_withdraw 2 = .ok (.iconst 0, 1) := by decide +kernel
theorem dL_withdraw_3 : decode cL_withdraw 3 = .ok (.aload_n 0, 1) := by decide +kernel
theorem dL_withdraw_4 : decode cL_withdraw 4 = .ok (.iload_n 1, 1) := by decide +kernel
theorem dL_withdraw_5 : decode cL_withdraw 5 = .ok (.iload_n 2, 1) := by decide +kernel
theorem dL_withdraw_6 : decode cL_withdraw 6 = .ok (.iload_n 3, 1) := by decide +kernel
theorem dL_withdraw_7 : decode cL_withdraw 7 = .ok (.invokevirtual 27, 3) := by decide +kernel
theorem dL_withdraw_22 : decode cL_withdraw 22 = .ok (.astore 5, 2) := by decide +kernel
theorem dL_withdraw_24 : decode cL_withdraw 24 = .ok (.iconst 1, 1) := by decide +kernel
theorem dL_withdraw_25 : decode cL_withdraw 25 = .ok (.ireturn, 1) := by decide +kernel
theorem dL_field_0 : decode cL_field 0 = .ok (.aload_n 2, 1) := by decide +kernel
theorem dL_field_1 : decode cL_field 1 = .ok (.iconst 0, 1) := by decide +kernel
theorem dL_field_2 : decode cL_field 2 = .ok (.aload_n 0, 1) := by decide +kernel
theorem dL_field_3 : decode cL_field 3 = .ok (.iload_n 1, 1) := by decide +kernel
theorem dL_field_4 : decode cL_field 4 = .ok (.invokevirtual 33, 3) := by decide +kernel
theorem dL_field_12 : decode cL_field 12 = .ok (.astore_n 3, 1) := by decide +kernel
theorem dL_field_13 : decode cL_field 13 = .ok (.iconst 1, 1) := by decide +kernel
theorem dL_field_14 : decode cL_field 14 = .ok (.ireturn, 1) := by decide +kernel
theorem dL_inField_0 : decode cL_inField 0 = .ok (.aload_n 3, 1) := by decide +kernel
theorem dL_inField_1 : decode cL_inField 1 = .ok (.iconst 0, 1) := by decide +kernel
theorem dL_inField_2 : decode cL_inField 2 = .ok (.aload_n 0, 1) := by decide +kernel
theorem dL_inField_3 : decode cL_inField 3 = .ok (.iload_n 1, 1) := by decide +kernel
theorem dL_inField_4 : decode cL_inField 4 = .ok (.iload_n 2, 1) := by decide +kernel
theorem dL_inField_5 : decode cL_inField 5 = .ok (.invokevirtual 36, 3) := by decide +kernel
theorem dL_inField_13 : decode cL_inField 13 = .ok (.astore 4, 2) := by decide +kernel
theorem dL_inField_15 : decode cL_inField 15 = .ok (.iconst 1, 1) := by decide +kernel
theorem dL_inField_16 : decode cL_inField 16 = .ok (.ireturn, 1) := by decide +kernel
theorem dL_heatOf_0 : decode cL_heatOf 0 = .ok (.aload_n 3, 1) := by decide +kernel
theorem dL_heatOf_1 : decode cL_heatOf 1 = .ok (.iconst 0, 1) := by decide +kernel
theorem dL_heatOf_2 : decode cL_heatOf 2 = .ok (.aload_n 0, 1) := by decide +kernel
theorem dL_heatOf_3 : decode cL_heatOf 3 = .ok (.iload_n 1, 1) := by decide +kernel
theorem dL_heatOf_4 : decode cL_heatOf 4 = .ok (.iload_n 2, 1) := by decide +kernel
theorem dL_heatOf_5 : decode cL_heatOf 5 = .ok (.invokevirtual 43, 3) := by decide +kernel
theorem dL_heatOf_13 : decode cL_heatOf 13 = .ok (.astore 4, 2) := by decide +kernel
theorem dL_heatOf_15 : decode cL_heatOf 15 = .ok (.iconst 1, 1) := by decide +kernel
theorem dL_heatOf_16 : decode cL_heatOf 16 = .ok (.ireturn, 1) := by decide +kernel
theorem dL_laneOf_0 : decode cL_laneOf 0 = .ok (.aload 4, 2) := by decide +kernel
theorem dL_laneOf_2 : decode cL_laneOf 2 = .ok (.iconst 0, 1) := by decide +kernel
theorem dL_laneOf_3 : decode cL_laneOf 3 = .ok (.aload_n 0, 1) := by decide +kernel
theorem dL_laneOf_4 : decode cL_laneOf 4 = .ok (.iload_n 1, 1) := by decide +kernel
theorem dL_laneOf_5 : decode cL_laneOf 5 = .ok (.iload_n 2, 1) := by decide +kernel
theorem dL_laneOf_6 : decode cL_laneOf 6 = .ok (.iload_n 3, 1) := by decide +kernel
theorem dL_laneOf_7 : decode cL_laneOf 7 = .ok (.invokevirtual 48, 3) := by decide +kernel
theorem dL_laneOf_15 : decode cL_laneOf 15 = .ok (.astore 5, 2) := by decide +kernel
theorem dL_laneOf_17 : decode cL_laneOf 17 = .ok (.iconst 1, 1) := by decide +kernel
theorem dL_laneOf_18 : decode cL_laneOf 18 = .ok (.ireturn, 1) := by decide +kernel
theorem dL_time_0 : decode cL_time 0 = .ok (.aload 7, 2) := by decide +kernel
theorem dL_time_2 : decode cL_time 2 = .ok (.iconst 0, 1) := by decide +kernel
theorem dL_time_3 : decode cL_time 3 = .ok (.aload_n 0, 1) := by decide +kernel
theorem dL_time_4 : decode cL_time 4 = .ok (.iload_n 1, 1) := by decide +kernel
theorem dL_time_5 : decode cL_time 5 = .ok (.iload_n 2, 1) := by decide +kernel
theorem dL_time_6 : decode cL_time 6 = .ok (.iload_n 3, 1) := by decide +kernel
theorem dL_time_7 : decode cL_time 7 = .ok (.iload 4, 2) := by decide +kernel
theorem dL_time_9 : decode cL_time 9 = .ok (.iload 5, 2) := by decide +kernel
theorem dL_time_11 : decode cL_time 11 = .ok (.iload 6, 2) := by decide +kernel
theorem dL_time_13 : decode cL_time 13 = .ok (.invokevirtual 51, 3) := by decide +kernel
theorem dL_time_21 : decode cL_time 21 = .ok (.astore 8, 2) := by decide +kernel
theorem dL_time_23 : decode cL_time 23 = .ok (.iconst 1, 1) := by decide +kernel
theorem dL_time_24 : decode cL_time 24 = .ok (.ireturn, 1) := by decide +kernel
theorem dL_react_0 : decode cL_react 0 = .ok (.aload 5, 2) := by decide +kernel
theorem dL_react_2 : decode cL_react 2 = .ok (.iconst 0, 1) := by decide +kernel
theorem dL_react_3 : decode cL_react 3 = .ok (.aload_n 0, 1) := by decide +kernel
theorem dL_react_4 : decode cL_react 4 = .ok (.iload_n 1, 1) := by decide +kernel
theorem dL_react_5 : decode cL_react 5 = .ok (.iload_n 2, 1) := by decide +kernel
theorem dL_react_6 : decode cL_react 6 = .ok (.iload_n 3, 1) := by decide +kernel
theorem dL_react_7 : decode cL_react 7 = .ok (.iload 4, 2) := by decide +kernel
theorem dL_react_9 : decode cL_react 9 = .ok (.invokevirtual 55, 3) := by decide +kernel
theorem dL_react_24 : decode cL_react 24 = .ok (.astore 6, 2) := by decide +kernel
theorem dL_react_26 : decode cL_react 26 = .ok (.iconst 1, 1) := by decide +kernel
theorem dL_react_27 : decode cL_react 27 = .ok (.ireturn, 1) := by decide +kernel
theorem dL_putOut_0 : decode cL_putOut 0 = .ok (.aload 4, 2) := by decide +kernel
theorem dL_putOut_2 : decode cL_putOut 2 = .ok (.iconst 0, 1) := by decide +kernel
theorem dL_putOut_3 : decode cL_putOut 3 = .ok (.aload_n 0, 1) := by decide +kernel
theorem dL_putOut_4 : decode cL_putOut 4 = .ok (.iload_n 1, 1) := by decide +kernel
theorem dL_putOut_5 : decode cL_putOut 5 = .ok (.iload_n 2, 1) := by decide +kernel
theorem dL_putOut_6 : decode cL_putOut 6 = .ok (.iload_n 3, 1) := by decide +kernel
theorem dL_putOut_7 : decode cL_putOut 7 = .ok (.invokevirtual 59, 3) := by decide +kernel
theorem dL_putOut_22 : decode cL_putOut 22 = .ok (.astore 5, 2) := by decide +kernel
theorem dL_putOut_24 : decode cL_putOut 24 = .ok (.iconst 1, 1) := by decide +kernel
theorem dL_putOut_25 : decode cL_putOut 25 = .ok (.ireturn, 1) := by decide +kernel
theorem dL_isOut_0 : decode cL_isOut 0 = .ok (.aload 4, 2) := by decide +kernel
theorem dL_isOut_2 : decode cL_isOut 2 = .ok (.iconst 0, 1) := by decide +kernel
theorem dL_isOut_3 : decode cL_isOut 3 = .ok (.aload_n 0, 1) := by decide +kernel
theorem dL_isOut_4 : decode cL_isOut 4 = .ok (.iload_n 1, 1) := by decide +kernel
theorem dL_isOut_5 : decode cL_isOut 5 = .ok (.iload_n 2, 1) := by decide +kernel
theorem dL_isOut_6 : decode cL_isOut 6 = .ok (.iload_n 3, 1) := by decide +kernel
theorem dL_isOut_7 : decode cL_isOut 7 = .ok (.invokevirtual 63, 3) := by decide +kernel
theorem dL_isOut_22 : decode cL_isOut 22 = .ok (.astore 5, 2) := by decide +kernel
theorem dL_isOut_24 : decode cL_isOut 24 = .ok (.iconst 1, 1) := by decide +kernel
theorem dL_isOut_25 : decode cL_isOut 25 = .ok (.ireturn, 1) := by decide +kernel
theorem dL_inFinal_0 : decode cL_inFinal 0 = .ok (.aload_n 3, 1) := by decide +kernel
theorem dL_inFinal_1 : decode cL_inFinal 1 = .ok (.iconst 0, 1) := by decide +kernel
theorem dL_inFinal_2 : decode cL_inFinal 2 = .ok (.aload_n 0, 1) := by decide +kernel
theorem dL_inFinal_3 : decode cL_inFinal 3 = .ok (.iload_n 1, 1) := by decide +kernel
theorem dL_inFinal_4 : decode cL_inFinal 4 = .ok (.iload_n 2, 1) := by decide +kernel
theorem dL_inFinal_5 : decode cL_inFinal 5 = .ok (.invokevirtual 66, 3) := by decide +kernel
theorem dL_inFinal_13 : decode cL_inFinal 13 = .ok (.astore 4, 2) := by decide +kernel
theorem dL_inFinal_15 : decode cL_inFinal 15 = .ok (.iconst 1, 1) := by decide +kernel
theorem dL_inFinal_16 : decode cL_inFinal 16 = .ok (.ireturn, 1) := by decide +kernel
theorem dL_bar_0 : decode cL_bar 0 = .ok (.aload_n 3, 1) := by decide +kernel
theorem dL_bar_1 : decode cL_bar 1 = .ok (.iconst 0, 1) := by decide +kernel
theorem dL_bar_2 : decode cL_bar 2 = .ok (.aload_n 0, 1) := by decide +kernel
theorem dL_bar_3 : decode cL_bar 3 = .ok (.iload_n 1, 1) := by decide +kernel
theorem dL_bar_4 : decode cL_bar 4 = .ok (.iload_n 2, 1) := by decide +kernel
theorem dL_bar_5 : decode cL_bar 5 = .ok (.invokevirtual 69, 3) := by decide +kernel
theorem dL_bar_13 : decode cL_bar 13 = .ok (.astore 4, 2) := by decide +kernel
theorem dL_bar_15 : decode cL_bar 15 = .ok (.iconst 1, 1) := by decide +kernel
theorem dL_bar_16 : decode cL_bar 16 = .ok (.ireturn, 1) := by decide +kernel
theorem dL_jump_0 : decode cL_jump 0 = .ok (.aload 4, 2) := by decide +kernel
theorem dL_jump_2 : decode cL_jump 2 = .ok (.iconst 0, 1) := by decide +kernel
theorem dL_jump_3 : decode cL_jump 3 = .ok (.aload_n 0, 1) := by decide +kernel
theorem dL_jump_4 : decode cL_jump 4 = .ok (.iload_n 1, 1) := by decide +kernel
theorem dL_jump_5 : decode cL_jump 5 = .ok (.iload_n 2, 1) := by decide +kernel
theorem dL_jump_6 : decode cL_jump 6 = .ok (.iload_n 3, 1) := by decide +kernel
theorem dL_jump_7 : decode cL_jump 7 = .ok (.invokevirtual 72, 3) := by decide +kernel
theorem dL_jump_15 : decode cL_jump 15 = .ok (.astore 5, 2) := by decide +kernel
theorem dL_jump_17 : decode cL_jump 17 = .ok (.iconst 1, 1) := by decide +kernel
theorem dL_jump_18 : decode cL_jump 18 = .ok (.ireturn, 1) := by decide +kernel
theorem dL_put_0 : decode cL_put 0 = .ok (.aload 4, 2) := by decide +kernel
theorem dL_put_2 : decode cL_put 2 = .ok (.iconst 0, 1) := by decide +kernel
theorem dL_put_3 : decode cL_put 3 = .ok (.aload_n 0, 1) := by decide +kernel
theorem dL_put_4 : decode cL_put 4 = .ok (.iload_n 1, 1) := by decide +kernel
theorem dL_put_5 : decode cL_put 5 = .ok (.iload_n 2, 1) := by decide +kernel
theorem dL_put_6 : decode cL_put 6 = .ok (.iload_n 3, 1) := by decide +kernel
theorem dL_put_7 : decode cL_put 7 = .ok (.invokevirtual 76, 3) := by decide +kernel
theorem dL_put_15 : decode cL_put 15 = .ok (.astore 5, 2) := by decide +kernel
theorem dL_put_17 : decode cL_put 17 = .ok (.iconst 1, 1) := by decide +kernel
theorem dL_put_18 : decode cL_put 18 = .ok (.ireturn, 1) := by decide +kernel
theorem dL_rankOf_0 : decode cL_rankOf 0 = .ok (.aload_n 3, 1) := by decide +kernel
theorem dL_rankOf_1 : decode cL_rankOf 1 = .ok (.iconst 0, 1) := by decide +kernel
theorem dL_rankOf_2 : decode cL_rankOf 2 = .ok (.aload_n 0, 1) := by decide +kernel
theorem dL_rankOf_3 : decode cL_rankOf 3 = .ok (.iload_n 1, 1) := by decide +kernel
theorem dL_rankOf_4 : decode cL_rankOf 4 = .ok (.iload_n 2, 1) := by decide +kernel
theorem dL_rankOf_5 : decode cL_rankOf 5 = .ok (.invokevirtual 79, 3) := by decide +kernel
theorem dL_rankOf_13 : decode cL_rankOf 13 = .ok (.astore 4, 2) := by decide +kernel
theorem dL_rankOf_15 : decode cL_rankOf 15 = .ok (.iconst 1, 1) := by decide +kernel
theorem dL_rankOf_16 : decode cL_rankOf 16 = .ok (.ireturn, 1) := by decide +kernel
theorem dL_resultOf_0 : decode cL_resultOf 0 = .ok (.aload_n 3, 1) := by decide +kernel
theorem dL_resultOf_1 : decode cL_resultOf 1 = .ok (.iconst 0, 1) := by decide +kernel
theorem dL_resultOf_2 : decode cL_resultOf 2 = .ok (.aload_n 0, 1) := by decide +kernel
theorem dL_resultOf_3 : decode cL_resultOf 3 = .ok (.iload_n 1, 1) := by decide +kernel
theorem dL_resultOf_4 : decode cL_resultOf 4 = .ok (.iload_n 2, 1) := by decide +kernel
theorem dL_resultOf_5 : decode cL_resultOf 5 = .ok (.invokevirtual 82, 3) := by decide +kernel
theorem dL_resultOf_13 : decode cL_resultOf 13 = .ok (.astore 4, 2) := by decide +kernel
theorem dL_resultOf_15 : decode cL_resultOf 15 = .ok (.iconst 1, 1) := by decide +kernel
theorem dL_resultOf_16 : decode cL_resultOf 16 = .ok (.ireturn, 1) := by decide +kernel
theorem dL_protest_0 : decode cL_protest 0 = .ok (.aload 4, 2) := by decide +kernel
theorem dL_protest_2 : decode cL_protest 2 = .ok (.iconst 0, 1) := by decide +kernel
theorem dL_protest_3 : decode cL_protest 3 = .ok (.aload_n 0, 1) := by decide +kernel
theorem dL_protest_4 : decode cL_protest 4 = .ok (.iload_n 1, 1) := by decide +kernel
theorem dL_protest_5 : decode cL_protest 5 = .ok (.iload_n 2, 1) := by decide +kernel
theorem dL_protest_6 : decode cL_protest 6 = .ok (.iload_n 3, 1) := by decide +kernel
theorem dL_protest_7 : decode cL_protest 7 = .ok (.invokevirtual 85, 3) := by decide +kernel
theorem dL_protest_15 : decode cL_protest 15 = .ok (.astore 5, 2) := by decide +kernel
theorem dL_protest_17 : decode cL_protest 17 = .ok (.iconst 1, 1) := by decide +kernel
theorem dL_protest_18 : decode cL_protest 18 = .ok (.ireturn, 1) := by decide +kernel
theorem dL_decide_0 : decode cL_decide 0 = .ok (.aload_n 3, 1) := by decide +kernel
theorem dL_decide_1 : decode cL_decide 1 = .ok (.iconst 0, 1) := by decide +kernel
theorem dL_decide_2 : decode cL_decide 2 = .ok (.aload_n 0, 1) := by decide +kernel
theorem dL_decide_3 : decode cL_decide 3 = .ok (.iload_n 1, 1) := by decide +kernel
theorem dL_decide_4 : decode cL_decide 4 = .ok (.iload_n 2, 1) := by decide +kernel
theorem dL_decide_5 : decode cL_decide 5 = .ok (.invokevirtual 88, 3) := by decide +kernel
theorem dL_decide_12 : decode cL_decide 12 = .ok (.astore 4, 2) := by decide +kernel
theorem dL_decide_14 : decode cL_decide 14 = .ok (.iconst 1, 1) := by decide +kernel
theorem dL_decide_15 : decode cL_decide 15 = .ok (.ireturn, 1) := by decide +kernel
theorem dL_dope_0 : decode cL_dope 0 = .ok (.aload_n 3, 1) := by decide +kernel
theorem dL_dope_1 : decode cL_dope 1 = .ok (.iconst 0, 1) := by decide +kernel
theorem dL_dope_2 : decode cL_dope 2 = .ok (.aload_n 0, 1) := by decide +kernel
theorem dL_dope_3 : decode cL_dope 3 = .ok (.iload_n 1, 1) := by decide +kernel
theorem dL_dope_4 : decode cL_dope 4 = .ok (.iload_n 2, 1) := by decide +kernel
theorem dL_dope_5 : decode cL_dope 5 = .ok (.invokevirtual 92, 3) := by decide +kernel
theorem dL_dope_20 : decode cL_dope 20 = .ok (.astore 4, 2) := by decide +kernel
theorem dL_dope_22 : decode cL_dope 22 = .ok (.iconst 1, 1) := by decide +kernel
theorem dL_dope_23 : decode cL_dope 23 = .ok (.ireturn, 1) := by decide +kernel
theorem dL_close_0 : decode cL_close 0 = .ok (.aload_n 3, 1) := by decide +kernel
theorem dL_close_1 : decode cL_close 1 = .ok (.iconst 0, 1) := by decide +kernel
theorem dL_close_2 : decode cL_close 2 = .ok (.aload_n 0, 1) := by decide +kernel
theorem dL_close_3 : decode cL_close 3 = .ok (.iload_n 1, 1) := by decide +kernel
theorem dL_close_4 : decode cL_close 4 = .ok (.iload_n 2, 1) := by decide +kernel
theorem dL_close_5 : decode cL_close 5 = .ok (.invokevirtual 96, 3) := by decide +kernel
theorem dL_close_20 : decode cL_close 20 = .ok (.astore 4, 2) := by decide +kernel
theorem dL_close_22 : decode cL_close 22 = .ok (.iconst 1, 1) := by decide +kernel
theorem dL_close_23 : decode cL_close 23 = .ok (.ireturn, 1) := by decide +kernel
theorem dL_record_0 : decode cL_record 0 = .ok (.aload_n 2, 1) := by decide +kernel
theorem dL_record_1 : decode cL_record 1 = .ok (.iconst 0, 1) := by decide +kernel
theorem dL_record_2 : decode cL_record 2 = .ok (.aload_n 0, 1) := by decide +kernel
theorem dL_record_3 : decode cL_record 3 = .ok (.iload_n 1, 1) := by decide +kernel
theorem dL_record_4 : decode cL_record 4 = .ok (.invokevirtual 99, 3) := by decide +kernel
theorem dL_record_12 : decode cL_record 12 = .ok (.astore_n 3, 1) := by decide +kernel
theorem dL_record_13 : decode cL_record 13 = .ok (.iconst 1, 1) := by decide +kernel
theorem dL_record_14 : decode cL_record 14 = .ok (.ireturn, 1) := by decide +kernel
theorem dL_holder_0 : decode cL_holder 0 = .ok (.aload_n 2, 1) := by decide +kernel
theorem dL_holder_1 : decode cL_holder 1 = .ok (.iconst 0, 1) := by decide +kernel
theorem dL_holder_2 : decode cL_holder 2 = .ok (.aload_n 0, 1) := by decide +kernel
theorem dL_holder_3 : decode cL_holder 3 = .ok (.iload_n 1, 1) := by decide +kernel
theorem dL_holder_4 : decode cL_holder 4 = .ok (.invokevirtual 102, 3) := by decide +kernel
theorem dL_holder_12 : decode cL_holder 12 = .ok (.astore_n 3, 1) := by decide +kernel
theorem dL_holder_13 : decode cL_holder 13 = .ok (.iconst 1, 1) := by decide +kernel
theorem dL_holder_14 : decode cL_holder 14 = .ok (.ireturn, 1) := by decide +kernel
theorem dL_sharers_0 : decode cL_sharers 0 = .ok (.aload_n 2, 1) := by decide +kernel
theorem dL_sharers_1 : decode cL_sharers 1 = .ok (.iconst 0, 1) := by decide +kernel
theorem dL_sharers_2 : decode cL_sharers 2 = .ok (.aload_n 0, 1) := by decide +kernel
theorem dL_sharers_3 : decode cL_sharers 3 = .ok (.iload_n 1, 1) := by decide +kernel
theorem dL_sharers_4 : decode cL_sharers 4 = .ok (.invokevirtual 105, 3) := by decide +kernel
theorem dL_sharers_12 : decode cL_sharers 12 = .ok (.astore_n 3, 1) := by decide +kernel
theorem dL_sharers_13 : decode cL_sharers 13 = .ok (.iconst 1, 1) := by decide +kernel
theorem dL_sharers_14 : decode cL_sharers 14 = .ok (.ireturn, 1) := by decide +kernel
def zL_enter_ws : List Cond := .codeWith yL_enter cL_enter 6 (some .int) [(0, 12, 15, 25), (0, 12, 19, 13), (0, 12, 23, 15)] :: ([.methodLink RL 21 yX11_enter, .instanceMethod yX11_enter, .selects RX11 yX11_enter yX11_enter, .initialized RX11, .classLink RL 25 "java/lang/IndexOutOfBoundsException"] ++ (zX11_enter_ws ++ ([])))
theorem zL_enter_ws_good : zL_enter_ws.all goodWord = true := by decide +kernel
set_option maxHeartbeats 4000000 in
set_option maxRecDepth 100000 in
/-- the law's enter: 1 is thrown -/
theorem cl_enter (l : Launch) (hst : l.stackTraces = false) (D : va_G) (sz : Nat) (h0 : Nat) (a : Nat → Nat) (x1 x2 x3 : Int32) (o : Nat) : vx_Met l yL_enter zL_enter_ws (zR 4 1 6) (zPre [.ref h0, .int x1, .int x2, .int x3, .ref o] D [(h0, .inr (17, zHS a))] [] (fun q : Nat => sz ≤ q) sz) (va_Qi (S := Unit) (fun r _ => r = 1) (fun _ _ => True) (fun q : Nat => sz ≤ q)) (fun _ _ _ => False) 1 6 (fun q : Nat => sz ≤ q) := by
  refine vx_ofWH (cc := cL_enter) (maxL := 6) (ret := (some .int)) (by decide) rfl ?_
  intro p e s m args below meth c s₁ B hml hv
  have htb : c.exceptionTable.toList = tableOf [(0, 12, 15, 25), (0, 12, 19, 13), (0, 12, 23, 15)] := vx_table (x := yL_enter) B (atoms_spec (ws := zL_enter_ws) B.pre _ List.mem_cons_self)
  obtain ⟨rfl, hsz, hP, hK, hD0, hz⟩ := hv
  have hx := B.exec
  have hb := B.bytes
  have hr := B.returns
  have hts := atoms_spec (ws := zL_enter_ws) B.pre
  have hown : s.vm.findClass RL = some m.cls := findClass_of_methodNamed B.named
  have hlocks := B.notSynchronized
  subst hsz
  obtain ⟨A, hAe⟩ : ∃ A : Nat → Prop, A = (fun q : Nat => s.heap.size ≤ q) := ⟨_, rfl⟩
  rw [← hAe] at hz ⊢
  have hA : ∀ q : Nat, s.heap.size ≤ q → A q := fun q h => by rw [hAe]; exact h
  have hD := hD0
  have hS : va_S A s.heap s.heap [] := va_S.rf
  have hP : va_P D vwCl [(h0, .inr (17, zHS a))] s.heap := hP
  have hl := lv_entry ([.ref h0, .int x1, .int x2, .int x3, .ref o]) (n := 6) (Nat.le_of_ble_eq_true rfl)
  rw [lg_entry_eq]
  generalize (lg_sl ([.ref h0, .int x1, .int x2, .int x3, .ref o]) ++ List.replicate (6 - (lg_sl ([.ref h0, .int x1, .int x2, .int x3, .ref o])).length) Slot.unset).toArray = ls at hl ⊢
  have hl : lv_has ls 6 [(0, .ref h0), (1, .int x1), (2, .int x2), (3, .int x3), (4, .ref o)] := hl
  refine lv_aload hx hb dL_enter_0 (lv_at hl 4 rfl) ?_
  refine lv_iconst (v := 0) hx hb dL_enter_2 (by decide) ?_
  refine lv_aload_n hx hb dL_enter_3 rfl (lv_at hl 0 rfl) ?_
  refine lv_iload_n hx hb dL_enter_4 rfl (lv_at hl 1 rfl) ?_
  refine lv_iload_n hx hb dL_enter_5 rfl (lv_at hl 2 rfl) ?_
  refine lv_iload_n hx hb dL_enter_6 rfl (lv_at hl 3 rfl) ?_
  have hPc := hP.sub (ws' := [(h0, .inr (17, zHS a))]) [0] rfl
  have hDc := hD.sub (ws' := [(h0, .inr (17, zHS a))]) [0] (by decide) rfl
  have hKc := hK.sub (tys' := []) [] rfl
  have hFc : ∀ q : Nat, s.heap.size ≤ q → A q := fun q h => hA q (Nat.le_trans hS.1 h)
  refine vx_calli (vx_runV (As := [.int x1, .int x2, .int x3]) (rest := [.int 0, .ref o]) ⟨hx, hb, hml, hown, hts⟩ (c_enter l hst D s.heap.size h0 a x1 x2 x3) (cwV 3 hts (goodIn_app (goodIn_of _ (by decide +kernel)) (goodIn_sub (fun _ h => List.mem_cons_of_mem _ (List.mem_append_right _ (List.mem_append_left _ h))) zX11_enter_ws_good)) rfl rfl rfl (by decide +kernel) ⟨Nat.le_of_ble_eq_true rfl, Nat.le_of_ble_eq_true rfl⟩) ⟨zPre.blind, va_recv hKc hPc (ci := 17) (q0 := 0) rfl rfl, zPre.mk hPc hKc hDc hz hS (fun q h => hFc q h)⟩ rfl rfl hl.1 rfl (lv_room (Nat.le_of_ble_eq_true rfl)) dL_enter_7 ⟨Nat.le_of_ble_eq_true rfl, Nat.le_of_ble_eq_true rfl⟩) hS (fun q _ h => hFc q h) (fun q h => hFc q h) (fun q _ h => hFc q h) (fun E9 ce q9 u t H1 locs ht9 hvm hpx hBX hz1 hk1 hS hcell hv9 hcl => ?_) (fun _ _ t H1 locs _ _ hw _ _ _ _ => hw.elim)
  · cases hBX
    refine vx_catch hown [] _ _ htb (fun z hz9 => nomatch hz9) (by decide) (by decide) (hts (.classLink RL 25 "java/lang/IndexOutOfBoundsException") (by decide +kernel)) (hz.w (.castable "java/lang/IndexOutOfBoundsException" "java/lang/IndexOutOfBoundsException") (by decide +kernel)) hcell hv9 hcl ?_
    refine W.eq (g2 := F0 m 15 ls [.ref q9]) rfl ?_
    refine lv_astore (lv' := [(5, .ref q9), (0, .ref h0), (1, .int x1), (2, .int x2), (3, .int x3), (4, .ref o)]) hx hb dL_enter_15 hl (by decide) rfl (fun ls hl => ?_)
    refine lv_iconst (v := 1) hx hb dL_enter_17 (by decide) ?_
    refine W.widen (k := 1) (n := 6) (by omega) (by omega) ?_
    refine vx_ret ?_
    exact W.iret (v := 1) hx hb hr (fun t ht9 hW => ⟨⟨1, (), rfl, rfl, trivial⟩, hS.F ht9⟩) hS.2.2 dL_enter_18

def zL_withdraw_ws : List Cond := .codeWith yL_withdraw cL_withdraw 6 (some .int) [(0, 19, 22, 25), (0, 19, 26, 31), (0, 19, 30, 15)] :: ([.methodLink RL 27 yX11_withdraw, .instanceMethod yX11_withdraw, .selects RX11 yX11_withdraw yX11_withdraw, .initialized RX11, .classLink RL 25 "java/lang/IndexOutOfBoundsException"] ++ (zX11_withdraw_ws ++ ([])))
theorem zL_withdraw_ws_good : zL_withdraw_ws.all goodWord = true := by decide +kernel
set_option maxHeartbeats 4000000 in
set_option maxRecDepth 100000 in
/-- the law's withdraw: 1 is thrown -/
theorem cl_withdraw (l : Launch) (hst : l.stackTraces = false) (D : va_G) (sz : Nat) (h0 : Nat) (a : Nat → Nat) (x1 x2 x3 : Int32) (o : Nat) : vx_Met l yL_withdraw zL_withdraw_ws (zR 4 1 6) (zPre [.ref h0, .int x1, .int x2, .int x3, .ref o] D [(h0, .inr (17, zHS a))] [] (fun q : Nat => sz ≤ q) sz) (va_Qi (S := Unit) (fun r _ => r = 1) (fun _ _ => True) (fun q : Nat => sz ≤ q)) (fun _ _ _ => False) 1 6 (fun q : Nat => sz ≤ q) := by
  refine vx_ofWH (cc := cL_withdraw) (maxL := 6) (ret := (some .int)) (by decide) rfl ?_
  intro p e s m args below meth c s₁ B hml hv
  have htb : c.exceptionTable.toList = tableOf [(0, 19, 22, 25), (0, 19, 26, 31), (0, 19, 30, 15)] := vx_table (x := yL_withdraw) B (atoms_spec (ws := zL_withdraw_ws) B.pre _ List.mem_cons_self)
  obtain ⟨rfl, hsz, hP, hK, hD0, hz⟩ := hv
  have hx := B.exec
  have hb := B.bytes
  have hr := B.returns
  have hts := atoms_spec (ws := zL_withdraw_ws) B.pre
  have hown : s.vm.findClass RL = some m.cls := findClass_of_methodNamed B.named
  have hlocks := B.notSynchronized
  subst hsz
  obtain ⟨A, hAe⟩ : ∃ A : Nat → Prop, A = (fun q : Nat => s.heap.size ≤ q) := ⟨_, rfl⟩
  rw [← hAe] at hz ⊢
  have hA : ∀ q : Nat, s.heap.size ≤ q → A q := fun q h => by rw [hAe]; exact h
  have hD := hD0
  have hS : va_S A s.heap s.heap [] := va_S.rf
  have hP : va_P D vwCl [(h0, .inr (17, zHS a))] s.heap := hP
  have hl := lv_entry ([.ref h0, .int x1, .int x2, .int x3, .ref o]) (n := 6) (Nat.le_of_ble_eq_true rfl)
  rw [lg_entry_eq]
  generalize (lg_sl ([.ref h0, .int x1, .int x2, .int x3, .ref o]) ++ List.replicate (6 - (lg_sl ([.ref h0, .int x1, .int x2, .int x3, .ref o])).length) Slot.unset).toArray = ls at hl ⊢
  have hl : lv_has ls 6 [(0, .ref h0), (1, .int x1), (2, .int x2), (3, .int x3), (4, .ref o)] := hl
  refine lv_aload hx hb dL_withdraw_0 (lv_at hl 4 rfl) ?_
  refine lv_iconst (v := 0) hx hb dL_withdraw_2 (by decide) ?_
  refine lv_aload_n hx hb dL_withdraw_3 rfl (lv_at hl 0 rfl) ?_
  refine lv_iload_n hx hb dL_withdraw_4 rfl (lv_at hl 1 rfl) ?_
  refine lv_iload_n hx hb dL_withdraw_5 rfl (lv_at hl 2 rfl) ?_
  refine lv_iload_n hx hb dL_withdraw_6 rfl (lv_at hl 3 rfl) ?_
  have hPc := hP.sub (ws' := [(h0, .inr (17, zHS a))]) [0] rfl
  have hDc := hD.sub (ws' := [(h0, .inr (17, zHS a))]) [0] (by decide) rfl
  have hKc := hK.sub (tys' := []) [] rfl
  have hFc : ∀ q : Nat, s.heap.size ≤ q → A q := fun q h => hA q (Nat.le_trans hS.1 h)
  refine vx_calli (vx_runV (As := [.int x1, .int x2, .int x3]) (rest := [.int 0, .ref o]) ⟨hx, hb, hml, hown, hts⟩ (c_withdraw l hst D s.heap.size h0 a x1 x2 x3) (cwV 3 hts (goodIn_app (goodIn_of _ (by decide +kernel)) (goodIn_sub (fun _ h => List.mem_cons_of_mem _ (List.mem_append_right _ (List.mem_append_left _ h))) zX11_withdraw_ws_good)) rfl rfl rfl (by decide +kernel) ⟨Nat.le_of_ble_eq_true rfl, Nat.le_of_ble_eq_true rfl⟩) ⟨zPre.blind, va_recv hKc hPc (ci := 17) (q0 := 0) rfl rfl, zPre.mk hPc hKc hDc hz hS (fun q h => hFc q h)⟩ rfl rfl hl.1 rfl (lv_room (Nat.le_of_ble_eq_true rfl)) dL_withdraw_7 ⟨Nat.le_of_ble_eq_true rfl, Nat.le_of_ble_eq_true rfl⟩) hS (fun q _ h => hFc q h) (fun q h => hFc q h) (fun q _ h => hFc q h) (fun E9 ce q9 u t H1 locs ht9 hvm hpx hBX hz1 hk1 hS hcell hv9 hcl => ?_) (fun _ _ t H1 locs _ _ hw _ _ _ _ => hw.elim)
  · cases hBX
    refine vx_catch hown [] _ _ htb (fun z hz9 => nomatch hz9) (by decide) (by decide) (hts (.classLink RL 25 "java/lang/IndexOutOfBoundsException") (by decide +kernel)) (hz.w (.castable "java/lang/IndexOutOfBoundsException" "java/lang/IndexOutOfBoundsException") (by decide +kernel)) hcell hv9 hcl ?_
    refine W.eq (g2 := F0 m 22 ls [.ref q9]) rfl ?_
    refine lv_astore (lv' := [(5, .ref q9), (0, .ref h0), (1, .int x1), (2, .int x2), (3, .int x3), (4, .ref o)]) hx hb dL_withdraw_22 hl (by decide) rfl (fun ls hl => ?_)
    refine lv_iconst (v := 1) hx hb dL_withdraw_24 (by decide) ?_
    refine W.widen (k := 1) (n := 6) (by omega) (by omega) ?_
    refine vx_ret ?_
    exact W.iret (v := 1) hx hb hr (fun t ht9 hW => ⟨⟨1, (), rfl, rfl, trivial⟩, hS.F ht9⟩) hS.2.2 dL_withdraw_25

def zL_field_ws : List Cond := .codeWith yL_field cL_field 4 (some .int) [(0, 9, 12, 25)] :: ([.methodLink RL 33 yX11_field, .instanceMethod yX11_field, .selects RX11 yX11_field yX11_field, .initialized RX11, .classLink RL 25 "java/lang/IndexOutOfBoundsException"] ++ (zX11_field_ws ++ ([])))
theorem zL_field_ws_good : zL_field_ws.all goodWord = true := by decide +kernel
set_option maxHeartbeats 4000000 in
set_option maxRecDepth 100000 in
/-- the law's field: 1 is thrown -/
theorem cl_field (l : Launch) (hst : l.stackTraces = false) (D : va_G) (sz : Nat) (h0 : Nat) (a : Nat → Nat) (x1 : Int32) (o : Nat) : vx_Met l yL_field zL_field_ws (zR 4 1 6) (zPre [.ref h0, .int x1, .ref o] D [(h0, .inr (17, zHS a))] [] (fun q : Nat => sz ≤ q) sz) (va_Qi (S := Unit) (fun r _ => r = 1) (fun _ _ => True) (fun q : Nat => sz ≤ q)) (fun _ _ _ => False) 1 6 (fun q : Nat => sz ≤ q) := by
  refine vx_ofWH (cc := cL_field) (maxL := 4) (ret := (some .int)) (by decide) rfl ?_
  intro p e s m args below meth c s₁ B hml hv
  have htb : c.exceptionTable.toList = tableOf [(0, 9, 12, 25)] := vx_table (x := yL_field) B (atoms_spec (ws := zL_field_ws) B.pre _ List.mem_cons_self)
  obtain ⟨rfl, hsz, hP, hK, hD0, hz⟩ := hv
  have hx := B.exec
  have hb := B.bytes
  have hr := B.returns
  have hts := atoms_spec (ws := zL_field_ws) B.pre
  have hown : s.vm.findClass RL = some m.cls := findClass_of_methodNamed B.named
  have hlocks := B.notSynchronized
  subst hsz
  obtain ⟨A, hAe⟩ : ∃ A : Nat → Prop, A = (fun q : Nat => s.heap.size ≤ q) := ⟨_, rfl⟩
  rw [← hAe] at hz ⊢
  have hA : ∀ q : Nat, s.heap.size ≤ q → A q := fun q h => by rw [hAe]; exact h
  have hD := hD0
  have hS : va_S A s.heap s.heap [] := va_S.rf
  have hP : va_P D vwCl [(h0, .inr (17, zHS a))] s.heap := hP
  have hl := lv_entry ([.ref h0, .int x1, .ref o]) (n := 4) (Nat.le_of_ble_eq_true rfl)
  rw [lg_entry_eq]
  generalize (lg_sl ([.ref h0, .int x1, .ref o]) ++ List.replicate (4 - (lg_sl ([.ref h0, .int x1, .ref o])).length) Slot.unset).toArray = ls at hl ⊢
  have hl : lv_has ls 4 [(0, .ref h0), (1, .int x1), (2, .ref o)] := hl
  refine lv_aload_n hx hb dL_field_0 rfl (lv_at hl 2 rfl) ?_
  refine lv_iconst (v := 0) hx hb dL_field_1 (by decide) ?_
  refine lv_aload_n hx hb dL_field_2 rfl (lv_at hl 0 rfl) ?_
  refine lv_iload_n hx hb dL_field_3 rfl (lv_at hl 1 rfl) ?_
  have hPc := hP.sub (ws' := [(h0, .inr (17, zHS a))]) [0] rfl
  have hDc := hD.sub (ws' := [(h0, .inr (17, zHS a))]) [0] (by decide) rfl
  have hKc := hK.sub (tys' := []) [] rfl
  have hFc : ∀ q : Nat, s.heap.size ≤ q → A q := fun q h => hA q (Nat.le_trans hS.1 h)
  refine vx_calli (vx_runV (As := [.int x1]) (rest := [.int 0, .ref o]) ⟨hx, hb, hml, hown, hts⟩ (c_field l hst D s.heap.size h0 a x1) (cwV 1 hts (goodIn_app (goodIn_of _ (by decide +kernel)) (goodIn_sub (fun _ h => List.mem_cons_of_mem _ (List.mem_append_right _ (List.mem_append_left _ h))) zX11_field_ws_good)) rfl rfl rfl (by decide +kernel) ⟨Nat.le_of_ble_eq_true rfl, Nat.le_of_ble_eq_true rfl⟩) ⟨zPre.blind, va_recv hKc hPc (ci := 17) (q0 := 0) rfl rfl, zPre.mk hPc hKc hDc hz hS (fun q h => hFc q h)⟩ rfl rfl hl.1 rfl (lv_room (Nat.le_of_ble_eq_true rfl)) dL_field_4 ⟨Nat.le_of_ble_eq_true rfl, Nat.le_of_ble_eq_true rfl⟩) hS (fun q _ h => hFc q h) (fun q h => hFc q h) (fun q _ h => hFc q h) (fun E9 ce q9 u t H1 locs ht9 hvm hpx hBX hz1 hk1 hS hcell hv9 hcl => ?_) (fun _ _ t H1 locs _ _ hw _ _ _ _ => hw.elim)
  · cases hBX
    refine vx_catch hown [] _ _ htb (fun z hz9 => nomatch hz9) (by decide) (by decide) (hts (.classLink RL 25 "java/lang/IndexOutOfBoundsException") (by decide +kernel)) (hz.w (.castable "java/lang/IndexOutOfBoundsException" "java/lang/IndexOutOfBoundsException") (by decide +kernel)) hcell hv9 hcl ?_
    refine W.eq (g2 := F0 m 12 ls [.ref q9]) rfl ?_
    refine lv_astore_n (lv' := [(3, .ref q9), (0, .ref h0), (1, .int x1), (2, .ref o)]) hx hb dL_field_12 rfl hl (by decide) rfl (fun ls hl => ?_)
    refine lv_iconst (v := 1) hx hb dL_field_13 (by decide) ?_
    refine W.widen (k := 1) (n := 6) (by omega) (by omega) ?_
    refine vx_ret ?_
    exact W.iret (v := 1) hx hb hr (fun t ht9 hW => ⟨⟨1, (), rfl, rfl, trivial⟩, hS.F ht9⟩) hS.2.2 dL_field_14

def zL_inField_ws : List Cond := .codeWith yL_inField cL_inField 5 (some .int) [(0, 10, 13, 25), (0, 10, 17, 31)] :: ([.methodLink RL 36 yX11_inField, .instanceMethod yX11_inField, .selects RX11 yX11_inField yX11_inField, .initialized RX11, .classLink RL 25 "java/lang/IndexOutOfBoundsException"] ++ (zX11_inField_ws ++ ([])))
theorem zL_inField_ws_good : zL_inField_ws.all goodWord = true := by decide +kernel
set_option maxHeartbeats 4000000 in
set_option maxRecDepth 100000 in
/-- the law's inField: 1 is thrown -/
theorem cl_inField (l : Launch) (hst : l.stackTraces = false) (D : va_G) (sz : Nat) (h0 : Nat) (a : Nat → Nat) (x1 x2 : Int32) (o : Nat) : vx_Met l yL_inField zL_inField_ws (zR 4 1 6) (zPre [.ref h0, .int x1, .int x2, .ref o] D [(h0, .inr (17, zHS a))] [] (fun q : Nat => sz ≤ q) sz) (va_Qi (S := Unit) (fun r _ => r = 1) (fun _ _ => True) (fun q : Nat => sz ≤ q)) (fun _ _ _ => False) 1 6 (fun q : Nat => sz ≤ q) := by
  refine vx_ofWH (cc := cL_inField) (maxL := 5) (ret := (some .int)) (by decide) rfl ?_
  intro p e s m args below meth c s₁ B hml hv
  have htb : c.exceptionTable.toList = tableOf [(0, 10, 13, 25), (0, 10, 17, 31)] := vx_table (x := yL_inField) B (atoms_spec (ws := zL_inField_ws) B.pre _ List.mem_cons_self)
  obtain ⟨rfl, hsz, hP, hK, hD0, hz⟩ := hv
  have hx := B.exec
  have hb := B.bytes
  have hr := B.returns
  have hts := atoms_spec (ws := zL_inField_ws) B.pre
  have hown : s.vm.findClass RL = some m.cls := findClass_of_methodNamed B.named
  have hlocks := B.notSynchronized
  subst hsz
  obtain ⟨A, hAe⟩ : ∃ A : Nat → Prop, A = (fun q : Nat => s.heap.size ≤ q) := ⟨_, rfl⟩
  rw [← hAe] at hz ⊢
  have hA : ∀ q : Nat, s.heap.size ≤ q → A q := fun q h => by rw [hAe]; exact h
  have hD := hD0
  have hS : va_S A s.heap s.heap [] := va_S.rf
  have hP : va_P D vwCl [(h0, .inr (17, zHS a))] s.heap := hP
  have hl := lv_entry ([.ref h0, .int x1, .int x2, .ref o]) (n := 5) (Nat.le_of_ble_eq_true rfl)
  rw [lg_entry_eq]
  generalize (lg_sl ([.ref h0, .int x1, .int x2, .ref o]) ++ List.replicate (5 - (lg_sl ([.ref h0, .int x1, .int x2, .ref o])).length) Slot.unset).toArray = ls at hl ⊢
  have hl : lv_has ls 5 [(0, .ref h0), (1, .int x1), (2, .int x2), (3, .ref o)] := hl
  refine lv_aload_n hx hb dL_inField_0 rfl (lv_at hl 3 rfl) ?_
  refine lv_iconst (v := 0) hx hb dL_inField_1 (by decide) ?_
  refine lv_aload_n hx hb dL_inField_2 rfl (lv_at hl 0 rfl) ?_
  refine lv_iload_n hx hb dL_inField_3 rfl (lv_at hl 1 rfl) ?_
  refine lv_iload_n hx hb dL_inField_4 rfl (lv_at hl 2 rfl) ?_
  have hPc := hP.sub (ws' := [(h0, .inr (17, zHS a))]) [0] rfl
  have hDc := hD.sub (ws' := [(h0, .inr (17, zHS a))]) [0] (by decide) rfl
  have hKc := hK.sub (tys' := []) [] rfl
  have hFc : ∀ q : Nat, s.heap.size ≤ q → A q := fun q h => hA q (Nat.le_trans hS.1 h)
  refine vx_calli (vx_runV (As := [.int x1, .int x2]) (rest := [.int 0, .ref o]) ⟨hx, hb, hml, hown, hts⟩ (c_inField l hst D s.heap.size h0 a x1 x2) (cwV 2 hts (goodIn_app (goodIn_of _ (by decide +kernel)) (goodIn_sub (fun _ h => List.mem_cons_of_mem _ (List.mem_append_right _ (List.mem_append_left _ h))) zX11_inField_ws_good)) rfl rfl rfl (by decide +kernel) ⟨Nat.le_of_ble_eq_true rfl, Nat.le_of_ble_eq_true rfl⟩) ⟨zPre.blind, va_recv hKc hPc (ci := 17) (q0 := 0) rfl rfl, zPre.mk hPc hKc hDc hz hS (fun q h => hFc q h)⟩ rfl rfl hl.1 rfl (lv_room (Nat.le_of_ble_eq_true rfl)) dL_inField_5 ⟨Nat.le_of_ble_eq_true rfl, Nat.le_of_ble_eq_true rfl⟩) hS (fun q _ h => hFc q h) (fun q h => hFc q h) (fun q _ h => hFc q h) (fun E9 ce q9 u t H1 locs ht9 hvm hpx hBX hz1 hk1 hS hcell hv9 hcl => ?_) (fun _ _ t H1 locs _ _ hw _ _ _ _ => hw.elim)
  · cases hBX
    refine vx_catch hown [] _ _ htb (fun z hz9 => nomatch hz9) (by decide) (by decide) (hts (.classLink RL 25 "java/lang/IndexOutOfBoundsException") (by decide +kernel)) (hz.w (.castable "java/lang/IndexOutOfBoundsException" "java/lang/IndexOutOfBoundsException") (by decide +kernel)) hcell hv9 hcl ?_
    refine W.eq (g2 := F0 m 13 ls [.ref q9]) rfl ?_
    refine lv_astore (lv' := [(4, .ref q9), (0, .ref h0), (1, .int x1), (2, .int x2), (3, .ref o)]) hx hb dL_inField_13 hl (by decide) rfl (fun ls hl => ?_)
    refine lv_iconst (v := 1) hx hb dL_inField_15 (by decide) ?_
    refine W.widen (k := 1) (n := 6) (by omega) (by omega) ?_
    refine vx_ret ?_
    exact W.iret (v := 1) hx hb hr (fun t ht9 hW => ⟨⟨1, (), rfl, rfl, trivial⟩, hS.F ht9⟩) hS.2.2 dL_inField_16

def zL_heatOf_ws : List Cond := .codeWith yL_heatOf cL_heatOf 5 (some .int) [(0, 10, 13, 25), (0, 10, 17, 46), (0, 10, 21, 31)] :: ([.methodLink RL 43 yX11_heatOf, .instanceMethod yX11_heatOf, .selects RX11 yX11_heatOf yX11_heatOf, .initialized RX11, .classLink RL 25 "java/lang/IndexOutOfBoundsException"] ++ (zX11_heatOf_ws ++ ([])))
theorem zL_heatOf_ws_good : zL_heatOf_ws.all goodWord = true := by decide +kernel
set_option maxHeartbeats 4000000 in
set_option maxRecDepth 100000 in
/-- the law's heatOf: 1 is thrown -/
theorem cl_heatOf (l : Launch) (hst : l.stackTraces = false) (D : va_G) (sz : Nat) (h0 : Nat) (a : Nat → Nat) (x1 x2 : Int32) (o : Nat) : vx_Met l yL_heatOf zL_heatOf_ws (zR 4 1 6) (zPre [.ref h0, .int x1, .int x2, .ref o] D [(h0, .inr (17, zHS a))] [] (fun q : Nat => sz ≤ q) sz) (va_Qi (S := Unit) (fun r _ => r = 1) (fun _ _ => True) (fun q : Nat => sz ≤ q)) (fun _ _ _ => False) 1 6 (fun q : Nat => sz ≤ q) := by
  refine vx_ofWH (cc := cL_heatOf) (maxL := 5) (ret := (some .int)) (by decide) rfl ?_
  intro p e s m args below meth c s₁ B hml hv
  have htb : c.exceptionTable.toList = tableOf [(0, 10, 13, 25), (0, 10, 17, 46), (0, 10, 21, 31)] := vx_table (x := yL_heatOf) B (atoms_spec (ws := zL_heatOf_ws) B.pre _ List.mem_cons_self)
  obtain ⟨rfl, hsz, hP, hK, hD0, hz⟩ := hv
  have hx := B.exec
  have hb := B.bytes
  have hr := B.returns
  have hts := atoms_spec (ws := zL_heatOf_ws) B.pre
  have hown : s.vm.findClass RL = some m.cls := findClass_of_methodNamed B.named
  have hlocks := B.notSynchronized
  subst hsz
  obtain ⟨A, hAe⟩ : ∃ A : Nat → Prop, A = (fun q : Nat => s.heap.size ≤ q) := ⟨_, rfl⟩
  rw [← hAe] at hz ⊢
  have hA : ∀ q : Nat, s.heap.size ≤ q → A q := fun q h => by rw [hAe]; exact h
  have hD := hD0
  have hS : va_S A s.heap s.heap [] := va_S.rf
  have hP : va_P D vwCl [(h0, .inr (17, zHS a))] s.heap := hP
  have hl := lv_entry ([.ref h0, .int x1, .int x2, .ref o]) (n := 5) (Nat.le_of_ble_eq_true rfl)
  rw [lg_entry_eq]
  generalize (lg_sl ([.ref h0, .int x1, .int x2, .ref o]) ++ List.replicate (5 - (lg_sl ([.ref h0, .int x1, .int x2, .ref o])).length) Slot.unset).toArray = ls at hl ⊢
  have hl : lv_has ls 5 [(0, .ref h0), (1, .int x1), (2, .int x2), (3, .ref o)] := hl
  refine lv_aload_n hx hb dL_heatOf_0 rfl (lv_at hl 3 rfl) ?_
  refine lv_iconst (v := 0) hx hb dL_heatOf_1 (by decide) ?_
  refine lv_aload_n hx hb dL_heatOf_2 rfl (lv_at hl 0 rfl) ?_
  refine lv_iload_n hx hb dL_heatOf_3 rfl (lv_at hl 1 rfl) ?_
  refine lv_iload_n hx hb dL_heatOf_4 rfl (lv_at hl 2 rfl) ?_
  have hPc := hP.sub (ws' := [(h0, .inr (17, zHS a))]) [0] rfl
  have hDc := hD.sub (ws' := [(h0, .inr (17, zHS a))]) [0] (by decide) rfl
  have hKc := hK.sub (tys' := []) [] rfl
  have hFc : ∀ q : Nat, s.heap.size ≤ q → A q := fun q h => hA q (Nat.le_trans hS.1 h)
  refine vx_calli (vx_runV (As := [.int x1, .int x2]) (rest := [.int 0, .ref o]) ⟨hx, hb, hml, hown, hts⟩ (c_heatOf l hst D s.heap.size h0 a x1 x2) (cwV 2 hts (goodIn_app (goodIn_of _ (by decide +kernel)) (goodIn_sub (fun _ h => List.mem_cons_of_mem _ (List.mem_append_right _ (List.mem_append_left _ h))) zX11_heatOf_ws_good)) rfl rfl rfl (by decide +kernel) ⟨Nat.le_of_ble_eq_true rfl, Nat.le_of_ble_eq_true rfl⟩) ⟨zPre.blind, va_recv hKc hPc (ci := 17) (q0 := 0) rfl rfl, zPre.mk hPc hKc hDc hz hS (fun q h => hFc q h)⟩ rfl rfl hl.1 rfl (lv_room (Nat.le_of_ble_eq_true rfl)) dL_heatOf_5 ⟨Nat.le_of_ble_eq_true rfl, Nat.le_of_ble_eq_true rfl⟩) hS (fun q _ h => hFc q h) (fun q h => hFc q h) (fun q _ h => hFc q h) (fun E9 ce q9 u t H1 locs ht9 hvm hpx hBX hz1 hk1 hS hcell hv9 hcl => ?_) (fun _ _ t H1 locs _ _ hw _ _ _ _ => hw.elim)
  · cases hBX
    refine vx_catch hown [] _ _ htb (fun z hz9 => nomatch hz9) (by decide) (by decide) (hts (.classLink RL 25 "java/lang/IndexOutOfBoundsException") (by decide +kernel)) (hz.w (.castable "java/lang/IndexOutOfBoundsException" "java/lang/IndexOutOfBoundsException") (by decide +kernel)) hcell hv9 hcl ?_
    refine W.eq (g2 := F0 m 13 ls [.ref q9]) rfl ?_
    refine lv_astore (lv' := [(4, .ref q9), (0, .ref h0), (1, .int x1), (2, .int x2), (3, .ref o)]) hx hb dL_heatOf_13 hl (by decide) rfl (fun ls hl => ?_)
    refine lv_iconst (v := 1) hx hb dL_heatOf_15 (by decide) ?_
    refine W.widen (k := 1) (n := 6) (by omega) (by omega) ?_
    refine vx_ret ?_
    exact W.iret (v := 1) hx hb hr (fun t ht9 hW => ⟨⟨1, (), rfl, rfl, trivial⟩, hS.F ht9⟩) hS.2.2 dL_heatOf_16

def zL_laneOf_ws : List Cond := .codeWith yL_laneOf cL_laneOf 6 (some .int) [(0, 12, 15, 25), (0, 12, 19, 13), (0, 12, 23, 46), (0, 12, 27, 31)] :: ([.methodLink RL 48 yX11_laneOf, .instanceMethod yX11_laneOf, .selects RX11 yX11_laneOf yX11_laneOf, .initialized RX11, .classLink RL 25 "java/lang/IndexOutOfBoundsException"] ++ (zX11_laneOf_ws ++ ([])))
theorem zL_laneOf_ws_good : zL_laneOf_ws.all goodWord = true := by decide +kernel
set_option maxHeartbeats 4000000 in
set_option maxRecDepth 100000 in
/-- the law's laneOf: 1 is thrown -/
theorem cl_laneOf (l : Launch) (hst : l.stackTraces = false) (D : va_G) (sz : Nat) (h0 : Nat) (a : Nat → Nat) (x1 x2 x3 : Int32) (o : Nat) : vx_Met l yL_laneOf zL_laneOf_ws (zR 4 1 6) (zPre [.ref h0, .int x1, .int x2, .int x3, .ref o] D [(h0, .inr (17, zHS a))] [] (fun q : Nat => sz ≤ q) sz) (va_Qi (S := Unit) (fun r _ => r = 1) (fun _ _ => True) (fun q : Nat => sz ≤ q)) (fun _ _ _ => False) 1 6 (fun q : Nat => sz ≤ q) := by
  refine vx_ofWH (cc := cL_laneOf) (maxL := 6) (ret := (some .int)) (by decide) rfl ?_
  intro p e s m args below meth c s₁ B hml hv
  have htb : c.exceptionTable.toList = tableOf [(0, 12, 15, 25), (0, 12, 19, 13), (0, 12, 23, 46), (0, 12, 27, 31)] := vx_table (x := yL_laneOf) B (atoms_spec (ws := zL_laneOf_ws) B.pre _ List.mem_cons_self)
  obtain ⟨rfl, hsz, hP, hK, hD0, hz⟩ := hv
  have hx := B.exec
  have hb := B.bytes
  have hr := B.returns
  have hts := atoms_spec (ws := zL_laneOf_ws) B.pre
  have hown : s.vm.findClass RL = some m.cls := findClass_of_methodNamed B.named
  have hlocks := B.notSynchronized
  subst hsz
  obtain ⟨A, hAe⟩ : ∃ A : Nat → Prop, A = (fun q : Nat => s.heap.size ≤ q) := ⟨_, rfl⟩
  rw [← hAe] at hz ⊢
  have hA : ∀ q : Nat, s.heap.size ≤ q → A q := fun q h => by rw [hAe]; exact h
  have hD := hD0
  have hS : va_S A s.heap s.heap [] := va_S.rf
  have hP : va_P D vwCl [(h0, .inr (17, zHS a))] s.heap := hP
  have hl := lv_entry ([.ref h0, .int x1, .int x2, .int x3, .ref o]) (n := 6) (Nat.le_of_ble_eq_true rfl)
  rw [lg_entry_eq]
  generalize (lg_sl ([.ref h0, .int x1, .int x2, .int x3, .ref o]) ++ List.replicate (6 - (lg_sl ([.ref h0, .int x1, .int x2, .int x3, .ref o])).length) Slot.unset).toArray = ls at hl ⊢
  have hl : lv_has ls 6 [(0, .ref h0), (1, .int x1), (2, .int x2), (3, .int x3), (4, .ref o)] := hl
  refine lv_aload hx hb dL_laneOf_0 (lv_at hl 4 rfl) ?_
  refine lv_iconst (v := 0) hx hb dL_laneOf_2 (by decide) ?_
  refine lv_aload_n hx hb dL_laneOf_3 rfl (lv_at hl 0 rfl) ?_
  refine lv_iload_n hx hb dL_laneOf_4 rfl (lv_at hl 1 rfl) ?_
  refine lv_iload_n hx hb dL_laneOf_5 rfl (lv_at hl 2 rfl) ?_
  refine lv_iload_n hx hb dL_laneOf_6 rfl (lv_at hl 3 rfl) ?_
  have hPc := hP.sub (ws' := [(h0, .inr (17, zHS a))]) [0] rfl
  have hDc := hD.sub (ws' := [(h0, .inr (17, zHS a))]) [0] (by decide) rfl
  have hKc := hK.sub (tys' := []) [] rfl
  have hFc : ∀ q : Nat, s.heap.size ≤ q → A q := fun q h => hA q (Nat.le_trans hS.1 h)
  refine vx_calli (vx_runV (As := [.int x1, .int x2, .int x3]) (rest := [.int 0, .ref o]) ⟨hx, hb, hml, hown, hts⟩ (c_laneOf l hst D s.heap.size h0 a x1 x2 x3) (cwV 3 hts (goodIn_app (goodIn_of _ (by decide +kernel)) (goodIn_sub (fun _ h => List.mem_cons_of_mem _ (List.mem_append_right _ (List.mem_append_left _ h))) zX11_laneOf_ws_good)) rfl rfl rfl (by decide +kernel) ⟨Nat.le_of_ble_eq_true rfl, Nat.le_of_ble_eq_true rfl⟩) ⟨zPre.blind, va_recv hKc hPc (ci := 17) (q0 := 0) rfl rfl, zPre.mk hPc hKc hDc hz hS (fun q h => hFc q h)⟩ rfl rfl hl.1 rfl (lv_room (Nat.le_of_ble_eq_true rfl)) dL_laneOf_7 ⟨Nat.le_of_ble_eq_true rfl, Nat.le_of_ble_eq_true rfl⟩) hS (fun q _ h => hFc q h) (fun q h => hFc q h) (fun q _ h => hFc q h) (fun E9 ce q9 u t H1 locs ht9 hvm hpx hBX hz1 hk1 hS hcell hv9 hcl => ?_) (fun _ _ t H1 locs _ _ hw _ _ _ _ => hw.elim)
  · cases hBX
    refine vx_catch hown [] _ _ htb (fun z hz9 => nomatch hz9) (by decide) (by decide) (hts (.classLink RL 25 "java/lang/IndexOutOfBoundsException") (by decide +kernel)) (hz.w (.castable "java/lang/IndexOutOfBoundsException" "java/lang/IndexOutOfBoundsException") (by decide +kernel)) hcell hv9 hcl ?_
    refine W.eq (g2 := F0 m 15 ls [.ref q9]) rfl ?_
    refine lv_astore (lv' := [(5, .ref q9), (0, .ref h0), (1, .int x1), (2, .int x2), (3, .int x3), (4, .ref o)]) hx hb dL_laneOf_15 hl (by decide) rfl (fun ls hl => ?_)
    refine lv_iconst (v := 1) hx hb dL_laneOf_17 (by decide) ?_
    refine W.widen (k := 1) (n := 6) (by omega) (by omega) ?_
    refine vx_ret ?_
    exact W.iret (v := 1) hx hb hr (fun t ht9 hW => ⟨⟨1, (), rfl, rfl, trivial⟩, hS.F ht9⟩) hS.2.2 dL_laneOf_18

def zL_time_ws : List Cond := .codeWith yL_time cL_time 9 (some .int) [(0, 18, 21, 25), (0, 18, 25, 13), (0, 18, 29, 46), (0, 18, 33, 15)] :: ([.methodLink RL 51 yX11_time, .instanceMethod yX11_time, .selects RX11 yX11_time yX11_time, .initialized RX11, .classLink RL 25 "java/lang/IndexOutOfBoundsException"] ++ (zX11_time_ws ++ ([])))
theorem zL_time_ws_good : zL_time_ws.all goodWord = true := by decide +kernel
set_option maxHeartbeats 4000000 in
set_option maxRecDepth 100000 in
/-- the law's time: 1 is thrown -/
theorem cl_time (l : Launch) (hst : l.stackTraces = false) (D : va_G) (sz : Nat) (h0 : Nat) (a : Nat → Nat) (x1 x2 x3 x4 x5 x6 : Int32) (o : Nat) : vx_Met l yL_time zL_time_ws (zR 4 1 6) (zPre [.ref h0, .int x1, .int x2, .int x3, .int x4, .int x5, .int x6, .ref o] D [(h0, .inr (17, zHS a))] [] (fun q : Nat => sz ≤ q) sz) (va_Qi (S := Unit) (fun r _ => r = 1) (fun _ _ => True) (fun q : Nat => sz ≤ q)) (fun _ _ _ => False) 1 6 (fun q : Nat => sz ≤ q) := by
  refine vx_ofWH (cc := cL_time) (maxL := 9) (ret := (some .int)) (by decide) rfl ?_
  intro p e s m args below meth c s₁ B hml hv
  have htb : c.exceptionTable.toList = tableOf [(0, 18, 21, 25), (0, 18, 25, 13), (0, 18, 29, 46), (0, 18, 33, 15)] := vx_table (x := yL_time) B (atoms_spec (ws := zL_time_ws) B.pre _ List.mem_cons_self)
  obtain ⟨rfl, hsz, hP, hK, hD0, hz⟩ := hv
  have hx := B.exec
  have hb := B.bytes
  have hr := B.returns
  have hts := atoms_spec (ws := zL_time_ws) B.pre
  have hown : s.vm.findClass RL = some m.cls := findClass_of_methodNamed B.named
  have hlocks := B.notSynchronized
  subst hsz
  obtain ⟨A, hAe⟩ : ∃ A : Nat → Prop, A = (fun q : Nat => s.heap.size ≤ q) := ⟨_, rfl⟩
  rw [← hAe] at hz ⊢
  have hA : ∀ q : Nat, s.heap.size ≤ q → A q := fun q h => by rw [hAe]; exact h
  have hD := hD0
  have hS : va_S A s.heap s.heap [] := va_S.rf
  have hP : va_P D vwCl [(h0, .inr (17, zHS a))] s.heap := hP
  have hl := lv_entry ([.ref h0, .int x1, .int x2, .int x3, .int x4, .int x5, .int x6, .ref o]) (n := 9) (Nat.le_of_ble_eq_true rfl)
  rw [lg_entry_eq]
  generalize (lg_sl ([.ref h0, .int x1, .int x2, .int x3, .int x4, .int x5, .int x6, .ref o]) ++ List.replicate (9 - (lg_sl ([.ref h0, .int x1, .int x2, .int x3, .int x4, .int x5, .int x6, .ref o])).length) Slot.unset).toArray = ls at hl ⊢
  have hl : lv_has ls 9 [(0, .ref h0), (1, .int x1), (2, .int x2), (3, .int x3), (4, .int x4), (5, .int x5), (6, .int x6), (7, .ref o)] := hl
  refine lv_aload hx hb dL_time_0 (lv_at hl 7 rfl) ?_
  refine lv_iconst (v := 0) hx hb dL_time_2 (by decide) ?_
  refine lv_aload_n hx hb dL_time_3 rfl (lv_at hl 0 rfl) ?_
  refine lv_iload_n hx hb dL_time_4 rfl (lv_at hl 1 rfl) ?_
  refine lv_iload_n hx hb dL_time_5 rfl (lv_at hl 2 rfl) ?_
  refine lv_iload_n hx hb dL_time_6 rfl (lv_at hl 3 rfl) ?_
  refine lv_iload hx hb dL_time_7 (lv_at hl 4 rfl) ?_
  refine lv_iload hx hb dL_time_9 (lv_at hl 5 rfl) ?_
  refine lv_iload hx hb dL_time_11 (lv_at hl 6 rfl) ?_
  have hPc := hP.sub (ws' := [(h0, .inr (17, zHS a))]) [0] rfl
  have hDc := hD.sub (ws' := [(h0, .inr (17, zHS a))]) [0] (by decide) rfl
  have hKc := hK.sub (tys' := []) [] rfl
  have hFc : ∀ q : Nat, s.heap.size ≤ q → A q := fun q h => hA q (Nat.le_trans hS.1 h)
  refine vx_calli (vx_runV (As := [.int x1, .int x2, .int x3, .int x4, .int x5, .int x6]) (rest := [.int 0, .ref o]) ⟨hx, hb, hml, hown, hts⟩ (c_time l hst D s.heap.size h0 a x1 x2 x3 x4 x5 x6) (cwV 6 hts (goodIn_app (goodIn_of _ (by decide +kernel)) (goodIn_sub (fun _ h => List.mem_cons_of_mem _ (List.mem_append_right _ (List.mem_append_left _ h))) zX11_time_ws_good)) rfl rfl rfl (by decide +kernel) ⟨Nat.le_of_ble_eq_true rfl, Nat.le_of_ble_eq_true rfl⟩) ⟨zPre.blind, va_recv hKc hPc (ci := 17) (q0 := 0) rfl rfl, zPre.mk hPc hKc hDc hz hS (fun q h => hFc q h)⟩ rfl rfl hl.1 rfl (lv_room (Nat.le_of_ble_eq_true rfl)) dL_time_13 ⟨Nat.le_of_ble_eq_true rfl, Nat.le_of_ble_eq_true rfl⟩) hS (fun q _ h => hFc q h) (fun q h => hFc q h) (fun q _ h => hFc q h) (fun E9 ce q9 u t H1 locs ht9 hvm hpx hBX hz1 hk1 hS hcell hv9 hcl => ?_) (fun _ _ t H1 locs _ _ hw _ _ _ _ => hw.elim)
  · cases hBX
    refine vx_catch hown [] _ _ htb (fun z hz9 => nomatch hz9) (by decide) (by decide) (hts (.classLink RL 25 "java/lang/IndexOutOfBoundsException") (by decide +kernel)) (hz.w (.castable "java/lang/IndexOutOfBoundsException" "java/lang/IndexOutOfBoundsException") (by decide +kernel)) hcell hv9 hcl ?_
    refine W.eq (g2 := F0 m 21 ls [.ref q9]) rfl ?_
    refine lv_astore (lv' := [(8, .ref q9), (0, .ref h0), (1, .int x1), (2, .int x2), (3, .int x3), (4, .int x4), (5, .int x5), (6, .int x6), (7, .ref o)]) hx hb dL_time_21 hl (by decide) rfl (fun ls hl => ?_)
    refine lv_iconst (v := 1) hx hb dL_time_23 (by decide) ?_
    refine W.widen (k := 1) (n := 6) (by omega) (by omega) ?_
    refine vx_ret ?_
    exact W.iret (v := 1) hx hb hr (fun t ht9 hW => ⟨⟨1, (), rfl, rfl, trivial⟩, hS.F ht9⟩) hS.2.2 dL_time_24

def zL_react_ws : List Cond := .codeWith yL_react cL_react 7 (some .int) [(0, 21, 24, 25), (0, 21, 28, 13), (0, 21, 32, 46), (0, 21, 36, 15)] :: ([.methodLink RL 55 yX11_react, .instanceMethod yX11_react, .selects RX11 yX11_react yX11_react, .initialized RX11, .classLink RL 25 "java/lang/IndexOutOfBoundsException"] ++ (zX11_react_ws ++ ([])))
theorem zL_react_ws_good : zL_react_ws.all goodWord = true := by decide +kernel
set_option maxHeartbeats 4000000 in
set_option maxRecDepth 100000 in
/-- the law's react: 1 is thrown -/
theorem cl_react (l : Launch) (hst : l.stackTraces = false) (D : va_G) (sz : Nat) (h0 : Nat) (a : Nat → Nat) (x1 x2 x3 x4 : Int32) (o : Nat) : vx_Met l yL_react zL_react_ws (zR 4 1 6) (zPre [.ref h0, .int x1, .int x2, .int x3, .int x4, .ref o] D [(h0, .inr (17, zHS a))] [] (fun q : Nat => sz ≤ q) sz) (va_Qi (S := Unit) (fun r _ => r = 1) (fun _ _ => True) (fun q : Nat => sz ≤ q)) (fun _ _ _ => False) 1 6 (fun q : Nat => sz ≤ q) := by
  refine vx_ofWH (cc := cL_react) (maxL := 7) (ret := (some .int)) (by decide) rfl ?_
  intro p e s m args below meth c s₁ B hml hv
  have htb : c.exceptionTable.toList = tableOf [(0, 21, 24, 25), (0, 21, 28, 13), (0, 21, 32, 46), (0, 21, 36, 15)] := vx_table (x := yL_react) B (atoms_spec (ws := zL_react_ws) B.pre _ List.mem_cons_self)
  obtain ⟨rfl, hsz, hP, hK, hD0, hz⟩ := hv
  have hx := B.exec
  have hb := B.bytes
  have hr := B.returns
  have hts := atoms_spec (ws := zL_react_ws) B.pre
  have hown : s.vm.findClass RL = some m.cls := findClass_of_methodNamed B.named
  have hlocks := B.notSynchronized
  subst hsz
  obtain ⟨A, hAe⟩ : ∃ A : Nat → Prop, A = (fun q : Nat => s.heap.size ≤ q) := ⟨_, rfl⟩
  rw [← hAe] at hz ⊢
  have hA : ∀ q : Nat, s.heap.size ≤ q → A q := fun q h => by rw [hAe]; exact h
  have hD := hD0
  have hS : va_S A s.heap s.heap [] := va_S.rf
  have hP : va_P D vwCl [(h0, .inr (17, zHS a))] s.heap := hP
  have hl := lv_entry ([.ref h0, .int x1, .int x2, .int x3, .int x4, .ref o]) (n := 7) (Nat.le_of_ble_eq_true rfl)
  rw [lg_entry_eq]
  generalize (lg_sl ([.ref h0, .int x1, .int x2, .int x3, .int x4, .ref o]) ++ List.replicate (7 - (lg_sl ([.ref h0, .int x1, .int x2, .int x3, .int x4, .ref o])).length) Slot.unset).toArray = ls at hl ⊢
  have hl : lv_has ls 7 [(0, .ref h0), (1, .int x1), (2, .int x2), (3, .int x3), (4, .int x4), (5, .ref o)] := hl
  refine lv_aload hx hb dL_react_0 (lv_at hl 5 rfl) ?_
  refine lv_iconst (v := 0) hx hb dL_react_2 (by decide) ?_
  refine lv_aload_n hx hb dL_react_3 rfl (lv_at hl 0 rfl) ?_
  refine lv_iload_n hx hb dL_react_4 rfl (lv_at hl 1 rfl) ?_
  refine lv_iload_n hx hb dL_react_5 rfl (lv_at hl 2 rfl) ?_
  refine lv_iload_n hx hb dL_react_6 rfl (lv_at hl 3 rfl) ?_
  refine lv_iload hx hb dL_react_7 (lv_at hl 4 rfl) ?_
  have hPc := hP.sub (ws' := [(h0, .inr (17, zHS a))]) [0] rfl
  have hDc := hD.sub (ws' := [(h0, .inr (17, zHS a))]) [0] (by decide) rfl
  have hKc := hK.sub (tys' := []) [] rfl
  have hFc : ∀ q : Nat, s.heap.size ≤ q → A q := fun q h => hA q (Nat.le_trans hS.1 h)
  refine vx_calli (vx_runV (As := [.int x1, .int x2, .int x3, .int x4]) (rest := [.int 0, .ref o]) ⟨hx, hb, hml, hown, hts⟩ (c_react l hst D s.heap.size h0 a x1 x2 x3 x4) (cwV 4 hts (goodIn_app (goodIn_of _ (by decide +kernel)) (goodIn_sub (fun _ h => List.mem_cons_of_mem _ (List.mem_append_right _ (List.mem_append_left _ h))) zX11_react_ws_good)) rfl rfl rfl (by decide +kernel) ⟨Nat.le_of_ble_eq_true rfl, Nat.le_of_ble_eq_true rfl⟩) ⟨zPre.blind, va_recv hKc hPc (ci := 17) (q0 := 0) rfl rfl, zPre.mk hPc hKc hDc hz hS (fun q h => hFc q h)⟩ rfl rfl hl.1 rfl (lv_room (Nat.le_of_ble_eq_true rfl)) dL_react_9 ⟨Nat.le_of_ble_eq_true rfl, Nat.le_of_ble_eq_true rfl⟩) hS (fun q _ h => hFc q h) (fun q h => hFc q h) (fun q _ h => hFc q h) (fun E9 ce q9 u t H1 locs ht9 hvm hpx hBX hz1 hk1 hS hcell hv9 hcl => ?_) (fun _ _ t H1 locs _ _ hw _ _ _ _ => hw.elim)
  · cases hBX
    refine vx_catch hown [] _ _ htb (fun z hz9 => nomatch hz9) (by decide) (by decide) (hts (.classLink RL 25 "java/lang/IndexOutOfBoundsException") (by decide +kernel)) (hz.w (.castable "java/lang/IndexOutOfBoundsException" "java/lang/IndexOutOfBoundsException") (by decide +kernel)) hcell hv9 hcl ?_
    refine W.eq (g2 := F0 m 24 ls [.ref q9]) rfl ?_
    refine lv_astore (lv' := [(6, .ref q9), (0, .ref h0), (1, .int x1), (2, .int x2), (3, .int x3), (4, .int x4), (5, .ref o)]) hx hb dL_react_24 hl (by decide) rfl (fun ls hl => ?_)
    refine lv_iconst (v := 1) hx hb dL_react_26 (by decide) ?_
    refine W.widen (k := 1) (n := 6) (by omega) (by omega) ?_
    refine vx_ret ?_
    exact W.iret (v := 1) hx hb hr (fun t ht9 hW => ⟨⟨1, (), rfl, rfl, trivial⟩, hS.F ht9⟩) hS.2.2 dL_react_27

def zL_putOut_ws : List Cond := .codeWith yL_putOut cL_putOut 6 (some .int) [(0, 19, 22, 25), (0, 19, 26, 13), (0, 19, 30, 46), (0, 19, 34, 15)] :: ([.methodLink RL 59 yX11_putOut, .instanceMethod yX11_putOut, .selects RX11 yX11_putOut yX11_putOut, .initialized RX11, .classLink RL 25 "java/lang/IndexOutOfBoundsException"] ++ (zX11_putOut_ws ++ ([])))
theorem zL_putOut_ws_good : zL_putOut_ws.all goodWord = true := by decide +kernel
set_option maxHeartbeats 4000000 in
set_option maxRecDepth 100000 in
/-- the law's putOut: 1 is thrown -/
theorem cl_putOut (l : Launch) (hst : l.stackTraces = false) (D : va_G) (sz : Nat) (h0 : Nat) (a : Nat → Nat) (x1 x2 x3 : Int32) (o : Nat) : vx_Met l yL_putOut zL_putOut_ws (zR 4 1 6) (zPre [.ref h0, .int x1, .int x2, .int x3, .ref o] D [(h0, .inr (17, zHS a))] [] (fun q : Nat => sz ≤ q) sz) (va_Qi (S := Unit) (fun r _ => r = 1) (fun _ _ => True) (fun q : Nat => sz ≤ q)) (fun _ _ _ => False) 1 6 (fun q : Nat => sz ≤ q) := by
  refine vx_ofWH (cc := cL_putOut) (maxL := 6) (ret := (some .int)) (by decide) rfl ?_
  intro p e s m args below meth c s₁ B hml hv
  have htb : c.exceptionTable.toList = tableOf [(0, 19, 22, 25), (0, 19, 26, 13), (0, 19, 30, 46), (0, 19, 34, 15)] := vx_table (x := yL_putOut) B (atoms_spec (ws := zL_putOut_ws) B.pre _ List.mem_cons_self)
  obtain ⟨rfl, hsz, hP, hK, hD0, hz⟩ := hv
  have hx := B.exec
  have hb := B.bytes
  have hr := B.returns
  have hts := atoms_spec (ws := zL_putOut_ws) B.pre
  have hown : s.vm.findClass RL = some m.cls := findClass_of_methodNamed B.named
  have hlocks := B.notSynchronized
  subst hsz
  obtain ⟨A, hAe⟩ : ∃ A : Nat → Prop, A = (fun q : Nat => s.heap.size ≤ q) := ⟨_, rfl⟩
  rw [← hAe] at hz ⊢
  have hA : ∀ q : Nat, s.heap.size ≤ q → A q := fun q h => by rw [hAe]; exact h
  have hD := hD0
  have hS : va_S A s.heap s.heap [] := va_S.rf
  have hP : va_P D vwCl [(h0, .inr (17, zHS a))] s.heap := hP
  have hl := lv_entry ([.ref h0, .int x1, .int x2, .int x3, .ref o]) (n := 6) (Nat.le_of_ble_eq_true rfl)
  rw [lg_entry_eq]
  generalize (lg_sl ([.ref h0, .int x1, .int x2, .int x3, .ref o]) ++ List.replicate (6 - (lg_sl ([.ref h0, .int x1, .int x2, .int x3, .ref o])).length) Slot.unset).toArray = ls at hl ⊢
  have hl : lv_has ls 6 [(0, .ref h0), (1, .int x1), (2, .int x2), (3, .int x3), (4, .ref o)] := hl
  refine lv_aload hx hb dL_putOut_0 (lv_at hl 4 rfl) ?_
  refine lv_iconst (v := 0) hx hb dL_putOut_2 (by decide) ?_
  refine lv_aload_n hx hb dL_putOut_3 rfl (lv_at hl 0 rfl) ?_
  refine lv_iload_n hx hb dL_putOut_4 rfl (lv_at hl 1 rfl) ?_
  refine lv_iload_n hx hb dL_putOut_5 rfl (lv_at hl 2 rfl) ?_
  refine lv_iload_n hx hb dL_putOut_6 rfl (lv_at hl 3 rfl) ?_
  have hPc := hP.sub (ws' := [(h0, .inr (17, zHS a))]) [0] rfl
  have hDc := hD.sub (ws' := [(h0, .inr (17, zHS a))]) [0] (by decide) rfl
  have hKc := hK.sub (tys' := []) [] rfl
  have hFc : ∀ q : Nat, s.heap.size ≤ q → A q := fun q h => hA q (Nat.le_trans hS.1 h)
  refine vx_calli (vx_runV (As := [.int x1, .int x2, .int x3]) (rest := [.int 0, .ref o]) ⟨hx, hb, hml, hown, hts⟩ (c_putOut l hst D s.heap.size h0 a x1 x2 x3) (cwV 3 hts (goodIn_app (goodIn_of _ (by decide +kernel)) (goodIn_sub (fun _ h => List.mem_cons_of_mem _ (List.mem_append_right _ (List.mem_append_left _ h))) zX11_putOut_ws_good)) rfl rfl rfl (by decide +kernel) ⟨Nat.le_of_ble_eq_true rfl, Nat.le_of_ble_eq_true rfl⟩) ⟨zPre.blind, va_recv hKc hPc (ci := 17) (q0 := 0) rfl rfl, zPre.mk hPc hKc hDc hz hS (fun q h => hFc q h)⟩ rfl rfl hl.1 rfl (lv_room (Nat.le_of_ble_eq_true rfl)) dL_putOut_7 ⟨Nat.le_of_ble_eq_true rfl, Nat.le_of_ble_eq_true rfl⟩) hS (fun q _ h => hFc q h) (fun q h => hFc q h) (fun q _ h => hFc q h) (fun E9 ce q9 u t H1 locs ht9 hvm hpx hBX hz1 hk1 hS hcell hv9 hcl => ?_) (fun _ _ t H1 locs _ _ hw _ _ _ _ => hw.elim)
  · cases hBX
    refine vx_catch hown [] _ _ htb (fun z hz9 => nomatch hz9) (by decide) (by decide) (hts (.classLink RL 25 "java/lang/IndexOutOfBoundsException") (by decide +kernel)) (hz.w (.castable "java/lang/IndexOutOfBoundsException" "java/lang/IndexOutOfBoundsException") (by decide +kernel)) hcell hv9 hcl ?_
    refine W.eq (g2 := F0 m 22 ls [.ref q9]) rfl ?_
    refine lv_astore (lv' := [(5, .ref q9), (0, .ref h0), (1, .int x1), (2, .int x2), (3, .int x3), (4, .ref o)]) hx hb dL_putOut_22 hl (by decide) rfl (fun ls hl => ?_)
    refine lv_iconst (v := 1) hx hb dL_putOut_24 (by decide) ?_
    refine W.widen (k := 1) (n := 6) (by omega) (by omega) ?_
    refine vx_ret ?_
    exact W.iret (v := 1) hx hb hr (fun t ht9 hW => ⟨⟨1, (), rfl, rfl, trivial⟩, hS.F ht9⟩) hS.2.2 dL_putOut_25

def zL_isOut_ws : List Cond := .codeWith yL_isOut cL_isOut 6 (some .int) [(0, 19, 22, 25), (0, 19, 26, 13), (0, 19, 30, 46)] :: ([.methodLink RL 63 yX11_isOut, .instanceMethod yX11_isOut, .selects RX11 yX11_isOut yX11_isOut, .initialized RX11, .classLink RL 25 "java/lang/IndexOutOfBoundsException"] ++ (zX11_isOut_ws ++ ([])))
theorem zL_isOut_ws_good : zL_isOut_ws.all goodWord = true := by decide +kernel
set_option maxHeartbeats 4000000 in
set_option maxRecDepth 100000 in
/-- the law's isOut: 1 is thrown -/
theorem cl_isOut (l : Launch) (hst : l.stackTraces = false) (D : va_G) (sz : Nat) (h0 : Nat) (a : Nat → Nat) (x1 x2 x3 : Int32) (o : Nat) : vx_Met l yL_isOut zL_isOut_ws (zR 4 1 6) (zPre [.ref h0, .int x1, .int x2, .int x3, .ref o] D [(h0, .inr (17, zHS a))] [] (fun q : Nat => sz ≤ q) sz) (va_Qi (S := Unit) (fun r _ => r = 1) (fun _ _ => True) (fun q : Nat => sz ≤ q)) (fun _ _ _ => False) 1 6 (fun q : Nat => sz ≤ q) := by
  refine vx_ofWH (cc := cL_isOut) (maxL := 6) (ret := (some .int)) (by decide) rfl ?_
  intro p e s m args below meth c s₁ B hml hv
  have htb : c.exceptionTable.toList = tableOf [(0, 19, 22, 25), (0, 19, 26, 13), (0, 19, 30, 46)] := vx_table (x := yL_isOut) B (atoms_spec (ws := zL_isOut_ws) B.pre _ List.mem_cons_self)
  obtain ⟨rfl, hsz, hP, hK, hD0, hz⟩ := hv
  have hx := B.exec
  have hb := B.bytes
  have hr := B.returns
  have hts := atoms_spec (ws := zL_isOut_ws) B.pre
  have hown : s.vm.findClass RL = some m.cls := findClass_of_methodNamed B.named
  have hlocks := B.notSynchronized
  subst hsz
  obtain ⟨A, hAe⟩ : ∃ A : Nat → Prop, A = (fun q : Nat => s.heap.size ≤ q) := ⟨_, rfl⟩
  rw [← hAe] at hz ⊢
  have hA : ∀ q : Nat, s.heap.size ≤ q → A q := fun q h => by rw [hAe]; exact h
  have hD := hD0
  have hS : va_S A s.heap s.heap [] := va_S.rf
  have hP : va_P D vwCl [(h0, .inr (17, zHS a))] s.heap := hP
  have hl := lv_entry ([.ref h0, .int x1, .int x2, .int x3, .ref o]) (n := 6) (Nat.le_of_ble_eq_true rfl)
  rw [lg_entry_eq]
  generalize (lg_sl ([.ref h0, .int x1, .int x2, .int x3, .ref o]) ++ List.replicate (6 - (lg_sl ([.ref h0, .int x1, .int x2, .int x3, .ref o])).length) Slot.unset).toArray = ls at hl ⊢
  have hl : lv_has ls 6 [(0, .ref h0), (1, .int x1), (2, .int x2), (3, .int x3), (4, .ref o)] := hl
  refine lv_aload hx hb dL_isOut_0 (lv_at hl 4 rfl) ?_
  refine lv_iconst (v := 0) hx hb dL_isOut_2 (by decide) ?_
  refine lv_aload_n hx hb dL_isOut_3 rfl (lv_at hl 0 rfl) ?_
  refine lv_iload_n hx hb dL_isOut_4 rfl (lv_at hl 1 rfl) ?_
  refine lv_iload_n hx hb dL_isOut_5 rfl (lv_at hl 2 rfl) ?_
  refine lv_iload_n hx hb dL_isOut_6 rfl (lv_at hl 3 rfl) ?_
  have hPc := hP.sub (ws' := [(h0, .inr (17, zHS a))]) [0] rfl
  have hDc := hD.sub (ws' := [(h0, .inr (17, zHS a))]) [0] (by decide) rfl
  have hKc := hK.sub (tys' := []) [] rfl
  have hFc : ∀ q : Nat, s.heap.size ≤ q → A q := fun q h => hA q (Nat.le_trans hS.1 h)
  refine vx_calli (vx_runV (As := [.int x1, .int x2, .int x3]) (rest := [.int 0, .ref o]) ⟨hx, hb, hml, hown, hts⟩ (c_isOut l hst D s.heap.size h0 a x1 x2 x3) (cwV 3 hts (goodIn_app (goodIn_of _ (by decide +kernel)) (goodIn_sub (fun _ h => List.mem_cons_of_mem _ (List.mem_append_right _ (List.mem_append_left _ h))) zX11_isOut_ws_good)) rfl rfl rfl (by decide +kernel) ⟨Nat.le_of_ble_eq_true rfl, Nat.le_of_ble_eq_true rfl⟩) ⟨zPre.blind, va_recv hKc hPc (ci := 17) (q0 := 0) rfl rfl, zPre.mk hPc hKc hDc hz hS (fun q h => hFc q h)⟩ rfl rfl hl.1 rfl (lv_room (Nat.le_of_ble_eq_true rfl)) dL_isOut_7 ⟨Nat.le_of_ble_eq_true rfl, Nat.le_of_ble_eq_true rfl⟩) hS (fun q _ h => hFc q h) (fun q h => hFc q h) (fun q _ h => hFc q h) (fun E9 ce q9 u t H1 locs ht9 hvm hpx hBX hz1 hk1 hS hcell hv9 hcl => ?_) (fun _ _ t H1 locs _ _ hw _ _ _ _ => hw.elim)
  · cases hBX
    refine vx_catch hown [] _ _ htb (fun z hz9 => nomatch hz9) (by decide) (by decide) (hts (.classLink RL 25 "java/lang/IndexOutOfBoundsException") (by decide +kernel)) (hz.w (.castable "java/lang/IndexOutOfBoundsException" "java/lang/IndexOutOfBoundsException") (by decide +kernel)) hcell hv9 hcl ?_
    refine W.eq (g2 := F0 m 22 ls [.ref q9]) rfl ?_
    refine lv_astore (lv' := [(5, .ref q9), (0, .ref h0), (1, .int x1), (2, .int x2), (3, .int x3), (4, .ref o)]) hx hb dL_isOut_22 hl (by decide) rfl (fun ls hl => ?_)
    refine lv_iconst (v := 1) hx hb dL_isOut_24 (by decide) ?_
    refine W.widen (k := 1) (n := 6) (by omega) (by omega) ?_
    refine vx_ret ?_
    exact W.iret (v := 1) hx hb hr (fun t ht9 hW => ⟨⟨1, (), rfl, rfl, trivial⟩, hS.F ht9⟩) hS.2.2 dL_isOut_25

def zL_inFinal_ws : List Cond := .codeWith yL_inFinal cL_inFinal 5 (some .int) [(0, 10, 13, 25), (0, 10, 17, 46), (0, 10, 21, 31)] :: ([.methodLink RL 66 yX11_inFinal, .instanceMethod yX11_inFinal, .selects RX11 yX11_inFinal yX11_inFinal, .initialized RX11, .classLink RL 25 "java/lang/IndexOutOfBoundsException"] ++ (zX11_inFinal_ws ++ ([])))
theorem zL_inFinal_ws_good : zL_inFinal_ws.all goodWord = true := by decide +kernel
set_option maxHeartbeats 4000000 in
set_option maxRecDepth 100000 in
/-- the law's inFinal: 1 is thrown -/
theorem cl_inFinal (l : Launch) (hst : l.stackTraces = false) (D : va_G) (sz : Nat) (h0 : Nat) (a : Nat → Nat) (x1 x2 : Int32) (o : Nat) : vx_Met l yL_inFinal zL_inFinal_ws (zR 4 1 6) (zPre [.ref h0, .int x1, .int x2, .ref o] D [(h0, .inr (17, zHS a))] [] (fun q : Nat => sz ≤ q) sz) (va_Qi (S := Unit) (fun r _ => r = 1) (fun _ _ => True) (fun q : Nat => sz ≤ q)) (fun _ _ _ => False) 1 6 (fun q : Nat => sz ≤ q) := by
  refine vx_ofWH (cc := cL_inFinal) (maxL := 5) (ret := (some .int)) (by decide) rfl ?_
  intro p e s m args below meth c s₁ B hml hv
  have htb : c.exceptionTable.toList = tableOf [(0, 10, 13, 25), (0, 10, 17, 46), (0, 10, 21, 31)] := vx_table (x := yL_inFinal) B (atoms_spec (ws := zL_inFinal_ws) B.pre _ List.mem_cons_self)
  obtain ⟨rfl, hsz, hP, hK, hD0, hz⟩ := hv
  have hx := B.exec
  have hb := B.bytes
  have hr := B.returns
  have hts := atoms_spec (ws := zL_inFinal_ws) B.pre
  have hown : s.vm.findClass RL = some m.cls := findClass_of_methodNamed B.named
  have hlocks := B.notSynchronized
  subst hsz
  obtain ⟨A, hAe⟩ : ∃ A : Nat → Prop, A = (fun q : Nat => s.heap.size ≤ q) := ⟨_, rfl⟩
  rw [← hAe] at hz ⊢
  have hA : ∀ q : Nat, s.heap.size ≤ q → A q := fun q h => by rw [hAe]; exact h
  have hD := hD0
  have hS : va_S A s.heap s.heap [] := va_S.rf
  have hP : va_P D vwCl [(h0, .inr (17, zHS a))] s.heap := hP
  have hl := lv_entry ([.ref h0, .int x1, .int x2, .ref o]) (n := 5) (Nat.le_of_ble_eq_true rfl)
  rw [lg_entry_eq]
  generalize (lg_sl ([.ref h0, .int x1, .int x2, .ref o]) ++ List.replicate (5 - (lg_sl ([.ref h0, .int x1, .int x2, .ref o])).length) Slot.unset).toArray = ls at hl ⊢
  have hl : lv_has ls 5 [(0, .ref h0), (1, .int x1), (2, .int x2), (3, .ref o)] := hl
  refine lv_aload_n hx hb dL_inFinal_0 rfl (lv_at hl 3 rfl) ?_
  refine lv_iconst (v := 0) hx hb dL_inFinal_1 (by decide) ?_
  refine lv_aload_n hx hb dL_inFinal_2 rfl (lv_at hl 0 rfl) ?_
  refine lv_iload_n hx hb dL_inFinal_3 rfl (lv_at hl 1 rfl) ?_
  refine lv_iload_n hx hb dL_inFinal_4 rfl (lv_at hl 2 rfl) ?_
  have hPc := hP.sub (ws' := [(h0, .inr (17, zHS a))]) [0] rfl
  have hDc := hD.sub (ws' := [(h0, .inr (17, zHS a))]) [0] (by decide) rfl
  have hKc := hK.sub (tys' := []) [] rfl
  have hFc : ∀ q : Nat, s.heap.size ≤ q → A q := fun q h => hA q (Nat.le_trans hS.1 h)
  refine vx_calli (vx_runV (As := [.int x1, .int x2]) (rest := [.int 0, .ref o]) ⟨hx, hb, hml, hown, hts⟩ (c_inFinal l hst D s.heap.size h0 a x1 x2) (cwV 2 hts (goodIn_app (goodIn_of _ (by decide +kernel)) (goodIn_sub (fun _ h => List.mem_cons_of_mem _ (List.mem_append_right _ (List.mem_append_left _ h))) zX11_inFinal_ws_good)) rfl rfl rfl (by decide +kernel) ⟨Nat.le_of_ble_eq_true rfl, Nat.le_of_ble_eq_true rfl⟩) ⟨zPre.blind, va_recv hKc hPc (ci := 17) (q0 := 0) rfl rfl, zPre.mk hPc hKc hDc hz hS (fun q h => hFc q h)⟩ rfl rfl hl.1 rfl (lv_room (Nat.le_of_ble_eq_true rfl)) dL_inFinal_5 ⟨Nat.le_of_ble_eq_true rfl, Nat.le_of_ble_eq_true rfl⟩) hS (fun q _ h => hFc q h) (fun q h => hFc q h) (fun q _ h => hFc q h) (fun E9 ce q9 u t H1 locs ht9 hvm hpx hBX hz1 hk1 hS hcell hv9 hcl => ?_) (fun _ _ t H1 locs _ _ hw _ _ _ _ => hw.elim)
  · cases hBX
    refine vx_catch hown [] _ _ htb (fun z hz9 => nomatch hz9) (by decide) (by decide) (hts (.classLink RL 25 "java/lang/IndexOutOfBoundsException") (by decide +kernel)) (hz.w (.castable "java/lang/IndexOutOfBoundsException" "java/lang/IndexOutOfBoundsException") (by decide +kernel)) hcell hv9 hcl ?_
    refine W.eq (g2 := F0 m 13 ls [.ref q9]) rfl ?_
    refine lv_astore (lv' := [(4, .ref q9), (0, .ref h0), (1, .int x1), (2, .int x2), (3, .ref o)]) hx hb dL_inFinal_13 hl (by decide) rfl (fun ls hl => ?_)
    refine lv_iconst (v := 1) hx hb dL_inFinal_15 (by decide) ?_
    refine W.widen (k := 1) (n := 6) (by omega) (by omega) ?_
    refine vx_ret ?_
    exact W.iret (v := 1) hx hb hr (fun t ht9 hW => ⟨⟨1, (), rfl, rfl, trivial⟩, hS.F ht9⟩) hS.2.2 dL_inFinal_16

def zL_bar_ws : List Cond := .codeWith yL_bar cL_bar 5 (some .int) [(0, 10, 13, 25), (0, 10, 17, 13), (0, 10, 21, 46), (0, 10, 25, 15)] :: ([.methodLink RL 69 yX11_bar, .instanceMethod yX11_bar, .selects RX11 yX11_bar yX11_bar, .initialized RX11, .classLink RL 25 "java/lang/IndexOutOfBoundsException"] ++ (zX11_bar_ws ++ ([])))
theorem zL_bar_ws_good : zL_bar_ws.all goodWord = true := by decide +kernel
set_option maxHeartbeats 4000000 in
set_option maxRecDepth 100000 in
/-- the law's bar: 1 is thrown -/
theorem cl_bar (l : Launch) (hst : l.stackTraces = false) (D : va_G) (sz : Nat) (h0 : Nat) (a : Nat → Nat) (x1 x2 : Int32) (o : Nat) : vx_Met l yL_bar zL_bar_ws (zR 4 1 6) (zPre [.ref h0, .int x1, .int x2, .ref o] D [(h0, .inr (17, zHS a))] [] (fun q : Nat => sz ≤ q) sz) (va_Qi (S := Unit) (fun r _ => r = 1) (fun _ _ => True) (fun q : Nat => sz ≤ q)) (fun _ _ _ => False) 1 6 (fun q : Nat => sz ≤ q) := by
  refine vx_ofWH (cc := cL_bar) (maxL := 5) (ret := (some .int)) (by decide) rfl ?_
  intro p e s m args below meth c s₁ B hml hv
  have htb : c.exceptionTable.toList = tableOf [(0, 10, 13, 25), (0, 10, 17, 13), (0, 10, 21, 46), (0, 10, 25, 15)] := vx_table (x := yL_bar) B (atoms_spec (ws := zL_bar_ws) B.pre _ List.mem_cons_self)
  obtain ⟨rfl, hsz, hP, hK, hD0, hz⟩ := hv
  have hx := B.exec
  have hb := B.bytes
  have hr := B.returns
  have hts := atoms_spec (ws := zL_bar_ws) B.pre
  have hown : s.vm.findClass RL = some m.cls := findClass_of_methodNamed B.named
  have hlocks := B.notSynchronized
  subst hsz
  obtain ⟨A, hAe⟩ : ∃ A : Nat → Prop, A = (fun q : Nat => s.heap.size ≤ q) := ⟨_, rfl⟩
  rw [← hAe] at hz ⊢
  have hA : ∀ q : Nat, s.heap.size ≤ q → A q := fun q h => by rw [hAe]; exact h
  have hD := hD0
  have hS : va_S A s.heap s.heap [] := va_S.rf
  have hP : va_P D vwCl [(h0, .inr (17, zHS a))] s.heap := hP
  have hl := lv_entry ([.ref h0, .int x1, .int x2, .ref o]) (n := 5) (Nat.le_of_ble_eq_true rfl)
  rw [lg_entry_eq]
  generalize (lg_sl ([.ref h0, .int x1, .int x2, .ref o]) ++ List.replicate (5 - (lg_sl ([.ref h0, .int x1, .int x2, .ref o])).length) Slot.unset).toArray = ls at hl ⊢
  have hl : lv_has ls 5 [(0, .ref h0), (1, .int x1), (2, .int x2), (3, .ref o)] := hl
  refine lv_aload_n hx hb dL_bar_0 rfl (lv_at hl 3 rfl) ?_
  refine lv_iconst (v := 0) hx hb dL_bar_1 (by decide) ?_
  refine lv_aload_n hx hb dL_bar_2 rfl (lv_at hl 0 rfl) ?_
  refine lv_iload_n hx hb dL_bar_3 rfl (lv_at hl 1 rfl) ?_
  refine lv_iload_n hx hb dL_bar_4 rfl (lv_at hl 2 rfl) ?_
  have hPc := hP.sub (ws' := [(h0, .inr (17, zHS a))]) [0] rfl
  have hDc := hD.sub (ws' := [(h0, .inr (17, zHS a))]) [0] (by decide) rfl
  have hKc := hK.sub (tys' := []) [] rfl
  have hFc : ∀ q : Nat, s.heap.size ≤ q → A q := fun q h => hA q (Nat.le_trans hS.1 h)
  refine vx_calli (vx_runV (As := [.int x1, .int x2]) (rest := [.int 0, .ref o]) ⟨hx, hb, hml, hown, hts⟩ (c_bar l hst D s.heap.size h0 a x1 x2) (cwV 2 hts (goodIn_app (goodIn_of _ (by decide +kernel)) (goodIn_sub (fun _ h => List.mem_cons_of_mem _ (List.mem_append_right _ (List.mem_append_left _ h))) zX11_bar_ws_good)) rfl rfl rfl (by decide +kernel) ⟨Nat.le_of_ble_eq_true rfl, Nat.le_of_ble_eq_true rfl⟩) ⟨zPre.blind, va_recv hKc hPc (ci := 17) (q0 := 0) rfl rfl, zPre.mk hPc hKc hDc hz hS (fun q h => hFc q h)⟩ rfl rfl hl.1 rfl (lv_room (Nat.le_of_ble_eq_true rfl)) dL_bar_5 ⟨Nat.le_of_ble_eq_true rfl, Nat.le_of_ble_eq_true rfl⟩) hS (fun q _ h => hFc q h) (fun q h => hFc q h) (fun q _ h => hFc q h) (fun E9 ce q9 u t H1 locs ht9 hvm hpx hBX hz1 hk1 hS hcell hv9 hcl => ?_) (fun _ _ t H1 locs _ _ hw _ _ _ _ => hw.elim)
  · cases hBX
    refine vx_catch hown [] _ _ htb (fun z hz9 => nomatch hz9) (by decide) (by decide) (hts (.classLink RL 25 "java/lang/IndexOutOfBoundsException") (by decide +kernel)) (hz.w (.castable "java/lang/IndexOutOfBoundsException" "java/lang/IndexOutOfBoundsException") (by decide +kernel)) hcell hv9 hcl ?_
    refine W.eq (g2 := F0 m 13 ls [.ref q9]) rfl ?_
    refine lv_astore (lv' := [(4, .ref q9), (0, .ref h0), (1, .int x1), (2, .int x2), (3, .ref o)]) hx hb dL_bar_13 hl (by decide) rfl (fun ls hl => ?_)
    refine lv_iconst (v := 1) hx hb dL_bar_15 (by decide) ?_
    refine W.widen (k := 1) (n := 6) (by omega) (by omega) ?_
    refine vx_ret ?_
    exact W.iret (v := 1) hx hb hr (fun t ht9 hW => ⟨⟨1, (), rfl, rfl, trivial⟩, hS.F ht9⟩) hS.2.2 dL_bar_16

def zL_jump_ws : List Cond := .codeWith yL_jump cL_jump 6 (some .int) [(0, 12, 15, 25), (0, 12, 19, 13), (0, 12, 23, 46), (0, 12, 27, 15)] :: ([.methodLink RL 72 yX11_jump, .instanceMethod yX11_jump, .selects RX11 yX11_jump yX11_jump, .initialized RX11, .classLink RL 25 "java/lang/IndexOutOfBoundsException"] ++ (zX11_jump_ws ++ ([])))
theorem zL_jump_ws_good : zL_jump_ws.all goodWord = true := by decide +kernel
set_option maxHeartbeats 4000000 in
set_option maxRecDepth 100000 in
/-- the law's jump: 1 is thrown -/
theorem cl_jump (l : Launch) (hst : l.stackTraces = false) (D : va_G) (sz : Nat) (h0 : Nat) (a : Nat → Nat) (x1 x2 x3 : Int32) (o : Nat) : vx_Met l yL_jump zL_jump_ws (zR 4 1 6) (zPre [.ref h0, .int x1, .int x2, .int x3, .ref o] D [(h0, .inr (17, zHS a))] [] (fun q : Nat => sz ≤ q) sz) (va_Qi (S := Unit) (fun r _ => r = 1) (fun _ _ => True) (fun q : Nat => sz ≤ q)) (fun _ _ _ => False) 1 6 (fun q : Nat => sz ≤ q) := by
  refine vx_ofWH (cc := cL_jump) (maxL := 6) (ret := (some .int)) (by decide) rfl ?_
  intro p e s m args below meth c s₁ B hml hv
  have htb : c.exceptionTable.toList = tableOf [(0, 12, 15, 25), (0, 12, 19, 13), (0, 12, 23, 46), (0, 12, 27, 15)] := vx_table (x := yL_jump) B (atoms_spec (ws := zL_jump_ws) B.pre _ List.mem_cons_self)
  obtain ⟨rfl, hsz, hP, hK, hD0, hz⟩ := hv
  have hx := B.exec
  have hb := B.bytes
  have hr := B.returns
  have hts := atoms_spec (ws := zL_jump_ws) B.pre
  have hown : s.vm.findClass RL = some m.cls := findClass_of_methodNamed B.named
  have hlocks := B.notSynchronized
  subst hsz
  obtain ⟨A, hAe⟩ : ∃ A : Nat → Prop, A = (fun q : Nat => s.heap.size ≤ q) := ⟨_, rfl⟩
  rw [← hAe] at hz ⊢
  have hA : ∀ q : Nat, s.heap.size ≤ q → A q := fun q h => by rw [hAe]; exact h
  have hD := hD0
  have hS : va_S A s.heap s.heap [] := va_S.rf
  have hP : va_P D vwCl [(h0, .inr (17, zHS a))] s.heap := hP
  have hl := lv_entry ([.ref h0, .int x1, .int x2, .int x3, .ref o]) (n := 6) (Nat.le_of_ble_eq_true rfl)
  rw [lg_entry_eq]
  generalize (lg_sl ([.ref h0, .int x1, .int x2, .int x3, .ref o]) ++ List.replicate (6 - (lg_sl ([.ref h0, .int x1, .int x2, .int x3, .ref o])).length) Slot.unset).toArray = ls at hl ⊢
  have hl : lv_has ls 6 [(0, .ref h0), (1, .int x1), (2, .int x2), (3, .int x3), (4, .ref o)] := hl
  refine lv_aload hx hb dL_jump_0 (lv_at hl 4 rfl) ?_
  refine lv_iconst (v := 0) hx hb dL_jump_2 (by decide) ?_
  refine lv_aload_n hx hb dL_jump_3 rfl (lv_at hl 0 rfl) ?_
  refine lv_iload_n hx hb dL_jump_4 rfl (lv_at hl 1 rfl) ?_
  refine lv_iload_n hx hb dL_jump_5 rfl (lv_at hl 2 rfl) ?_
  refine lv_iload_n hx hb dL_jump_6 rfl (lv_at hl 3 rfl) ?_
  have hPc := hP.sub (ws' := [(h0, .inr (17, zHS a))]) [0] rfl
  have hDc := hD.sub (ws' := [(h0, .inr (17, zHS a))]) [0] (by decide) rfl
  have hKc := hK.sub (tys' := []) [] rfl
  have hFc : ∀ q : Nat, s.heap.size ≤ q → A q := fun q h => hA q (Nat.le_trans hS.1 h)
  refine vx_calli (vx_runV (As := [.int x1, .int x2, .int x3]) (rest := [.int 0, .ref o]) ⟨hx, hb, hml, hown, hts⟩ (c_jump l hst D s.heap.size h0 a x1 x2 x3) (cwV 3 hts (goodIn_app (goodIn_of _ (by decide +kernel)) (goodIn_sub (fun _ h => List.mem_cons_of_mem _ (List.mem_append_right _ (List.mem_append_left _ h))) zX11_jump_ws_good)) rfl rfl rfl (by decide +kernel) ⟨Nat.le_of_ble_eq_true rfl, Nat.le_of_ble_eq_true rfl⟩) ⟨zPre.blind, va_recv hKc hPc (ci := 17) (q0 := 0) rfl rfl, zPre.mk hPc hKc hDc hz hS (fun q h => hFc q h)⟩ rfl rfl hl.1 rfl (lv_room (Nat.le_of_ble_eq_true rfl)) dL_jump_7 ⟨Nat.le_of_ble_eq_true rfl, Nat.le_of_ble_eq_true rfl⟩) hS (fun q _ h => hFc q h) (fun q h => hFc q h) (fun q _ h => hFc q h) (fun E9 ce q9 u t H1 locs ht9 hvm hpx hBX hz1 hk1 hS hcell hv9 hcl => ?_) (fun _ _ t H1 locs _ _ hw _ _ _ _ => hw.elim)
  · cases hBX
    refine vx_catch hown [] _ _ htb (fun z hz9 => nomatch hz9) (by decide) (by decide) (hts (.classLink RL 25 "java/lang/IndexOutOfBoundsException") (by decide +kernel)) (hz.w (.castable "java/lang/IndexOutOfBoundsException" "java/lang/IndexOutOfBoundsException") (by decide +kernel)) hcell hv9 hcl ?_
    refine W.eq (g2 := F0 m 15 ls [.ref q9]) rfl ?_
    refine lv_astore (lv' := [(5, .ref q9), (0, .ref h0), (1, .int x1), (2, .int x2), (3, .int x3), (4, .ref o)]) hx hb dL_jump_15 hl (by decide) rfl (fun ls hl => ?_)
    refine lv_iconst (v := 1) hx hb dL_jump_17 (by decide) ?_
    refine W.widen (k := 1) (n := 6) (by omega) (by omega) ?_
    refine vx_ret ?_
    exact W.iret (v := 1) hx hb hr (fun t ht9 hW => ⟨⟨1, (), rfl, rfl, trivial⟩, hS.F ht9⟩) hS.2.2 dL_jump_18

def zL_put_ws : List Cond := .codeWith yL_put cL_put 6 (some .int) [(0, 12, 15, 25), (0, 12, 19, 13), (0, 12, 23, 46), (0, 12, 27, 15)] :: ([.methodLink RL 76 yX11_put, .instanceMethod yX11_put, .selects RX11 yX11_put yX11_put, .initialized RX11, .classLink RL 25 "java/lang/IndexOutOfBoundsException"] ++ (zX11_put_ws ++ ([])))
theorem zL_put_ws_good : zL_put_ws.all goodWord = true := by decide +kernel
set_option maxHeartbeats 4000000 in
set_option maxRecDepth 100000 in
/-- the law's put: 1 is thrown -/
theorem cl_put (l : Launch) (hst : l.stackTraces = false) (D : va_G) (sz : Nat) (h0 : Nat) (a : Nat → Nat) (x1 x2 x3 : Int32) (o : Nat) : vx_Met l yL_put zL_put_ws (zR 4 1 6) (zPre [.ref h0, .int x1, .int x2, .int x3, .ref o] D [(h0, .inr (17, zHS a))] [] (fun q : Nat => sz ≤ q) sz) (va_Qi (S := Unit) (fun r _ => r = 1) (fun _ _ => True) (fun q : Nat => sz ≤ q)) (fun _ _ _ => False) 1 6 (fun q : Nat => sz ≤ q) := by
  refine vx_ofWH (cc := cL_put) (maxL := 6) (ret := (some .int)) (by decide) rfl ?_
  intro p e s m args below meth c s₁ B hml hv
  have htb : c.exceptionTable.toList = tableOf [(0, 12, 15, 25), (0, 12, 19, 13), (0, 12, 23, 46), (0, 12, 27, 15)] := vx_table (x := yL_put) B (atoms_spec (ws := zL_put_ws) B.pre _ List.mem_cons_self)
  obtain ⟨rfl, hsz, hP, hK, hD0, hz⟩ := hv
  have hx := B.exec
  have hb := B.bytes
  have hr := B.returns
  have hts := atoms_spec (ws := zL_put_ws) B.pre
  have hown : s.vm.findClass RL = some m.cls := findClass_of_methodNamed B.named
  have hlocks := B.notSynchronized
  subst hsz
  obtain ⟨A, hAe⟩ : ∃ A : Nat → Prop, A = (fun q : Nat => s.heap.size ≤ q) := ⟨_, rfl⟩
  rw [← hAe] at hz ⊢
  have hA : ∀ q : Nat, s.heap.size ≤ q → A q := fun q h => by rw [hAe]; exact h
  have hD := hD0
  have hS : va_S A s.heap s.heap [] := va_S.rf
  have hP : va_P D vwCl [(h0, .inr (17, zHS a))] s.heap := hP
  have hl := lv_entry ([.ref h0, .int x1, .int x2, .int x3, .ref o]) (n := 6) (Nat.le_of_ble_eq_true rfl)
  rw [lg_entry_eq]
  generalize (lg_sl ([.ref h0, .int x1, .int x2, .int x3, .ref o]) ++ List.replicate (6 - (lg_sl ([.ref h0, .int x1, .int x2, .int x3, .ref o])).length) Slot.unset).toArray = ls at hl ⊢
  have hl : lv_has ls 6 [(0, .ref h0), (1, .int x1), (2, .int x2), (3, .int x3), (4, .ref o)] := hl
  refine lv_aload hx hb dL_put_0 (lv_at hl 4 rfl) ?_
  refine lv_iconst (v := 0) hx hb dL_put_2 (by decide) ?_
  refine lv_aload_n hx hb dL_put_3 rfl (lv_at hl 0 rfl) ?_
  refine lv_iload_n hx hb dL_put_4 rfl (lv_at hl 1 rfl) ?_
  refine lv_iload_n hx hb dL_put_5 rfl (lv_at hl 2 rfl) ?_
  refine lv_iload_n hx hb dL_put_6 rfl (lv_at hl 3 rfl) ?_
  have hPc := hP.sub (ws' := [(h0, .inr (17, zHS a))]) [0] rfl
  have hDc := hD.sub (ws' := [(h0, .inr (17, zHS a))]) [0] (by decide) rfl
  have hKc := hK.sub (tys' := []) [] rfl
  have hFc : ∀ q : Nat, s.heap.size ≤ q → A q := fun q h => hA q (Nat.le_trans hS.1 h)
  refine vx_calli (vx_runV (As := [.int x1, .int x2, .int x3]) (rest := [.int 0, .ref o]) ⟨hx, hb, hml, hown, hts⟩ (c_put l hst D s.heap.size h0 a x1 x2 x3) (cwV 3 hts (goodIn_app (goodIn_of _ (by decide +kernel)) (goodIn_sub (fun _ h => List.mem_cons_of_mem _ (List.mem_append_right _ (List.mem_append_left _ h))) zX11_put_ws_good)) rfl rfl rfl (by decide +kernel) ⟨Nat.le_of_ble_eq_true rfl, Nat.le_of_ble_eq_true rfl⟩) ⟨zPre.blind, va_recv hKc hPc (ci := 17) (q0 := 0) rfl rfl, zPre.mk hPc hKc hDc hz hS (fun q h => hFc q h)⟩ rfl rfl hl.1 rfl (lv_room (Nat.le_of_ble_eq_true rfl)) dL_put_7 ⟨Nat.le_of_ble_eq_true rfl, Nat.le_of_ble_eq_true rfl⟩) hS (fun q _ h => hFc q h) (fun q h => hFc q h) (fun q _ h => hFc q h) (fun E9 ce q9 u t H1 locs ht9 hvm hpx hBX hz1 hk1 hS hcell hv9 hcl => ?_) (fun _ _ t H1 locs _ _ hw _ _ _ _ => hw.elim)
  · cases hBX
    refine vx_catch hown [] _ _ htb (fun z hz9 => nomatch hz9) (by decide) (by decide) (hts (.classLink RL 25 "java/lang/IndexOutOfBoundsException") (by decide +kernel)) (hz.w (.castable "java/lang/IndexOutOfBoundsException" "java/lang/IndexOutOfBoundsException") (by decide +kernel)) hcell hv9 hcl ?_
    refine W.eq (g2 := F0 m 15 ls [.ref q9]) rfl ?_
    refine lv_astore (lv' := [(5, .ref q9), (0, .ref h0), (1, .int x1), (2, .int x2), (3, .int x3), (4, .ref o)]) hx hb dL_put_15 hl (by decide) rfl (fun ls hl => ?_)
    refine lv_iconst (v := 1) hx hb dL_put_17 (by decide) ?_
    refine W.widen (k := 1) (n := 6) (by omega) (by omega) ?_
    refine vx_ret ?_
    exact W.iret (v := 1) hx hb hr (fun t ht9 hW => ⟨⟨1, (), rfl, rfl, trivial⟩, hS.F ht9⟩) hS.2.2 dL_put_18

def zL_rankOf_ws : List Cond := .codeWith yL_rankOf cL_rankOf 5 (some .int) [(0, 10, 13, 25), (0, 10, 17, 31)] :: ([.methodLink RL 79 yX11_rankOf, .instanceMethod yX11_rankOf, .selects RX11 yX11_rankOf yX11_rankOf, .initialized RX11, .classLink RL 25 "java/lang/IndexOutOfBoundsException"] ++ (zX11_rankOf_ws ++ ([])))
theorem zL_rankOf_ws_good : zL_rankOf_ws.all goodWord = true := by decide +kernel
set_option maxHeartbeats 4000000 in
set_option maxRecDepth 100000 in
/-- the law's rankOf: 1 is thrown -/
theorem cl_rankOf (l : Launch) (hst : l.stackTraces = false) (D : va_G) (sz : Nat) (h0 : Nat) (a : Nat → Nat) (x1 x2 : Int32) (o : Nat) : vx_Met l yL_rankOf zL_rankOf_ws (zR 4 1 6) (zPre [.ref h0, .int x1, .int x2, .ref o] D [(h0, .inr (17, zHS a))] [] (fun q : Nat => sz ≤ q) sz) (va_Qi (S := Unit) (fun r _ => r = 1) (fun _ _ => True) (fun q : Nat => sz ≤ q)) (fun _ _ _ => False) 1 6 (fun q : Nat => sz ≤ q) := by
  refine vx_ofWH (cc := cL_rankOf) (maxL := 5) (ret := (some .int)) (by decide) rfl ?_
  intro p e s m args below meth c s₁ B hml hv
  have htb : c.exceptionTable.toList = tableOf [(0, 10, 13, 25), (0, 10, 17, 31)] := vx_table (x := yL_rankOf) B (atoms_spec (ws := zL_rankOf_ws) B.pre _ List.mem_cons_self)
  obtain ⟨rfl, hsz, hP, hK, hD0, hz⟩ := hv
  have hx := B.exec
  have hb := B.bytes
  have hr := B.returns
  have hts := atoms_spec (ws := zL_rankOf_ws) B.pre
  have hown : s.vm.findClass RL = some m.cls := findClass_of_methodNamed B.named
  have hlocks := B.notSynchronized
  subst hsz
  obtain ⟨A, hAe⟩ : ∃ A : Nat → Prop, A = (fun q : Nat => s.heap.size ≤ q) := ⟨_, rfl⟩
  rw [← hAe] at hz ⊢
  have hA : ∀ q : Nat, s.heap.size ≤ q → A q := fun q h => by rw [hAe]; exact h
  have hD := hD0
  have hS : va_S A s.heap s.heap [] := va_S.rf
  have hP : va_P D vwCl [(h0, .inr (17, zHS a))] s.heap := hP
  have hl := lv_entry ([.ref h0, .int x1, .int x2, .ref o]) (n := 5) (Nat.le_of_ble_eq_true rfl)
  rw [lg_entry_eq]
  generalize (lg_sl ([.ref h0, .int x1, .int x2, .ref o]) ++ List.replicate (5 - (lg_sl ([.ref h0, .int x1, .int x2, .ref o])).length) Slot.unset).toArray = ls at hl ⊢
  have hl : lv_has ls 5 [(0, .ref h0), (1, .int x1), (2, .int x2), (3, .ref o)] := hl
  refine lv_aload_n hx hb dL_rankOf_0 rfl (lv_at hl 3 rfl) ?_
  refine lv_iconst (v := 0) hx hb dL_rankOf_1 (by decide) ?_
  refine lv_aload_n hx hb dL_rankOf_2 rfl (lv_at hl 0 rfl) ?_
  refine lv_iload_n hx hb dL_rankOf_3 rfl (lv_at hl 1 rfl) ?_
  refine lv_iload_n hx hb dL_rankOf_4 rfl (lv_at hl 2 rfl) ?_
  have hPc := hP.sub (ws' := [(h0, .inr (17, zHS a))]) [0] rfl
  have hDc := hD.sub (ws' := [(h0, .inr (17, zHS a))]) [0] (by decide) rfl
  have hKc := hK.sub (tys' := []) [] rfl
  have hFc : ∀ q : Nat, s.heap.size ≤ q → A q := fun q h => hA q (Nat.le_trans hS.1 h)
  refine vx_calli (vx_runV (As := [.int x1, .int x2]) (rest := [.int 0, .ref o]) ⟨hx, hb, hml, hown, hts⟩ (c_rankOf l hst D s.heap.size h0 a x1 x2) (cwV 2 hts (goodIn_app (goodIn_of _ (by decide +kernel)) (goodIn_sub (fun _ h => List.mem_cons_of_mem _ (List.mem_append_right _ (List.mem_append_left _ h))) zX11_rankOf_ws_good)) rfl rfl rfl (by decide +kernel) ⟨Nat.le_of_ble_eq_true rfl, Nat.le_of_ble_eq_true rfl⟩) ⟨zPre.blind, va_recv hKc hPc (ci := 17) (q0 := 0) rfl rfl, zPre.mk hPc hKc hDc hz hS (fun q h => hFc q h)⟩ rfl rfl hl.1 rfl (lv_room (Nat.le_of_ble_eq_true rfl)) dL_rankOf_5 ⟨Nat.le_of_ble_eq_true rfl, Nat.le_of_ble_eq_true rfl⟩) hS (fun q _ h => hFc q h) (fun q h => hFc q h) (fun q _ h => hFc q h) (fun E9 ce q9 u t H1 locs ht9 hvm hpx hBX hz1 hk1 hS hcell hv9 hcl => ?_) (fun _ _ t H1 locs _ _ hw _ _ _ _ => hw.elim)
  · cases hBX
    refine vx_catch hown [] _ _ htb (fun z hz9 => nomatch hz9) (by decide) (by decide) (hts (.classLink RL 25 "java/lang/IndexOutOfBoundsException") (by decide +kernel)) (hz.w (.castable "java/lang/IndexOutOfBoundsException" "java/lang/IndexOutOfBoundsException") (by decide +kernel)) hcell hv9 hcl ?_
    refine W.eq (g2 := F0 m 13 ls [.ref q9]) rfl ?_
    refine lv_astore (lv' := [(4, .ref q9), (0, .ref h0), (1, .int x1), (2, .int x2), (3, .ref o)]) hx hb dL_rankOf_13 hl (by decide) rfl (fun ls hl => ?_)
    refine lv_iconst (v := 1) hx hb dL_rankOf_15 (by decide) ?_
    refine W.widen (k := 1) (n := 6) (by omega) (by omega) ?_
    refine vx_ret ?_
    exact W.iret (v := 1) hx hb hr (fun t ht9 hW => ⟨⟨1, (), rfl, rfl, trivial⟩, hS.F ht9⟩) hS.2.2 dL_rankOf_16

def zL_resultOf_ws : List Cond := .codeWith yL_resultOf cL_resultOf 5 (some .int) [(0, 10, 13, 25), (0, 10, 17, 31)] :: ([.methodLink RL 82 yX11_resultOf, .instanceMethod yX11_resultOf, .selects RX11 yX11_resultOf yX11_resultOf, .initialized RX11, .classLink RL 25 "java/lang/IndexOutOfBoundsException"] ++ (zX11_resultOf_ws ++ ([])))
theorem zL_resultOf_ws_good : zL_resultOf_ws.all goodWord = true := by decide +kernel
set_option maxHeartbeats 4000000 in
set_option maxRecDepth 100000 in
/-- the law's resultOf: 1 is thrown -/
theorem cl_resultOf (l : Launch) (hst : l.stackTraces = false) (D : va_G) (sz : Nat) (h0 : Nat) (a : Nat → Nat) (x1 x2 : Int32) (o : Nat) : vx_Met l yL_resultOf zL_resultOf_ws (zR 4 1 6) (zPre [.ref h0, .int x1, .int x2, .ref o] D [(h0, .inr (17, zHS a))] [] (fun q : Nat => sz ≤ q) sz) (va_Qi (S := Unit) (fun r _ => r = 1) (fun _ _ => True) (fun q : Nat => sz ≤ q)) (fun _ _ _ => False) 1 6 (fun q : Nat => sz ≤ q) := by
  refine vx_ofWH (cc := cL_resultOf) (maxL := 5) (ret := (some .int)) (by decide) rfl ?_
  intro p e s m args below meth c s₁ B hml hv
  have htb : c.exceptionTable.toList = tableOf [(0, 10, 13, 25), (0, 10, 17, 31)] := vx_table (x := yL_resultOf) B (atoms_spec (ws := zL_resultOf_ws) B.pre _ List.mem_cons_self)
  obtain ⟨rfl, hsz, hP, hK, hD0, hz⟩ := hv
  have hx := B.exec
  have hb := B.bytes
  have hr := B.returns
  have hts := atoms_spec (ws := zL_resultOf_ws) B.pre
  have hown : s.vm.findClass RL = some m.cls := findClass_of_methodNamed B.named
  have hlocks := B.notSynchronized
  subst hsz
  obtain ⟨A, hAe⟩ : ∃ A : Nat → Prop, A = (fun q : Nat => s.heap.size ≤ q) := ⟨_, rfl⟩
  rw [← hAe] at hz ⊢
  have hA : ∀ q : Nat, s.heap.size ≤ q → A q := fun q h => by rw [hAe]; exact h
  have hD := hD0
  have hS : va_S A s.heap s.heap [] := va_S.rf
  have hP : va_P D vwCl [(h0, .inr (17, zHS a))] s.heap := hP
  have hl := lv_entry ([.ref h0, .int x1, .int x2, .ref o]) (n := 5) (Nat.le_of_ble_eq_true rfl)
  rw [lg_entry_eq]
  generalize (lg_sl ([.ref h0, .int x1, .int x2, .ref o]) ++ List.replicate (5 - (lg_sl ([.ref h0, .int x1, .int x2, .ref o])).length) Slot.unset).toArray = ls at hl ⊢
  have hl : lv_has ls 5 [(0, .ref h0), (1, .int x1), (2, .int x2), (3, .ref o)] := hl
  refine lv_aload_n hx hb dL_resultOf_0 rfl (lv_at hl 3 rfl) ?_
  refine lv_iconst (v := 0) hx hb dL_resultOf_1 (by decide) ?_
  refine lv_aload_n hx hb dL_resultOf_2 rfl (lv_at hl 0 rfl) ?_
  refine lv_iload_n hx hb dL_resultOf_3 rfl (lv_at hl 1 rfl) ?_
  refine lv_iload_n hx hb dL_resultOf_4 rfl (lv_at hl 2 rfl) ?_
  have hPc := hP.sub (ws' := [(h0, .inr (17, zHS a))]) [0] rfl
  have hDc := hD.sub (ws' := [(h0, .inr (17, zHS a))]) [0] (by decide) rfl
  have hKc := hK.sub (tys' := []) [] rfl
  have hFc : ∀ q : Nat, s.heap.size ≤ q → A q := fun q h => hA q (Nat.le_trans hS.1 h)
  refine vx_calli (vx_runV (As := [.int x1, .int x2]) (rest := [.int 0, .ref o]) ⟨hx, hb, hml, hown, hts⟩ (c_resultOf l hst D s.heap.size h0 a x1 x2) (cwV 2 hts (goodIn_app (goodIn_of _ (by decide +kernel)) (goodIn_sub (fun _ h => List.mem_cons_of_mem _ (List.mem_append_right _ (List.mem_append_left _ h))) zX11_resultOf_ws_good)) rfl rfl rfl (by decide +kernel) ⟨Nat.le_of_ble_eq_true rfl, Nat.le_of_ble_eq_true rfl⟩) ⟨zPre.blind, va_recv hKc hPc (ci := 17) (q0 := 0) rfl rfl, zPre.mk hPc hKc hDc hz hS (fun q h => hFc q h)⟩ rfl rfl hl.1 rfl (lv_room (Nat.le_of_ble_eq_true rfl)) dL_resultOf_5 ⟨Nat.le_of_ble_eq_true rfl, Nat.le_of_ble_eq_true rfl⟩) hS (fun q _ h => hFc q h) (fun q h => hFc q h) (fun q _ h => hFc q h) (fun E9 ce q9 u t H1 locs ht9 hvm hpx hBX hz1 hk1 hS hcell hv9 hcl => ?_) (fun _ _ t H1 locs _ _ hw _ _ _ _ => hw.elim)
  · cases hBX
    refine vx_catch hown [] _ _ htb (fun z hz9 => nomatch hz9) (by decide) (by decide) (hts (.classLink RL 25 "java/lang/IndexOutOfBoundsException") (by decide +kernel)) (hz.w (.castable "java/lang/IndexOutOfBoundsException" "java/lang/IndexOutOfBoundsException") (by decide +kernel)) hcell hv9 hcl ?_
    refine W.eq (g2 := F0 m 13 ls [.ref q9]) rfl ?_
    refine lv_astore (lv' := [(4, .ref q9), (0, .ref h0), (1, .int x1), (2, .int x2), (3, .ref o)]) hx hb dL_resultOf_13 hl (by decide) rfl (fun ls hl => ?_)
    refine lv_iconst (v := 1) hx hb dL_resultOf_15 (by decide) ?_
    refine W.widen (k := 1) (n := 6) (by omega) (by omega) ?_
    refine vx_ret ?_
    exact W.iret (v := 1) hx hb hr (fun t ht9 hW => ⟨⟨1, (), rfl, rfl, trivial⟩, hS.F ht9⟩) hS.2.2 dL_resultOf_16

def zL_protest_ws : List Cond := .codeWith yL_protest cL_protest 6 (some .int) [(0, 12, 15, 25), (0, 12, 19, 13), (0, 12, 23, 46), (0, 12, 27, 15)] :: ([.methodLink RL 85 yX11_protest, .instanceMethod yX11_protest, .selects RX11 yX11_protest yX11_protest, .initialized RX11, .classLink RL 25 "java/lang/IndexOutOfBoundsException"] ++ (zX11_protest_ws ++ ([])))
theorem zL_protest_ws_good : zL_protest_ws.all goodWord = true := by decide +kernel
set_option maxHeartbeats 4000000 in
set_option maxRecDepth 100000 in
/-- the law's protest: 1 is thrown -/
theorem cl_protest (l : Launch) (hst : l.stackTraces = false) (D : va_G) (sz : Nat) (h0 : Nat) (a : Nat → Nat) (x1 x2 x3 : Int32) (o : Nat) : vx_Met l yL_protest zL_protest_ws (zR 4 1 6) (zPre [.ref h0, .int x1, .int x2, .int x3, .ref o] D [(h0, .inr (17, zHS a))] [] (fun q : Nat => sz ≤ q) sz) (va_Qi (S := Unit) (fun r _ => r = 1) (fun _ _ => True) (fun q : Nat => sz ≤ q)) (fun _ _ _ => False) 1 6 (fun q : Nat => sz ≤ q) := by
  refine vx_ofWH (cc := cL_protest) (maxL := 6) (ret := (some .int)) (by decide) rfl ?_
  intro p e s m args below meth c s₁ B hml hv
  have htb : c.exceptionTable.toList = tableOf [(0, 12, 15, 25), (0, 12, 19, 13), (0, 12, 23, 46), (0, 12, 27, 15)] := vx_table (x := yL_protest) B (atoms_spec (ws := zL_protest_ws) B.pre _ List.mem_cons_self)
  obtain ⟨rfl, hsz, hP, hK, hD0, hz⟩ := hv
  have hx := B.exec
  have hb := B.bytes
  have hr := B.returns
  have hts := atoms_spec (ws := zL_protest_ws) B.pre
  have hown : s.vm.findClass RL = some m.cls := findClass_of_methodNamed B.named
  have hlocks := B.notSynchronized
  subst hsz
  obtain ⟨A, hAe⟩ : ∃ A : Nat → Prop, A = (fun q : Nat => s.heap.size ≤ q) := ⟨_, rfl⟩
  rw [← hAe] at hz ⊢
  have hA : ∀ q : Nat, s.heap.size ≤ q → A q := fun q h => by rw [hAe]; exact h
  have hD := hD0
  have hS : va_S A s.heap s.heap [] := va_S.rf
  have hP : va_P D vwCl [(h0, .inr (17, zHS a))] s.heap := hP
  have hl := lv_entry ([.ref h0, .int x1, .int x2, .int x3, .ref o]) (n := 6) (Nat.le_of_ble_eq_true rfl)
  rw [lg_entry_eq]
  generalize (lg_sl ([.ref h0, .int x1, .int x2, .int x3, .ref o]) ++ List.replicate (6 - (lg_sl ([.ref h0, .int x1, .int x2, .int x3, .ref o])).length) Slot.unset).toArray = ls at hl ⊢
  have hl : lv_has ls 6 [(0, .ref h0), (1, .int x1), (2, .int x2), (3, .int x3), (4, .ref o)] := hl
  refine lv_aload hx hb dL_protest_0 (lv_at hl 4 rfl) ?_
  refine lv_iconst (v := 0) hx hb dL_protest_2 (by decide) ?_
  refine lv_aload_n hx hb dL_protest_3 rfl (lv_at hl 0 rfl) ?_
  refine lv_iload_n hx hb dL_protest_4 rfl (lv_at hl 1 rfl) ?_
  refine lv_iload_n hx hb dL_protest_5 rfl (lv_at hl 2 rfl) ?_
  refine lv_iload_n hx hb dL_protest_6 rfl (lv_at hl 3 rfl) ?_
  have hPc := hP.sub (ws' := [(h0, .inr (17, zHS a))]) [0] rfl
  have hDc := hD.sub (ws' := [(h0, .inr (17, zHS a))]) [0] (by decide) rfl
  have hKc := hK.sub (tys' := []) [] rfl
  have hFc : ∀ q : Nat, s.heap.size ≤ q → A q := fun q h => hA q (Nat.le_trans hS.1 h)
  refine vx_calli (vx_runV (As := [.int x1, .int x2, .int x3]) (rest := [.int 0, .ref o]) ⟨hx, hb, hml, hown, hts⟩ (c_protest l hst D s.heap.size h0 a x1 x2 x3) (cwV 3 hts (goodIn_app (goodIn_of _ (by decide +kernel)) (goodIn_sub (fun _ h => List.mem_cons_of_mem _ (List.mem_append_right _ (List.mem_append_left _ h))) zX11_protest_ws_good)) rfl rfl rfl (by decide +kernel) ⟨Nat.le_of_ble_eq_true rfl, Nat.le_of_ble_eq_true rfl⟩) ⟨zPre.blind, va_recv hKc hPc (ci := 17) (q0 := 0) rfl rfl, zPre.mk hPc hKc hDc hz hS (fun q h => hFc q h)⟩ rfl rfl hl.1 rfl (lv_room (Nat.le_of_ble_eq_true rfl)) dL_protest_7 ⟨Nat.le_of_ble_eq_true rfl, Nat.le_of_ble_eq_true rfl⟩) hS (fun q _ h => hFc q h) (fun q h => hFc q h) (fun q _ h => hFc q h) (fun E9 ce q9 u t H1 locs ht9 hvm hpx hBX hz1 hk1 hS hcell hv9 hcl => ?_) (fun _ _ t H1 locs _ _ hw _ _ _ _ => hw.elim)
  · cases hBX
    refine vx_catch hown [] _ _ htb (fun z hz9 => nomatch hz9) (by decide) (by decide) (hts (.classLink RL 25 "java/lang/IndexOutOfBoundsException") (by decide +kernel)) (hz.w (.castable "java/lang/IndexOutOfBoundsException" "java/lang/IndexOutOfBoundsException") (by decide +kernel)) hcell hv9 hcl ?_
    refine W.eq (g2 := F0 m 15 ls [.ref q9]) rfl ?_
    refine lv_astore (lv' := [(5, .ref q9), (0, .ref h0), (1, .int x1), (2, .int x2), (3, .int x3), (4, .ref o)]) hx hb dL_protest_15 hl (by decide) rfl (fun ls hl => ?_)
    refine lv_iconst (v := 1) hx hb dL_protest_17 (by decide) ?_
    refine W.widen (k := 1) (n := 6) (by omega) (by omega) ?_
    refine vx_ret ?_
    exact W.iret (v := 1) hx hb hr (fun t ht9 hW => ⟨⟨1, (), rfl, rfl, trivial⟩, hS.F ht9⟩) hS.2.2 dL_protest_18

def zL_close_ws : List Cond := .codeWith yL_close cL_close 5 (some .int) [(0, 17, 20, 25)] :: ([.methodLink RL 96 yX11_close, .instanceMethod yX11_close, .selects RX11 yX11_close yX11_close, .initialized RX11, .classLink RL 25 "java/lang/IndexOutOfBoundsException"] ++ (zX11_close_ws ++ ([])))
theorem zL_close_ws_good : zL_close_ws.all goodWord = true := by decide +kernel
set_option maxHeartbeats 4000000 in
set_option maxRecDepth 100000 in
/-- the law's close: 1 is thrown -/
theorem cl_close (l : Launch) (hst : l.stackTraces = false) (D : va_G) (sz : Nat) (h0 : Nat) (a : Nat → Nat) (x1 x2 : Int32) (o : Nat) : vx_Met l yL_close zL_close_ws (zR 4 1 6) (zPre [.ref h0, .int x1, .int x2, .ref o] D [(h0, .inr (17, zHS a))] [] (fun q : Nat => sz ≤ q) sz) (va_Qi (S := Unit) (fun r _ => r = 1) (fun _ _ => True) (fun q : Nat => sz ≤ q)) (fun _ _ _ => False) 1 6 (fun q : Nat => sz ≤ q) := by
  refine vx_ofWH (cc := cL_close) (maxL := 5) (ret := (some .int)) (by decide) rfl ?_
  intro p e s m args below meth c s₁ B hml hv
  have htb : c.exceptionTable.toList = tableOf [(0, 17, 20, 25)] := vx_table (x := yL_close) B (atoms_spec (ws := zL_close_ws) B.pre _ List.mem_cons_self)
  obtain ⟨rfl, hsz, hP, hK, hD0, hz⟩ := hv
  have hx := B.exec
  have hb := B.bytes
  have hr := B.returns
  have hts := atoms_spec (ws := zL_close_ws) B.pre
  have hown : s.vm.findClass RL = some m.cls := findClass_of_methodNamed B.named
  have hlocks := B.notSynchronized
  subst hsz
  obtain ⟨A, hAe⟩ : ∃ A : Nat → Prop, A = (fun q : Nat => s.heap.size ≤ q) := ⟨_, rfl⟩
  rw [← hAe] at hz ⊢
  have hA : ∀ q : Nat, s.heap.size ≤ q → A q := fun q h => by rw [hAe]; exact h
  have hD := hD0
  have hS : va_S A s.heap s.heap [] := va_S.rf
  have hP : va_P D vwCl [(h0, .inr (17, zHS a))] s.heap := hP
  have hl := lv_entry ([.ref h0, .int x1, .int x2, .ref o]) (n := 5) (Nat.le_of_ble_eq_true rfl)
  rw [lg_entry_eq]
  generalize (lg_sl ([.ref h0, .int x1, .int x2, .ref o]) ++ List.replicate (5 - (lg_sl ([.ref h0, .int x1, .int x2, .ref o])).length) Slot.unset).toArray = ls at hl ⊢
  have hl : lv_has ls 5 [(0, .ref h0), (1, .int x1), (2, .int x2), (3, .ref o)] := hl
  refine lv_aload_n hx hb dL_close_0 rfl (lv_at hl 3 rfl) ?_
  refine lv_iconst (v := 0) hx hb dL_close_1 (by decide) ?_
  refine lv_aload_n hx hb dL_close_2 rfl (lv_at hl 0 rfl) ?_
  refine lv_iload_n hx hb dL_close_3 rfl (lv_at hl 1 rfl) ?_
  refine lv_iload_n hx hb dL_close_4 rfl (lv_at hl 2 rfl) ?_
  have hPc := hP.sub (ws' := [(h0, .inr (17, zHS a))]) [0] rfl
  have hDc := hD.sub (ws' := [(h0, .inr (17, zHS a))]) [0] (by decide) rfl
  have hKc := hK.sub (tys' := []) [] rfl
  have hFc : ∀ q : Nat, s.heap.size ≤ q → A q := fun q h => hA q (Nat.le_trans hS.1 h)
  refine vx_calli (vx_runV (As := [.int x1, .int x2]) (rest := [.int 0, .ref o]) ⟨hx, hb, hml, hown, hts⟩ (c_close l hst D s.heap.size h0 a x1 x2) (cwV 2 hts (goodIn_app (goodIn_of _ (by decide +kernel)) (goodIn_sub (fun _ h => List.mem_cons_of_mem _ (List.mem_append_right _ (List.mem_append_left _ h))) zX11_close_ws_good)) rfl rfl rfl (by decide +kernel) ⟨Nat.le_of_ble_eq_true rfl, Nat.le_of_ble_eq_true rfl⟩) ⟨zPre.blind, va_recv hKc hPc (ci := 17) (q0 := 0) rfl rfl, zPre.mk hPc hKc hDc hz hS (fun q h => hFc q h)⟩ rfl rfl hl.1 rfl (lv_room (Nat.le_of_ble_eq_true rfl)) dL_close_5 ⟨Nat.le_of_ble_eq_true rfl, Nat.le_of_ble_eq_true rfl⟩) hS (fun q _ h => hFc q h) (fun q h => hFc q h) (fun q _ h => hFc q h) (fun E9 ce q9 u t H1 locs ht9 hvm hpx hBX hz1 hk1 hS hcell hv9 hcl => ?_) (fun _ _ t H1 locs _ _ hw _ _ _ _ => hw.elim)
  · cases hBX
    refine vx_catch hown [] _ _ htb (fun z hz9 => nomatch hz9) (by decide) (by decide) (hts (.classLink RL 25 "java/lang/IndexOutOfBoundsException") (by decide +kernel)) (hz.w (.castable "java/lang/IndexOutOfBoundsException" "java/lang/IndexOutOfBoundsException") (by decide +kernel)) hcell hv9 hcl ?_
    refine W.eq (g2 := F0 m 20 ls [.ref q9]) rfl ?_
    refine lv_astore (lv' := [(4, .ref q9), (0, .ref h0), (1, .int x1), (2, .int x2), (3, .ref o)]) hx hb dL_close_20 hl (by decide) rfl (fun ls hl => ?_)
    refine lv_iconst (v := 1) hx hb dL_close_22 (by decide) ?_
    refine W.widen (k := 1) (n := 6) (by omega) (by omega) ?_
    refine vx_ret ?_
    exact W.iret (v := 1) hx hb hr (fun t ht9 hW => ⟨⟨1, (), rfl, rfl, trivial⟩, hS.F ht9⟩) hS.2.2 dL_close_23

def zL_record_ws : List Cond := .codeWith yL_record cL_record 4 (some .int) [(0, 9, 12, 25), (0, 9, 15, 31)] :: ([.methodLink RL 99 yX11_record, .instanceMethod yX11_record, .selects RX11 yX11_record yX11_record, .initialized RX11, .classLink RL 25 "java/lang/IndexOutOfBoundsException"] ++ (zX11_record_ws ++ ([])))
theorem zL_record_ws_good : zL_record_ws.all goodWord = true := by decide +kernel
set_option maxHeartbeats 4000000 in
set_option maxRecDepth 100000 in
/-- the law's record: 1 is thrown -/
theorem cl_record (l : Launch) (hst : l.stackTraces = false) (D : va_G) (sz : Nat) (h0 : Nat) (a : Nat → Nat) (x1 : Int32) (o : Nat) : vx_Met l yL_record zL_record_ws (zR 4 1 6) (zPre [.ref h0, .int x1, .ref o] D [(h0, .inr (17, zHS a))] [] (fun q : Nat => sz ≤ q) sz) (va_Qi (S := Unit) (fun r _ => r = 1) (fun _ _ => True) (fun q : Nat => sz ≤ q)) (fun _ _ _ => False) 1 6 (fun q : Nat => sz ≤ q) := by
  refine vx_ofWH (cc := cL_record) (maxL := 4) (ret := (some .int)) (by decide) rfl ?_
  intro p e s m args below meth c s₁ B hml hv
  have htb : c.exceptionTable.toList = tableOf [(0, 9, 12, 25), (0, 9, 15, 31)] := vx_table (x := yL_record) B (atoms_spec (ws := zL_record_ws) B.pre _ List.mem_cons_self)
  obtain ⟨rfl, hsz, hP, hK, hD0, hz⟩ := hv
  have hx := B.exec
  have hb := B.bytes
  have hr := B.returns
  have hts := atoms_spec (ws := zL_record_ws) B.pre
  have hown : s.vm.findClass RL = some m.cls := findClass_of_methodNamed B.named
  have hlocks := B.notSynchronized
  subst hsz
  obtain ⟨A, hAe⟩ : ∃ A : Nat → Prop, A = (fun q : Nat => s.heap.size ≤ q) := ⟨_, rfl⟩
  rw [← hAe] at hz ⊢
  have hA : ∀ q : Nat, s.heap.size ≤ q → A q := fun q h => by rw [hAe]; exact h
  have hD := hD0
  have hS : va_S A s.heap s.heap [] := va_S.rf
  have hP : va_P D vwCl [(h0, .inr (17, zHS a))] s.heap := hP
  have hl := lv_entry ([.ref h0, .int x1, .ref o]) (n := 4) (Nat.le_of_ble_eq_true rfl)
  rw [lg_entry_eq]
  generalize (lg_sl ([.ref h0, .int x1, .ref o]) ++ List.replicate (4 - (lg_sl ([.ref h0, .int x1, .ref o])).length) Slot.unset).toArray = ls at hl ⊢
  have hl : lv_has ls 4 [(0, .ref h0), (1, .int x1), (2, .ref o)] := hl
  refine lv_aload_n hx hb dL_record_0 rfl (lv_at hl 2 rfl) ?_
  refine lv_iconst (v := 0) hx hb dL_record_1 (by decide) ?_
  refine lv_aload_n hx hb dL_record_2 rfl (lv_at hl 0 rfl) ?_
  refine lv_iload_n hx hb dL_record_3 rfl (lv_at hl 1 rfl) ?_
  have hPc := hP.sub (ws' := [(h0, .inr (17, zHS a))]) [0] rfl
  have hDc := hD.sub (ws' := [(h0, .inr (17, zHS a))]) [0] (by decide) rfl
  have hKc := hK.sub (tys' := []) [] rfl
  have hFc : ∀ q : Nat, s.heap.size ≤ q → A q := fun q h => hA q (Nat.le_trans hS.1 h)
  refine vx_calli (vx_runV (As := [.int x1]) (rest := [.int 0, .ref o]) ⟨hx, hb, hml, hown, hts⟩ (c_record l hst D s.heap.size h0 a x1) (cwV 1 hts (goodIn_app (goodIn_of _ (by decide +kernel)) (goodIn_sub (fun _ h => List.mem_cons_of_mem _ (List.mem_append_right _ (List.mem_append_left _ h))) zX11_record_ws_good)) rfl rfl rfl (by decide +kernel) ⟨Nat.le_of_ble_eq_true rfl, Nat.le_of_ble_eq_true rfl⟩) ⟨zPre.blind, va_recv hKc hPc (ci := 17) (q0 := 0) rfl rfl, zPre.mk hPc hKc hDc hz hS (fun q h => hFc q h)⟩ rfl rfl hl.1 rfl (lv_room (Nat.le_of_ble_eq_true rfl)) dL_record_4 ⟨Nat.le_of_ble_eq_true rfl, Nat.le_of_ble_eq_true rfl⟩) hS (fun q _ h => hFc q h) (fun q h => hFc q h) (fun q _ h => hFc q h) (fun E9 ce q9 u t H1 locs ht9 hvm hpx hBX hz1 hk1 hS hcell hv9 hcl => ?_) (fun _ _ t H1 locs _ _ hw _ _ _ _ => hw.elim)
  · cases hBX
    refine vx_catch hown [] _ _ htb (fun z hz9 => nomatch hz9) (by decide) (by decide) (hts (.classLink RL 25 "java/lang/IndexOutOfBoundsException") (by decide +kernel)) (hz.w (.castable "java/lang/IndexOutOfBoundsException" "java/lang/IndexOutOfBoundsException") (by decide +kernel)) hcell hv9 hcl ?_
    refine W.eq (g2 := F0 m 12 ls [.ref q9]) rfl ?_
    refine lv_astore_n (lv' := [(3, .ref q9), (0, .ref h0), (1, .int x1), (2, .ref o)]) hx hb dL_record_12 rfl hl (by decide) rfl (fun ls hl => ?_)
    refine lv_iconst (v := 1) hx hb dL_record_13 (by decide) ?_
    refine W.widen (k := 1) (n := 6) (by omega) (by omega) ?_
    refine vx_ret ?_
    exact W.iret (v := 1) hx hb hr (fun t ht9 hW => ⟨⟨1, (), rfl, rfl, trivial⟩, hS.F ht9⟩) hS.2.2 dL_record_14

def zL_holder_ws : List Cond := .codeWith yL_holder cL_holder 4 (some .int) [(0, 9, 12, 25), (0, 9, 15, 31)] :: ([.methodLink RL 102 yX11_holder, .instanceMethod yX11_holder, .selects RX11 yX11_holder yX11_holder, .initialized RX11, .classLink RL 25 "java/lang/IndexOutOfBoundsException"] ++ (zX11_holder_ws ++ ([])))
theorem zL_holder_ws_good : zL_holder_ws.all goodWord = true := by decide +kernel
set_option maxHeartbeats 4000000 in
set_option maxRecDepth 100000 in
/-- the law's holder: 1 is thrown -/
theorem cl_holder (l : Launch) (hst : l.stackTraces = false) (D : va_G) (sz : Nat) (h0 : Nat) (a : Nat → Nat) (x1 : Int32) (o : Nat) : vx_Met l yL_holder zL_holder_ws (zR 4 1 6) (zPre [.ref h0, .int x1, .ref o] D [(h0, .inr (17, zHS a))] [] (fun q : Nat => sz ≤ q) sz) (va_Qi (S := Unit) (fun r _ => r = 1) (fun _ _ => True) (fun q : Nat => sz ≤ q)) (fun _ _ _ => False) 1 6 (fun q : Nat => sz ≤ q) := by
  refine vx_ofWH (cc := cL_holder) (maxL := 4) (ret := (some .int)) (by decide) rfl ?_
  intro p e s m args below meth c s₁ B hml hv
  have htb : c.exceptionTable.toList = tableOf [(0, 9, 12, 25), (0, 9, 15, 31)] := vx_table (x := yL_holder) B (atoms_spec (ws := zL_holder_ws) B.pre _ List.mem_cons_self)
  obtain ⟨rfl, hsz, hP, hK, hD0, hz⟩ := hv
  have hx := B.exec
  have hb := B.bytes
  have hr := B.returns
  have hts := atoms_spec (ws := zL_holder_ws) B.pre
  have hown : s.vm.findClass RL = some m.cls := findClass_of_methodNamed B.named
  have hlocks := B.notSynchronized
  subst hsz
  obtain ⟨A, hAe⟩ : ∃ A : Nat → Prop, A = (fun q : Nat => s.heap.size ≤ q) := ⟨_, rfl⟩
  rw [← hAe] at hz ⊢
  have hA : ∀ q : Nat, s.heap.size ≤ q → A q := fun q h => by rw [hAe]; exact h
  have hD := hD0
  have hS : va_S A s.heap s.heap [] := va_S.rf
  have hP : va_P D vwCl [(h0, .inr (17, zHS a))] s.heap := hP
  have hl := lv_entry ([.ref h0, .int x1, .ref o]) (n := 4) (Nat.le_of_ble_eq_true rfl)
  rw [lg_entry_eq]
  generalize (lg_sl ([.ref h0, .int x1, .ref o]) ++ List.replicate (4 - (lg_sl ([.ref h0, .int x1, .ref o])).length) Slot.unset).toArray = ls at hl ⊢
  have hl : lv_has ls 4 [(0, .ref h0), (1, .int x1), (2, .ref o)] := hl
  refine lv_aload_n hx hb dL_holder_0 rfl (lv_at hl 2 rfl) ?_
  refine lv_iconst (v := 0) hx hb dL_holder_1 (by decide) ?_
  refine lv_aload_n hx hb dL_holder_2 rfl (lv_at hl 0 rfl) ?_
  refine lv_iload_n hx hb dL_holder_3 rfl (lv_at hl 1 rfl) ?_
  have hPc := hP.sub (ws' := [(h0, .inr (17, zHS a))]) [0] rfl
  have hDc := hD.sub (ws' := [(h0, .inr (17, zHS a))]) [0] (by decide) rfl
  have hKc := hK.sub (tys' := []) [] rfl
  have hFc : ∀ q : Nat, s.heap.size ≤ q → A q := fun q h => hA q (Nat.le_trans hS.1 h)
  refine vx_calli (vx_runV (As := [.int x1]) (rest := [.int 0, .ref o]) ⟨hx, hb, hml, hown, hts⟩ (c_holder l hst D s.heap.size h0 a x1) (cwV 1 hts (goodIn_app (goodIn_of _ (by decide +kernel)) (goodIn_sub (fun _ h => List.mem_cons_of_mem _ (List.mem_append_right _ (List.mem_append_left _ h))) zX11_holder_ws_good)) rfl rfl rfl (by decide +kernel) ⟨Nat.le_of_ble_eq_true rfl, Nat.le_of_ble_eq_true rfl⟩) ⟨zPre.blind, va_recv hKc hPc (ci := 17) (q0 := 0) rfl rfl, zPre.mk hPc hKc hDc hz hS (fun q h => hFc q h)⟩ rfl rfl hl.1 rfl (lv_room (Nat.le_of_ble_eq_true rfl)) dL_holder_4 ⟨Nat.le_of_ble_eq_true rfl, Nat.le_of_ble_eq_true rfl⟩) hS (fun q _ h => hFc q h) (fun q h => hFc q h) (fun q _ h => hFc q h) (fun E9 ce q9 u t H1 locs ht9 hvm hpx hBX hz1 hk1 hS hcell hv9 hcl => ?_) (fun _ _ t H1 locs _ _ hw _ _ _ _ => hw.elim)
  · cases hBX
    refine vx_catch hown [] _ _ htb (fun z hz9 => nomatch hz9) (by decide) (by decide) (hts (.classLink RL 25 "java/lang/IndexOutOfBoundsException") (by decide +kernel)) (hz.w (.castable "java/lang/IndexOutOfBoundsException" "java/lang/IndexOutOfBoundsException") (by decide +kernel)) hcell hv9 hcl ?_
    refine W.eq (g2 := F0 m 12 ls [.ref q9]) rfl ?_
    refine lv_astore_n (lv' := [(3, .ref q9), (0, .ref h0), (1, .int x1), (2, .ref o)]) hx hb dL_holder_12 rfl hl (by decide) rfl (fun ls hl => ?_)
    refine lv_iconst (v := 1) hx hb dL_holder_13 (by decide) ?_
    refine W.widen (k := 1) (n := 6) (by omega) (by omega) ?_
    refine vx_ret ?_
    exact W.iret (v := 1) hx hb hr (fun t ht9 hW => ⟨⟨1, (), rfl, rfl, trivial⟩, hS.F ht9⟩) hS.2.2 dL_holder_14

def zL_sharers_ws : List Cond := .codeWith yL_sharers cL_sharers 4 (some .int) [(0, 9, 12, 25)] :: ([.methodLink RL 105 yX11_sharers, .instanceMethod yX11_sharers, .selects RX11 yX11_sharers yX11_sharers, .initialized RX11, .classLink RL 25 "java/lang/IndexOutOfBoundsException"] ++ (zX11_sharers_ws ++ ([])))
theorem zL_sharers_ws_good : zL_sharers_ws.all goodWord = true := by decide +kernel
set_option maxHeartbeats 4000000 in
set_option maxRecDepth 100000 in
/-- the law's sharers: 1 is thrown -/
theorem cl_sharers (l : Launch) (hst : l.stackTraces = false) (D : va_G) (sz : Nat) (h0 : Nat) (a : Nat → Nat) (x1 : Int32) (o : Nat) : vx_Met l yL_sharers zL_sharers_ws (zR 4 1 6) (zPre [.ref h0, .int x1, .ref o] D [(h0, .inr (17, zHS a))] [] (fun q : Nat => sz ≤ q) sz) (va_Qi (S := Unit) (fun r _ => r = 1) (fun _ _ => True) (fun q : Nat => sz ≤ q)) (fun _ _ _ => False) 1 6 (fun q : Nat => sz ≤ q) := by
  refine vx_ofWH (cc := cL_sharers) (maxL := 4) (ret := (some .int)) (by decide) rfl ?_
  intro p e s m args below meth c s₁ B hml hv
  have htb : c.exceptionTable.toList = tableOf [(0, 9, 12, 25)] := vx_table (x := yL_sharers) B (atoms_spec (ws := zL_sharers_ws) B.pre _ List.mem_cons_self)
  obtain ⟨rfl, hsz, hP, hK, hD0, hz⟩ := hv
  have hx := B.exec
  have hb := B.bytes
  have hr := B.returns
  have hts := atoms_spec (ws := zL_sharers_ws) B.pre
  have hown : s.vm.findClass RL = some m.cls := findClass_of_methodNamed B.named
  have hlocks := B.notSynchronized
  subst hsz
  obtain ⟨A, hAe⟩ : ∃ A : Nat → Prop, A = (fun q : Nat => s.heap.size ≤ q) := ⟨_, rfl⟩
  rw [← hAe] at hz ⊢
  have hA : ∀ q : Nat, s.heap.size ≤ q → A q := fun q h => by rw [hAe]; exact h
  have hD := hD0
  have hS : va_S A s.heap s.heap [] := va_S.rf
  have hP : va_P D vwCl [(h0, .inr (17, zHS a))] s.heap := hP
  have hl := lv_entry ([.ref h0, .int x1, .ref o]) (n := 4) (Nat.le_of_ble_eq_true rfl)
  rw [lg_entry_eq]
  generalize (lg_sl ([.ref h0, .int x1, .ref o]) ++ List.replicate (4 - (lg_sl ([.ref h0, .int x1, .ref o])).length) Slot.unset).toArray = ls at hl ⊢
  have hl : lv_has ls 4 [(0, .ref h0), (1, .int x1), (2, .ref o)] := hl
  refine lv_aload_n hx hb dL_sharers_0 rfl (lv_at hl 2 rfl) ?_
  refine lv_iconst (v := 0) hx hb dL_sharers_1 (by decide) ?_
  refine lv_aload_n hx hb dL_sharers_2 rfl (lv_at hl 0 rfl) ?_
  refine lv_iload_n hx hb dL_sharers_3 rfl (lv_at hl 1 rfl) ?_
  have hPc := hP.sub (ws' := [(h0, .inr (17, zHS a))]) [0] rfl
  have hDc := hD.sub (ws' := [(h0, .inr (17, zHS a))]) [0] (by decide) rfl
  have hKc := hK.sub (tys' := []) [] rfl
  have hFc : ∀ q : Nat, s.heap.size ≤ q → A q := fun q h => hA q (Nat.le_trans hS.1 h)
  refine vx_calli (vx_runV (As := [.int x1]) (rest := [.int 0, .ref o]) ⟨hx, hb, hml, hown, hts⟩ (c_sharers l hst D s.heap.size h0 a x1) (cwV 1 hts (goodIn_app (goodIn_of _ (by decide +kernel)) (goodIn_sub (fun _ h => List.mem_cons_of_mem _ (List.mem_append_right _ (List.mem_append_left _ h))) zX11_sharers_ws_good)) rfl rfl rfl (by decide +kernel) ⟨Nat.le_of_ble_eq_true rfl, Nat.le_of_ble_eq_true rfl⟩) ⟨zPre.blind, va_recv hKc hPc (ci := 17) (q0 := 0) rfl rfl, zPre.mk hPc hKc hDc hz hS (fun q h => hFc q h)⟩ rfl rfl hl.1 rfl (lv_room (Nat.le_of_ble_eq_true rfl)) dL_sharers_4 ⟨Nat.le_of_ble_eq_true rfl, Nat.le_of_ble_eq_true rfl⟩) hS (fun q _ h => hFc q h) (fun q h => hFc q h) (fun q _ h => hFc q h) (fun E9 ce q9 u t H1 locs ht9 hvm hpx hBX hz1 hk1 hS hcell hv9 hcl => ?_) (fun _ _ t H1 locs _ _ hw _ _ _ _ => hw.elim)
  · cases hBX
    refine vx_catch hown [] _ _ htb (fun z hz9 => nomatch hz9) (by decide) (by decide) (hts (.classLink RL 25 "java/lang/IndexOutOfBoundsException") (by decide +kernel)) (hz.w (.castable "java/lang/IndexOutOfBoundsException" "java/lang/IndexOutOfBoundsException") (by decide +kernel)) hcell hv9 hcl ?_
    refine W.eq (g2 := F0 m 12 ls [.ref q9]) rfl ?_
    refine lv_astore_n (lv' := [(3, .ref q9), (0, .ref h0), (1, .int x1), (2, .ref o)]) hx hb dL_sharers_12 rfl hl (by decide) rfl (fun ls hl => ?_)
    refine lv_iconst (v := 1) hx hb dL_sharers_13 (by decide) ?_
    refine W.widen (k := 1) (n := 6) (by omega) (by omega) ?_
    refine vx_ret ?_
    exact W.iret (v := 1) hx hb hr (fun t ht9 hW => ⟨⟨1, (), rfl, rfl, trivial⟩, hS.F ht9⟩) hS.2.2 dL_sharers_14

def zL_dope_ws : List Cond := .codeWith yL_dope cL_dope 5 (some .int) [(0, 17, 20, 25)] :: ([.methodLink RL 92 yX11_dope, .instanceMethod yX11_dope, .selects RX11 yX11_dope yX11_dope, .initialized RX11, .classLink RL 25 "java/lang/IndexOutOfBoundsException"] ++ (zX11_dope_ws ++ ([])))
theorem zL_dope_ws_good : zL_dope_ws.all goodWord = true := by decide +kernel
set_option maxHeartbeats 4000000 in
set_option maxRecDepth 100000 in
/-- the law's dope: 1 is thrown -/
theorem cl_dope (l : Launch) (hst : l.stackTraces = false) (D : va_G) (sz : Nat) (h0 : Nat) (a : Nat → Nat) (a1 a2 : Nat) (x1 x2 : Int32) (o : Nat) : vx_Met l yL_dope zL_dope_ws (zR 4 1 6) (zPre [.ref h0, .int x1, .int x2, .ref o] D [(h0, .inr (17, zHS a)), ((a 0), .inr (6, [.ref a1, .ref a2, .int 0]))] [] (fun q : Nat => sz ≤ q) sz) (va_Qi (S := Unit) (fun r _ => r = 1) (fun _ _ => True) (fun q : Nat => sz ≤ q)) (fun _ _ _ => False) 1 6 (fun q : Nat => sz ≤ q) := by
  refine vx_ofWH (cc := cL_dope) (maxL := 5) (ret := (some .int)) (by decide) rfl ?_
  intro p e s m args below meth c s₁ B hml hv
  have htb : c.exceptionTable.toList = tableOf [(0, 17, 20, 25)] := vx_table (x := yL_dope) B (atoms_spec (ws := zL_dope_ws) B.pre _ List.mem_cons_self)
  obtain ⟨rfl, hsz, hP, hK, hD0, hz⟩ := hv
  have hx := B.exec
  have hb := B.bytes
  have hr := B.returns
  have hts := atoms_spec (ws := zL_dope_ws) B.pre
  have hown : s.vm.findClass RL = some m.cls := findClass_of_methodNamed B.named
  have hlocks := B.notSynchronized
  subst hsz
  obtain ⟨A, hAe⟩ : ∃ A : Nat → Prop, A = (fun q : Nat => s.heap.size ≤ q) := ⟨_, rfl⟩
  rw [← hAe] at hz ⊢
  have hA : ∀ q : Nat, s.heap.size ≤ q → A q := fun q h => by rw [hAe]; exact h
  have hD := hD0
  have hS : va_S A s.heap s.heap [] := va_S.rf
  have hP : va_P D vwCl [(h0, .inr (17, zHS a)), ((a 0), .inr (6, [.ref a1, .ref a2, .int 0]))] s.heap := hP
  have hl := lv_entry ([.ref h0, .int x1, .int x2, .ref o]) (n := 5) (Nat.le_of_ble_eq_true rfl)
  rw [lg_entry_eq]
  generalize (lg_sl ([.ref h0, .int x1, .int x2, .ref o]) ++ List.replicate (5 - (lg_sl ([.ref h0, .int x1, .int x2, .ref o])).length) Slot.unset).toArray = ls at hl ⊢
  have hl : lv_has ls 5 [(0, .ref h0), (1, .int x1), (2, .int x2), (3, .ref o)] := hl
  refine lv_aload_n hx hb dL_dope_0 rfl (lv_at hl 3 rfl) ?_
  refine lv_iconst (v := 0) hx hb dL_dope_1 (by decide) ?_
  refine lv_aload_n hx hb dL_dope_2 rfl (lv_at hl 0 rfl) ?_
  refine lv_iload_n hx hb dL_dope_3 rfl (lv_at hl 1 rfl) ?_
  refine lv_iload_n hx hb dL_dope_4 rfl (lv_at hl 2 rfl) ?_
  have hPc := hP.sub (ws' := [(h0, .inr (17, zHS a)), ((a 0), .inr (6, [.ref a1, .ref a2, .int 0]))]) [0, 1] rfl
  have hDc := hD.sub (ws' := [(h0, .inr (17, zHS a)), ((a 0), .inr (6, [.ref a1, .ref a2, .int 0]))]) [0, 1] (by decide) rfl
  have hKc := hK.sub (tys' := []) [] rfl
  have hFc : ∀ q : Nat, s.heap.size ≤ q → A q := fun q h => hA q (Nat.le_trans hS.1 h)
  refine vx_calli (vx_runV (As := [.int x1, .int x2]) (rest := [.int 0, .ref o]) ⟨hx, hb, hml, hown, hts⟩ (c_dope l hst D s.heap.size h0 a a1 a2 x1 x2) (cwV 2 hts (goodIn_app (goodIn_of _ (by decide +kernel)) (goodIn_sub (fun _ h => List.mem_cons_of_mem _ (List.mem_append_right _ (List.mem_append_left _ h))) zX11_dope_ws_good)) rfl rfl rfl (by decide +kernel) ⟨Nat.le_of_ble_eq_true rfl, Nat.le_of_ble_eq_true rfl⟩) ⟨zPre.blind, va_recv hKc hPc (ci := 17) (q0 := 0) rfl rfl, zPre.mk hPc hKc hDc hz hS (fun q h => hFc q h)⟩ rfl rfl hl.1 rfl (lv_room (Nat.le_of_ble_eq_true rfl)) dL_dope_5 ⟨Nat.le_of_ble_eq_true rfl, Nat.le_of_ble_eq_true rfl⟩) hS (fun q _ h => hFc q h) (fun q h => hFc q h) (fun q _ h => hFc q h) (fun E9 ce q9 u t H1 locs ht9 hvm hpx hBX hz1 hk1 hS hcell hv9 hcl => ?_) (fun _ _ t H1 locs _ _ hw _ _ _ _ => hw.elim)
  · cases hBX
    refine vx_catch hown [] _ _ htb (fun z hz9 => nomatch hz9) (by decide) (by decide) (hts (.classLink RL 25 "java/lang/IndexOutOfBoundsException") (by decide +kernel)) (hz.w (.castable "java/lang/IndexOutOfBoundsException" "java/lang/IndexOutOfBoundsException") (by decide +kernel)) hcell hv9 hcl ?_
    refine W.eq (g2 := F0 m 20 ls [.ref q9]) rfl ?_
    refine lv_astore (lv' := [(4, .ref q9), (0, .ref h0), (1, .int x1), (2, .int x2), (3, .ref o)]) hx hb dL_dope_20 hl (by decide) rfl (fun ls hl => ?_)
    refine lv_iconst (v := 1) hx hb dL_dope_22 (by decide) ?_
    refine W.widen (k := 1) (n := 6) (by omega) (by omega) ?_
    refine vx_ret ?_
    exact W.iret (v := 1) hx hb hr (fun t ht9 hW => ⟨⟨1, (), rfl, rfl, trivial⟩, hS.F ht9⟩) hS.2.2 dL_dope_23

def zL_decide_ws : List Cond := .codeWith yL_decide cL_decide 5 (some .int) [(0, 9, 12, 25), (0, 9, 16, 15)] :: ([.methodLink RL 88 yX11_decide, .instanceMethod yX11_decide, .selects RX11 yX11_decide yX11_decide, .initialized RX11, .classLink RL 25 "java/lang/IndexOutOfBoundsException"] ++ (zX11_decide_ws ++ ([])))
theorem zL_decide_ws_good : zL_decide_ws.all goodWord = true := by decide +kernel
set_option maxHeartbeats 4000000 in
set_option maxRecDepth 100000 in
/-- the law's decide: 1 is thrown -/
theorem cl_decide (l : Launch) (hst : l.stackTraces = false) (D : va_G) (sz : Nat) (h0 : Nat) (a : Nat → Nat) (p1 p2 p3 : Nat) (x1 x2 : Int32) (o : Nat) : vx_Met l yL_decide zL_decide_ws (zR 4 1 6) (zPre [.ref h0, .int x1, .int x2, .ref o] D [(h0, .inr (17, zHS a)), ((a 2), .inr (11, [.ref p1, .ref p2, .ref p3, .int 0, .long 0]))] [] (fun q : Nat => sz ≤ q) sz) (va_Qi (S := Unit) (fun r _ => r = 1) (fun _ _ => True) (fun q : Nat => sz ≤ q)) (fun _ _ _ => False) 1 6 (fun q : Nat => sz ≤ q) := by
  refine vx_ofWH (cc := cL_decide) (maxL := 5) (ret := (some .int)) (by decide) rfl ?_
  intro p e s m args below meth c s₁ B hml hv
  have htb : c.exceptionTable.toList = tableOf [(0, 9, 12, 25), (0, 9, 16, 15)] := vx_table (x := yL_decide) B (atoms_spec (ws := zL_decide_ws) B.pre _ List.mem_cons_self)
  obtain ⟨rfl, hsz, hP, hK, hD0, hz⟩ := hv
  have hx := B.exec
  have hb := B.bytes
  have hr := B.returns
  have hts := atoms_spec (ws := zL_decide_ws) B.pre
  have hown : s.vm.findClass RL = some m.cls := findClass_of_methodNamed B.named
  have hlocks := B.notSynchronized
  subst hsz
  obtain ⟨A, hAe⟩ : ∃ A : Nat → Prop, A = (fun q : Nat => s.heap.size ≤ q) := ⟨_, rfl⟩
  rw [← hAe] at hz ⊢
  have hA : ∀ q : Nat, s.heap.size ≤ q → A q := fun q h => by rw [hAe]; exact h
  have hD := hD0
  have hS : va_S A s.heap s.heap [] := va_S.rf
  have hP : va_P D vwCl [(h0, .inr (17, zHS a)), ((a 2), .inr (11, [.ref p1, .ref p2, .ref p3, .int 0, .long 0]))] s.heap := hP
  have hl := lv_entry ([.ref h0, .int x1, .int x2, .ref o]) (n := 5) (Nat.le_of_ble_eq_true rfl)
  rw [lg_entry_eq]
  generalize (lg_sl ([.ref h0, .int x1, .int x2, .ref o]) ++ List.replicate (5 - (lg_sl ([.ref h0, .int x1, .int x2, .ref o])).length) Slot.unset).toArray = ls at hl ⊢
  have hl : lv_has ls 5 [(0, .ref h0), (1, .int x1), (2, .int x2), (3, .ref o)] := hl
  refine lv_aload_n hx hb dL_decide_0 rfl (lv_at hl 3 rfl) ?_
  refine lv_iconst (v := 0) hx hb dL_decide_1 (by decide) ?_
  refine lv_aload_n hx hb dL_decide_2 rfl (lv_at hl 0 rfl) ?_
  refine lv_iload_n hx hb dL_decide_3 rfl (lv_at hl 1 rfl) ?_
  refine lv_iload_n hx hb dL_decide_4 rfl (lv_at hl 2 rfl) ?_
  have hPc := hP.sub (ws' := [(h0, .inr (17, zHS a)), ((a 2), .inr (11, [.ref p1, .ref p2, .ref p3, .int 0, .long 0]))]) [0, 1] rfl
  have hDc := hD.sub (ws' := [(h0, .inr (17, zHS a)), ((a 2), .inr (11, [.ref p1, .ref p2, .ref p3, .int 0, .long 0]))]) [0, 1] (by decide) rfl
  have hKc := hK.sub (tys' := []) [] rfl
  have hFc : ∀ q : Nat, s.heap.size ≤ q → A q := fun q h => hA q (Nat.le_trans hS.1 h)
  refine vx_calll (vx_runV (As := [.int x1, .int x2]) (rest := [.int 0, .ref o]) ⟨hx, hb, hml, hown, hts⟩ (c_decide l hst D s.heap.size h0 a p1 p2 p3 x1 x2) (cwV 2 hts (goodIn_app (goodIn_of _ (by decide +kernel)) (goodIn_sub (fun _ h => List.mem_cons_of_mem _ (List.mem_append_right _ (List.mem_append_left _ h))) zX11_decide_ws_good)) rfl rfl rfl (by decide +kernel) ⟨Nat.le_of_ble_eq_true rfl, Nat.le_of_ble_eq_true rfl⟩) ⟨zPre.blind, va_recv hKc hPc (ci := 17) (q0 := 0) rfl rfl, zPre.mk hPc hKc hDc hz hS (fun q h => hFc q h)⟩ rfl rfl hl.1 rfl (lv_room (Nat.le_of_ble_eq_true rfl)) dL_decide_5 ⟨Nat.le_of_ble_eq_true rfl, Nat.le_of_ble_eq_true rfl⟩) hS (fun q _ h => hFc q h) (fun q h => hFc q h) (fun q _ h => hFc q h) (fun E9 ce q9 u t H1 locs ht9 hvm hpx hBX hz1 hk1 hS hcell hv9 hcl => ?_) (fun _ _ t H1 locs _ _ hw _ _ _ _ => hw.elim)
  · cases hBX
    refine vx_catch hown [] _ _ htb (fun z hz9 => nomatch hz9) (by decide) (by decide) (hts (.classLink RL 25 "java/lang/IndexOutOfBoundsException") (by decide +kernel)) (hz.w (.castable "java/lang/IndexOutOfBoundsException" "java/lang/IndexOutOfBoundsException") (by decide +kernel)) hcell hv9 hcl ?_
    refine W.eq (g2 := F0 m 12 ls [.ref q9]) rfl ?_
    refine lv_astore (lv' := [(4, .ref q9), (0, .ref h0), (1, .int x1), (2, .int x2), (3, .ref o)]) hx hb dL_decide_12 hl (by decide) rfl (fun ls hl => ?_)
    refine lv_iconst (v := 1) hx hb dL_decide_14 (by decide) ?_
    refine W.widen (k := 1) (n := 6) (by omega) (by omega) ?_
    refine vx_ret ?_
    exact W.iret (v := 1) hx hb hr (fun t ht9 hW => ⟨⟨1, (), rfl, rfl, trivial⟩, hS.F ht9⟩) hS.2.2 dL_decide_15
end
section
/-! printed rows that this part uses -/
theorem dX17_in_0 : decode cX17_in 0 = .ok (.iload_n 0, 1) := by decide +kernel
theorem dX17_in_1 : decode cX17_in 1 = .ok (.iload_n 1, 1) := by decide +kernel
theorem dX17_in_2 : decode cX17_in 2 = .ok (.if_icmp .lt 12, 3) := by decide +kernel
theorem dX17_in_5 : decode cX17_in 5 = .ok (.iload_n 0, 1) := by decide +kernel
theorem dX17_in_6 : decode cX17_in 6 = .ok (.iload_n 2, 1) := by decide +kernel
theorem dX17_in_7 : decode cX17_in 7 = .ok (.if_icmp .gt 7, 3) := by decide +kernel
theorem dX17_in_10 : decode cX17_in 10 = .ok (.iconst 1, 1) := by decide +kernel
theorem dX17_in_11 : decode cX17_in 11 = .ok (.goto 4, 3) := by decide +kernel
theorem dX17_in_14 : decode cX17_in 14 = .ok (.iconst 0, 1) := by decide +kernel
theorem dX17_in_15 : decode cX17_in 15 = .ok (.ireturn, 1) := by decide +kernel
theorem dX17_isEvent_0 : decode cX17_isEvent 0 = .ok (.iload_n 1, 1) := by decide +kernel
theorem dX17_isEvent_1 : decode cX17_isEvent 1 = .ok (.iconst 0, 1) := by decide +kernel
theorem dX17_isEvent_2 : decode cX17_isEvent 2 = .ok (.aload_n 0, 1) := by decide +kernel
theorem dX17_isEvent_3 : decode cX17_isEvent 3 = .ok (.getfield 19, 3) := by decide +kernel
theorem dX17_isEvent_6 : decode cX17_isEvent 6 = .ok (.invokevirtual 33, 3) := by decide +kernel
theorem dX17_isEvent_9 : decode cX17_isEvent 9 = .ok (.iconst 1, 1) := by decide +kernel
theorem dX17_isEvent_10 : decode cX17_isEvent 10 = .ok (.isub, 1) := by decide +kernel
theorem dX17_isEvent_11 : decode cX17_isEvent 11 = .ok (.invokestatic 29, 3) := by decide +kernel
theorem dX17_isEvent_14 : decode cX17_isEvent 14 = .ok (.ireturn, 1) := by decide +kernel
theorem dX17_isAthlete_0 : decode cX17_isAthlete 0 = .ok (.iload_n 1, 1) := by decide +kernel
theorem dX17_isAthlete_1 : decode cX17_isAthlete 1 = .ok (.iconst 0, 1) := by decide +kernel
theorem dX17_isAthlete_2 : decode cX17_isAthlete 2 = .ok (.aload_n 0, 1) := by decide +kernel
theorem dX17_isAthlete_3 : decode cX17_isAthlete 3 = .ok (.getfield 10, 3) := by decide +kernel
theorem dX17_isAthlete_6 : decode cX17_isAthlete 6 = .ok (.invokevirtual 33, 3) := by decide +kernel
theorem dX17_isAthlete_9 : decode cX17_isAthlete 9 = .ok (.iconst 1, 1) := by decide +kernel
theorem dX17_isAthlete_10 : decode cX17_isAthlete 10 = .ok (.isub, 1) := by decide +kernel
theorem dX17_isAthlete_11 : decode cX17_isAthlete 11 = .ok (.invokestatic 29, 3) := by decide +kernel
theorem dX17_isAthlete_14 : decode cX17_isAthlete 14 = .ok (.ireturn, 1) := by decide +kernel
theorem dX17_noEvent_0 : decode cX17_noEvent 0 = .ok (.aload_n 0, 1) := by decide +kernel
theorem dX17_noEvent_1 : decode cX17_noEvent 1 = .ok (.aload_n 0, 1) := by decide +kernel
theorem dX17_noEvent_2 : decode cX17_noEvent 2 = .ok (.iload_n 1, 1) := by decide +kernel
theorem dX17_noEvent_3 : decode cX17_noEvent 3 = .ok (.invokevirtual 66, 3) := by decide +kernel
theorem dX17_noEvent_6 : decode cX17_noEvent 6 = .ok (.ifCond .eq 7, 3) := by decide +kernel
theorem dX17_noEvent_13 : decode cX17_noEvent 13 = .ok (.iconst 1, 1) := by decide +kernel
theorem dX17_noEvent_14 : decode cX17_noEvent 14 = .ok (.putfield 25, 3) := by decide +kernel
theorem dX17_noEvent_17 : decode cX17_noEvent 17 = .ok (.aload_n 0, 1) := by decide +kernel
theorem dX17_noEvent_18 : decode cX17_noEvent 18 = .ok (.getfield 25, 3) := by decide +kernel
theorem dX17_noEvent_21 : decode cX17_noEvent 21 = .ok (.ifCond .le 7, 3) := by decide +kernel
theorem dX17_noEvent_24 : decode cX17_noEvent 24 = .ok (.iconst 1, 1) := by decide +kernel
theorem dX17_noEvent_25 : decode cX17_noEvent 25 = .ok (.goto 4, 3) := by decide +kernel
theorem dX17_noEvent_29 : decode cX17_noEvent 29 = .ok (.ireturn, 1) := by decide +kernel
theorem dX17_noPair_0 : decode cX17_noPair 0 = .ok (.aload_n 0, 1) := by decide +kernel
theorem dX17_noPair_1 : decode cX17_noPair 1 = .ok (.aload_n 0, 1) := by decide +kernel
theorem dX17_noPair_2 : decode cX17_noPair 2 = .ok (.iload_n 1, 1) := by decide +kernel
theorem dX17_noPair_3 : decode cX17_noPair 3 = .ok (.invokevirtual 66, 3) := by decide +kernel
theorem dX17_noPair_6 : decode cX17_noPair 6 = .ok (.ifCond .eq 15, 3) := by decide +kernel
theorem dX17_noPair_21 : decode cX17_noPair 21 = .ok (.iconst 1, 1) := by decide +kernel
theorem dX17_noPair_22 : decode cX17_noPair 22 = .ok (.putfield 25, 3) := by decide +kernel
theorem dX17_noPair_25 : decode cX17_noPair 25 = .ok (.aload_n 0, 1) := by decide +kernel
theorem dX17_noPair_26 : decode cX17_noPair 26 = .ok (.getfield 25, 3) := by decide +kernel
theorem dX17_noPair_29 : decode cX17_noPair 29 = .ok (.ifCond .le 7, 3) := by decide +kernel
theorem dX17_noPair_32 : decode cX17_noPair 32 = .ok (.iconst 1, 1) := by decide +kernel
theorem dX17_noPair_33 : decode cX17_noPair 33 = .ok (.goto 4, 3) := by decide +kernel
theorem dX17_noPair_37 : decode cX17_noPair 37 = .ok (.ireturn, 1) := by decide +kernel
theorem dX17_race_0 : decode cX17_race 0 = .ok (.aload_n 0, 1) := by decide +kernel
theorem dX17_race_1 : decode cX17_race 1 = .ok (.iload_n 1, 1) := by decide +kernel
theorem dX17_race_2 : decode cX17_race 2 = .ok (.iload_n 2, 1) := by decide +kernel
theorem dX17_race_3 : decode cX17_race 3 = .ok (.invokevirtual 95, 3) := by decide +kernel
theorem dX17_race_6 : decode cX17_race 6 = .ok (.ifCond .eq 5, 3) := by decide +kernel
theorem dX17_race_9 : decode cX17_race 9 = .ok (.aconst_null, 1) := by decide +kernel
theorem dX17_race_10 : decode cX17_race 10 = .ok (.areturn, 1) := by decide +kernel
theorem dJx4a65c_size_8abf5_0 : decode cJx4a65c_size_8abf5 0 = .ok (.aload_n 0, 1) := by decide +kernel
theorem dJx4a65c_size_8abf5_1 : decode cJx4a65c_size_8abf5 1 = .ok (.getfield 48, 3) := by decide +kernel
theorem dJx4a65c_size_8abf5_4 : decode cJx4a65c_size_8abf5 4 = .ok (.ireturn, 1) := by decide +kernel
def zJx4a65c_size_8abf5_ws : List Cond := .code yJx4a65c_size_8abf5 cJx4a65c_size_8abf5 1 (some .int) :: ([.fieldLink RJx4a65c 48 "java/util/ArrayList" "size" "I"] ++ (wsJx4a65c0 ++ ([])))
theorem zJx4a65c_size_8abf5_ws_good : zJx4a65c_size_8abf5_ws.all goodWord = true := by decide +kernel
set_option maxHeartbeats 4000000 in
set_option maxRecDepth 100000 in
/-- ArrayList.size() -/
theorem c_size (l : Launch) (hst : l.stackTraces = false) (D : va_G) (sz : Nat) (b dz : Nat) (md n : Int32) : Met l yJx4a65c_size_8abf5 zJx4a65c_size_8abf5_ws (zR 0 0 0) (zPre [.ref b] D [(b, .inr (5, [.int md, .ref dz, .int n]))] [] (fun q : Nat => sz ≤ q) sz) (va_Qi (S := Unit) (fun r _ => r = n) (fun _ _ => True) (fun q : Nat => sz ≤ q)) 0 0 (fun q : Nat => sz ≤ q) := by
  refine Met.ofW (cc := cJx4a65c_size_8abf5) (maxL := 1) (ret := (some .int)) (by decide) rfl ?_
  intro p e s m args below meth c s₁ B hml hv
  obtain ⟨rfl, hsz, hP, hK, hD0, hz⟩ := hv
  have hx := B.exec
  have hb := B.bytes
  have hr := B.returns
  have hts := atoms_spec (ws := zJx4a65c_size_8abf5_ws) B.pre
  have hown : s.vm.findClass RJx4a65c = some m.cls := findClass_of_methodNamed B.named
  have hlocks := B.notSynchronized
  subst hsz
  obtain ⟨A, hAe⟩ : ∃ A : Nat → Prop, A = (fun q : Nat => s.heap.size ≤ q) := ⟨_, rfl⟩
  rw [← hAe] at hz ⊢
  have hA : ∀ q : Nat, s.heap.size ≤ q → A q := fun q h => by rw [hAe]; exact h
  have hD := hD0
  have hS : va_S A s.heap s.heap [] := va_S.rf
  have hP : va_P D vwCl [(b, .inr (5, [.int md, .ref dz, .int n]))] s.heap := hP
  have hl := lv_entry ([.ref b]) (n := 1) (Nat.le_of_ble_eq_true rfl)
  rw [lg_entry_eq]
  generalize (lg_sl ([.ref b]) ++ List.replicate (1 - (lg_sl ([.ref b])).length) Slot.unset).toArray = ls at hl ⊢
  have hl : lv_has ls 1 [(0, .ref b)] := hl
  refine lv_aload_n hx hb dJx4a65c_size_8abf5_0 rfl (lv_at hl 0 rfl) ?_
  refine va_get (D := D) (ci := 5) (v := .int n) (C := RJx4a65c) (T := TJx4a65c) (N := 3) hx hb hts (by decide +kernel) hown hK hP 0 rfl rfl 2 (by decide) (hts (.fieldLink RJx4a65c 48 "java/util/ArrayList" "size" "I") (by decide +kernel)) (fun _ h9 => h9) rfl dJx4a65c_size_8abf5_1 ?_
  refine W.widen (k := 0) (n := 0) (by omega) (by omega) ?_
  exact W.iret (v := n) hx hb hr (fun t ht9 hW => ⟨⟨n, (), rfl, rfl, trivial⟩, hS.F ht9⟩) hS.2.2 dJx4a65c_size_8abf5_4

/-- 1 where low ≤ v ≤ high -/
def zin (v low high : Int32) : Int32 := if low ≤ v ∧ v ≤ high then 1 else 0
theorem zin_none (v : Int32) : zin v 0 (-1) = 0 := if_neg (fun h => absurd (Int32.le_trans h.1 h.2) (by decide))
def zX17_in_ws : List Cond := .code yX17_in cX17_in 3 (some .boolean) :: ([] ++ [])
theorem zX17_in_ws_good : zX17_in_ws.all goodWord = true := by decide +kernel
set_option maxHeartbeats 4000000 in
set_option maxRecDepth 100000 in
/-- in(v, low, high) -/
theorem c_in (l : Launch) (hst : l.stackTraces = false) (D : va_G) (sz : Nat) (x1 x2 x3 : Int32) : Met l yX17_in zX17_in_ws (zR 0 0 0) (zPre [.int x1, .int x2, .int x3] D [] [] (fun q : Nat => sz ≤ q) sz) (va_Qi (S := Unit) (fun r _ => r = zin x1 x2 x3) (fun _ _ => True) (fun q : Nat => sz ≤ q)) 0 0 (fun q : Nat => sz ≤ q) := by
  refine Met.ofW (cc := cX17_in) (maxL := 3) (ret := (some .boolean)) (by decide) rfl ?_
  intro p e s m args below meth c s₁ B hml hv
  obtain ⟨rfl, hsz, hP, hK, hD0, hz⟩ := hv
  have hx := B.exec
  have hb := B.bytes
  have hr := B.returns
  have hts := atoms_spec (ws := zX17_in_ws) B.pre
  have hown : s.vm.findClass RX17 = some m.cls := findClass_of_methodNamed B.named
  have hlocks := B.notSynchronized
  subst hsz
  obtain ⟨A, hAe⟩ : ∃ A : Nat → Prop, A = (fun q : Nat => s.heap.size ≤ q) := ⟨_, rfl⟩
  rw [← hAe] at hz ⊢
  have hA : ∀ q : Nat, s.heap.size ≤ q → A q := fun q h => by rw [hAe]; exact h
  have hD := hD0
  have hS : va_S A s.heap s.heap [] := va_S.rf
  have hP : va_P D vwCl [] s.heap := hP
  have hl := lv_entry ([.int x1, .int x2, .int x3]) (n := 3) (Nat.le_of_ble_eq_true rfl)
  rw [lg_entry_eq]
  generalize (lg_sl ([.int x1, .int x2, .int x3]) ++ List.replicate (3 - (lg_sl ([.int x1, .int x2, .int x3])).length) Slot.unset).toArray = ls at hl ⊢
  have hl : lv_has ls 3 [(0, .int x1), (1, .int x2), (2, .int x3)] := hl
  refine lv_iload_n hx hb dX17_in_0 rfl (lv_at hl 0 rfl) ?_
  refine lv_iload_n hx hb dX17_in_1 rfl (lv_at hl 1 rfl) ?_
  refine lv_icmp_lt (tgt := 14) hx hb dX17_in_2 (by decide) (fun c1 => ?_) (fun c1 => ?_)
  · refine lv_iconst (v := 0) hx hb dX17_in_14 (by decide) ?_
    refine W.widen (k := 0) (n := 0) (by omega) (by omega) ?_
    exact W.zret (v := 0) hx hb hr rfl (fun t ht9 hW => ⟨⟨0, (), rfl, (if_neg (fun h => absurd h.1 (Int32.not_le.mpr c1))).symm, trivial⟩, hS.F ht9⟩) hS.2.2 dX17_in_15
  · refine lv_iload_n hx hb dX17_in_5 rfl (lv_at hl 0 rfl) ?_
    refine lv_iload_n hx hb dX17_in_6 rfl (lv_at hl 2 rfl) ?_
    refine lv_icmp_gt (tgt := 14) hx hb dX17_in_7 (by decide) (fun c2 => ?_) (fun c2 => ?_)
    · refine lv_iconst (v := 0) hx hb dX17_in_14 (by decide) ?_
      refine W.widen (k := 0) (n := 0) (by omega) (by omega) ?_
      exact W.zret (v := 0) hx hb hr rfl (fun t ht9 hW => ⟨⟨0, (), rfl, (if_neg (fun h => absurd h.2 (Int32.not_le.mpr c2))).symm, trivial⟩, hS.F ht9⟩) hS.2.2 dX17_in_15
    · refine lv_iconst (v := 1) hx hb dX17_in_10 (by decide) ?_
      refine lv_goto (tgt := 15) hx hb dX17_in_11 (by decide) ?_
      refine W.widen (k := 0) (n := 0) (by omega) (by omega) ?_
      exact W.zret (v := 1) hx hb hr rfl (fun t ht9 hW => ⟨⟨1, (), rfl, (if_pos ⟨Int32.not_lt.mp c1, Int32.not_lt.mp c2⟩).symm, trivial⟩, hS.F ht9⟩) hS.2.2 dX17_in_15

def zX17_isEvent_ws : List Cond := .code yX17_isEvent cX17_isEvent 2 (some .boolean) :: ([.fieldLink RX17 19 "HeatStadiumModel" "events" "Ljava/util/ArrayList;", .methodLink RX17 33 yJx4a65c_size_8abf5, .instanceMethod yJx4a65c_size_8abf5, .selects RJx4a65c yJx4a65c_size_8abf5 yJx4a65c_size_8abf5, .initialized RJx4a65c, .methodLink RX17 29 yX17_in, .static yX17_in, .initialized RX17] ++ (wsX170 ++ (zJx4a65c_size_8abf5_ws ++ (zX17_in_ws ++ ([])))))
theorem zX17_isEvent_ws_good : zX17_isEvent_ws.all goodWord = true := by decide +kernel
set_option maxHeartbeats 4000000 in
set_option maxRecDepth 100000 in
/-- the reference without events and athletes: isEvent(x) is false -/
theorem cm_isEvent (l : Launch) (hst : l.stackTraces = false) (D : va_G) (sz : Nat) (mo b0 b1 b2 b3 dz : Nat) (th : Int32) (x1 : Int32) : Met l yX17_isEvent zX17_isEvent_ws (zR 1 0 0) (zPre [.ref mo, .int x1] D [(mo, .inr (23, [.int th, .ref b0, .ref b1, .ref b2, .ref b3, .int 0, .int 0, .long 0])), (b2, .inr (5, [.int 0, .ref dz, .int 0]))] [] (fun q : Nat => sz ≤ q) sz) (va_Qi (S := Unit) (fun r _ => r = 0) (fun _ _ => True) (fun q : Nat => sz ≤ q)) 0 0 (fun q : Nat => sz ≤ q) := by
  refine Met.ofW (cc := cX17_isEvent) (maxL := 2) (ret := (some .boolean)) (by decide) rfl ?_
  intro p e s m args below meth c s₁ B hml hv
  obtain ⟨rfl, hsz, hP, hK, hD0, hz⟩ := hv
  have hx := B.exec
  have hb := B.bytes
  have hr := B.returns
  have hts := atoms_spec (ws := zX17_isEvent_ws) B.pre
  have hown : s.vm.findClass RX17 = some m.cls := findClass_of_methodNamed B.named
  have hlocks := B.notSynchronized
  subst hsz
  obtain ⟨A, hAe⟩ : ∃ A : Nat → Prop, A = (fun q : Nat => s.heap.size ≤ q) := ⟨_, rfl⟩
  rw [← hAe] at hz ⊢
  have hA : ∀ q : Nat, s.heap.size ≤ q → A q := fun q h => by rw [hAe]; exact h
  have hD := hD0
  have hS : va_S A s.heap s.heap [] := va_S.rf
  have hP : va_P D vwCl [(mo, .inr (23, [.int th, .ref b0, .ref b1, .ref b2, .ref b3, .int 0, .int 0, .long 0])), (b2, .inr (5, [.int 0, .ref dz, .int 0]))] s.heap := hP
  have hl := lv_entry ([.ref mo, .int x1]) (n := 2) (Nat.le_of_ble_eq_true rfl)
  rw [lg_entry_eq]
  generalize (lg_sl ([.ref mo, .int x1]) ++ List.replicate (2 - (lg_sl ([.ref mo, .int x1])).length) Slot.unset).toArray = ls at hl ⊢
  have hl : lv_has ls 2 [(0, .ref mo), (1, .int x1)] := hl
  refine lv_iload_n hx hb dX17_isEvent_0 rfl (lv_at hl 1 rfl) ?_
  refine lv_iconst (v := 0) hx hb dX17_isEvent_1 (by decide) ?_
  refine lv_aload_n hx hb dX17_isEvent_2 rfl (lv_at hl 0 rfl) ?_
  refine va_get (D := D) (ci := 23) (v := .ref b2) (C := RX17) (T := TX17) (N := 8) hx hb hts (by decide +kernel) hown hK hP 0 rfl rfl 3 (by decide) (hts (.fieldLink RX17 19 "HeatStadiumModel" "events" "Ljava/util/ArrayList;") (by decide +kernel)) (fun _ h9 => h9) rfl dX17_isEvent_3 ?_
  have hPc := hP.sub (ws' := [(b2, .inr (5, [.int 0, .ref dz, .int 0]))]) [1] rfl
  have hDc := hD.sub (ws' := [(b2, .inr (5, [.int 0, .ref dz, .int 0]))]) [1] (by decide) rfl
  have hKc := hK.sub (tys' := []) [] rfl
  have hFc : ∀ q : Nat, s.heap.size ≤ q → A q := fun q h => hA q (Nat.le_trans hS.1 h)
  refine va_calli (va_runV (As := []) (rest := [.int 0, .int x1]) ⟨hx, hb, hml, hown, hts⟩ (c_size l hst D s.heap.size b2 dz 0 0) (cwV 0 hts (goodIn_app (goodIn_of _ (by decide +kernel)) (goodIn_sub (fun _ h => List.mem_cons_of_mem _ (List.mem_append_right _ (List.mem_append_right _ (List.mem_append_left _ h)))) zJx4a65c_size_8abf5_ws_good)) rfl rfl rfl (by decide +kernel) ⟨Nat.le_of_ble_eq_true rfl, Nat.le_of_ble_eq_true rfl⟩) ⟨zPre.blind, va_recv hKc hPc (ci := 5) (q0 := 0) rfl rfl, zPre.mk hPc hKc hDc hz hS (fun q h => hFc q h)⟩ rfl rfl hl.1 rfl (lv_room (Nat.le_of_ble_eq_true rfl)) dX17_isEvent_6 ⟨Nat.le_of_ble_eq_true rfl, Nat.le_of_ble_eq_true rfl⟩) hS (fun q _ h => hFc q h) (fun q h => hFc q h) (fun r9 u t H1 locs ht9 hvm hw hB hz1 hk1 hS => ?_)
  refine W.widen (k := 0) (n := 0) (by omega) (by omega) ?_
  have hP := zKeep hP hk1
  generalize H1 = H at hP hS ⊢
  have hP : va_P D vwCl [(mo, .inr (23, [.int th, .ref b0, .ref b1, .ref b2, .ref b3, .int 0, .int 0, .long 0])), (b2, .inr (5, [.int 0, .ref dz, .int 0]))] H := hP
  subst hw
  refine lv_iconst (v := 1) hx hb dX17_isEvent_9 (by decide) ?_
  refine lv_isub hx hb dX17_isEvent_10 ?_
  refine lv_topi (fun z1 ez1 => ?_)
  obtain rfl : z1 = (-1) := ez1.trans (by decide)
  have hPc := hP.sub (ws' := []) [] rfl
  have hDc := hD.sub (ws' := []) [] (by decide) rfl
  have hKc := hK.sub (tys' := []) [] rfl
  have hFc : ∀ q : Nat, H.size ≤ q → A q := fun q h => hA q (Nat.le_trans hS.1 h)
  refine va_calli (va_runS (As := [.int x1, .int 0, .int (-1)]) (rest := []) ⟨hx, hb, hml, hown, hts⟩ (c_in l hst D H.size x1 0 (-1)) (cwS 3 hts (goodIn_app (goodIn_of _ (by decide +kernel)) (goodIn_sub (fun _ h => List.mem_cons_of_mem _ (List.mem_append_right _ (List.mem_append_right _ (List.mem_append_right _ (List.mem_append_left _ h))))) zX17_in_ws_good)) rfl rfl rfl (by decide +kernel) ⟨Nat.le_of_ble_eq_true rfl, Nat.le_of_ble_eq_true rfl⟩) ⟨zPre.blind, zPre.mk hPc hKc hDc hz hS (fun q h => hFc q h)⟩ rfl rfl hl.1 rfl (lv_room (Nat.le_of_ble_eq_true rfl)) dX17_isEvent_11 ⟨Nat.le_of_ble_eq_true rfl, Nat.le_of_ble_eq_true rfl⟩) hS (fun q _ h => hFc q h) (fun q h => hFc q h) (fun r9 u t H1 locs ht9 hvm hw hB hz1 hk1 hS => ?_)
  refine W.widen (k := 0) (n := 0) (by omega) (by omega) ?_
  have hP := zKeep hP hk1
  generalize H1 = H at hP hS ⊢
  have hP : va_P D vwCl [(mo, .inr (23, [.int th, .ref b0, .ref b1, .ref b2, .ref b3, .int 0, .int 0, .long 0])), (b2, .inr (5, [.int 0, .ref dz, .int 0]))] H := hP
  obtain rfl : r9 = 0 := hw.trans (zin_none x1)
  refine W.widen (k := 0) (n := 0) (by omega) (by omega) ?_
  exact W.zret (v := 0) hx hb hr rfl (fun t ht9 hW => ⟨⟨0, (), rfl, rfl, trivial⟩, hS.F ht9⟩) hS.2.2 dX17_isEvent_14

def zX17_isAthlete_ws : List Cond := .code yX17_isAthlete cX17_isAthlete 2 (some .boolean) :: ([.fieldLink RX17 10 "HeatStadiumModel" "nations" "Ljava/util/ArrayList;", .methodLink RX17 33 yJx4a65c_size_8abf5, .instanceMethod yJx4a65c_size_8abf5, .selects RJx4a65c yJx4a65c_size_8abf5 yJx4a65c_size_8abf5, .initialized RJx4a65c, .methodLink RX17 29 yX17_in, .static yX17_in, .initialized RX17] ++ (wsX170 ++ (zJx4a65c_size_8abf5_ws ++ (zX17_in_ws ++ ([])))))
theorem zX17_isAthlete_ws_good : zX17_isAthlete_ws.all goodWord = true := by decide +kernel
set_option maxHeartbeats 4000000 in
set_option maxRecDepth 100000 in
/-- the reference without events and athletes: isAthlete(x) is false -/
theorem cm_isAthlete (l : Launch) (hst : l.stackTraces = false) (D : va_G) (sz : Nat) (mo b0 b1 b2 b3 dz : Nat) (th : Int32) (x1 : Int32) : Met l yX17_isAthlete zX17_isAthlete_ws (zR 1 0 0) (zPre [.ref mo, .int x1] D [(mo, .inr (23, [.int th, .ref b0, .ref b1, .ref b2, .ref b3, .int 0, .int 0, .long 0])), (b0, .inr (5, [.int 0, .ref dz, .int 0]))] [] (fun q : Nat => sz ≤ q) sz) (va_Qi (S := Unit) (fun r _ => r = 0) (fun _ _ => True) (fun q : Nat => sz ≤ q)) 0 0 (fun q : Nat => sz ≤ q) := by
  refine Met.ofW (cc := cX17_isAthlete) (maxL := 2) (ret := (some .boolean)) (by decide) rfl ?_
  intro p e s m args below meth c s₁ B hml hv
  obtain ⟨rfl, hsz, hP, hK, hD0, hz⟩ := hv
  have hx := B.exec
  have hb := B.bytes
  have hr := B.returns
  have hts := atoms_spec (ws := zX17_isAthlete_ws) B.pre
  have hown : s.vm.findClass RX17 = some m.cls := findClass_of_methodNamed B.named
  have hlocks := B.notSynchronized
  subst hsz
  obtain ⟨A, hAe⟩ : ∃ A : Nat → Prop, A = (fun q : Nat => s.heap.size ≤ q) := ⟨_, rfl⟩
  rw [← hAe] at hz ⊢
  have hA : ∀ q : Nat, s.heap.size ≤ q → A q := fun q h => by rw [hAe]; exact h
  have hD := hD0
  have hS : va_S A s.heap s.heap [] := va_S.rf
  have hP : va_P D vwCl [(mo, .inr (23, [.int th, .ref b0, .ref b1, .ref b2, .ref b3, .int 0, .int 0, .long 0])), (b0, .inr (5, [.int 0, .ref dz, .int 0]))] s.heap := hP
  have hl := lv_entry ([.ref mo, .int x1]) (n := 2) (Nat.le_of_ble_eq_true rfl)
  rw [lg_entry_eq]
  generalize (lg_sl ([.ref mo, .int x1]) ++ List.replicate (2 - (lg_sl ([.ref mo, .int x1])).length) Slot.unset).toArray = ls at hl ⊢
  have hl : lv_has ls 2 [(0, .ref mo), (1, .int x1)] := hl
  refine lv_iload_n hx hb dX17_isAthlete_0 rfl (lv_at hl 1 rfl) ?_
  refine lv_iconst (v := 0) hx hb dX17_isAthlete_1 (by decide) ?_
  refine lv_aload_n hx hb dX17_isAthlete_2 rfl (lv_at hl 0 rfl) ?_
  refine va_get (D := D) (ci := 23) (v := .ref b0) (C := RX17) (T := TX17) (N := 8) hx hb hts (by decide +kernel) hown hK hP 0 rfl rfl 1 (by decide) (hts (.fieldLink RX17 10 "HeatStadiumModel" "nations" "Ljava/util/ArrayList;") (by decide +kernel)) (fun _ h9 => h9) rfl dX17_isAthlete_3 ?_
  have hPc := hP.sub (ws' := [(b0, .inr (5, [.int 0, .ref dz, .int 0]))]) [1] rfl
  have hDc := hD.sub (ws' := [(b0, .inr (5, [.int 0, .ref dz, .int 0]))]) [1] (by decide) rfl
  have hKc := hK.sub (tys' := []) [] rfl
  have hFc : ∀ q : Nat, s.heap.size ≤ q → A q := fun q h => hA q (Nat.le_trans hS.1 h)
  refine va_calli (va_runV (As := []) (rest := [.int 0, .int x1]) ⟨hx, hb, hml, hown, hts⟩ (c_size l hst D s.heap.size b0 dz 0 0) (cwV 0 hts (goodIn_app (goodIn_of _ (by decide +kernel)) (goodIn_sub (fun _ h => List.mem_cons_of_mem _ (List.mem_append_right _ (List.mem_append_right _ (List.mem_append_left _ h)))) zJx4a65c_size_8abf5_ws_good)) rfl rfl rfl (by decide +kernel) ⟨Nat.le_of_ble_eq_true rfl, Nat.le_of_ble_eq_true rfl⟩) ⟨zPre.blind, va_recv hKc hPc (ci := 5) (q0 := 0) rfl rfl, zPre.mk hPc hKc hDc hz hS (fun q h => hFc q h)⟩ rfl rfl hl.1 rfl (lv_room (Nat.le_of_ble_eq_true rfl)) dX17_isAthlete_6 ⟨Nat.le_of_ble_eq_true rfl, Nat.le_of_ble_eq_true rfl⟩) hS (fun q _ h => hFc q h) (fun q h => hFc q h) (fun r9 u t H1 locs ht9 hvm hw hB hz1 hk1 hS => ?_)
  refine W.widen (k := 0) (n := 0) (by omega) (by omega) ?_
  have hP := zKeep hP hk1
  generalize H1 = H at hP hS ⊢
  have hP : va_P D vwCl [(mo, .inr (23, [.int th, .ref b0, .ref b1, .ref b2, .ref b3, .int 0, .int 0, .long 0])), (b0, .inr (5, [.int 0, .ref dz, .int 0]))] H := hP
  subst hw
  refine lv_iconst (v := 1) hx hb dX17_isAthlete_9 (by decide) ?_
  refine lv_isub hx hb dX17_isAthlete_10 ?_
  refine lv_topi (fun z1 ez1 => ?_)
  obtain rfl : z1 = (-1) := ez1.trans (by decide)
  have hPc := hP.sub (ws' := []) [] rfl
  have hDc := hD.sub (ws' := []) [] (by decide) rfl
  have hKc := hK.sub (tys' := []) [] rfl
  have hFc : ∀ q : Nat, H.size ≤ q → A q := fun q h => hA q (Nat.le_trans hS.1 h)
  refine va_calli (va_runS (As := [.int x1, .int 0, .int (-1)]) (rest := []) ⟨hx, hb, hml, hown, hts⟩ (c_in l hst D H.size x1 0 (-1)) (cwS 3 hts (goodIn_app (goodIn_of _ (by decide +kernel)) (goodIn_sub (fun _ h => List.mem_cons_of_mem _ (List.mem_append_right _ (List.mem_append_right _ (List.mem_append_right _ (List.mem_append_left _ h))))) zX17_in_ws_good)) rfl rfl rfl (by decide +kernel) ⟨Nat.le_of_ble_eq_true rfl, Nat.le_of_ble_eq_true rfl⟩) ⟨zPre.blind, zPre.mk hPc hKc hDc hz hS (fun q h => hFc q h)⟩ rfl rfl hl.1 rfl (lv_room (Nat.le_of_ble_eq_true rfl)) dX17_isAthlete_11 ⟨Nat.le_of_ble_eq_true rfl, Nat.le_of_ble_eq_true rfl⟩) hS (fun q _ h => hFc q h) (fun q h => hFc q h) (fun r9 u t H1 locs ht9 hvm hw hB hz1 hk1 hS => ?_)
  refine W.widen (k := 0) (n := 0) (by omega) (by omega) ?_
  have hP := zKeep hP hk1
  generalize H1 = H at hP hS ⊢
  have hP : va_P D vwCl [(mo, .inr (23, [.int th, .ref b0, .ref b1, .ref b2, .ref b3, .int 0, .int 0, .long 0])), (b0, .inr (5, [.int 0, .ref dz, .int 0]))] H := hP
  obtain rfl : r9 = 0 := hw.trans (zin_none x1)
  refine W.widen (k := 0) (n := 0) (by omega) (by omega) ?_
  exact W.zret (v := 0) hx hb hr rfl (fun t ht9 hW => ⟨⟨0, (), rfl, rfl, trivial⟩, hS.F ht9⟩) hS.2.2 dX17_isAthlete_14

def zX17_noEvent_ws : List Cond := .code yX17_noEvent cX17_noEvent 2 (some .boolean) :: ([.methodLink RX17 66 yX17_isEvent, .instanceMethod yX17_isEvent, .selects RX17 yX17_isEvent yX17_isEvent, .initialized RX17, .fieldLink RX17 25 "HeatStadiumModel" "thrown" "I"] ++ (zX17_isEvent_ws ++ (wsX170 ++ ([]))))
theorem zX17_noEvent_ws_good : zX17_noEvent_ws.all goodWord = true := by decide +kernel
set_option maxHeartbeats 4000000 in
set_option maxRecDepth 100000 in
/-- noEvent(x): true, 1 is kept as thrown -/
theorem cm_noEvent (l : Launch) (hst : l.stackTraces = false) (D : va_G) (sz : Nat) (mo b0 b1 b2 b3 dz : Nat) (th : Int32) (x1 : Int32) : Met l yX17_noEvent zX17_noEvent_ws (zR 2 0 0) (zPre [.ref mo, .int x1] D [(mo, .inr (23, [.int th, .ref b0, .ref b1, .ref b2, .ref b3, .int 0, .int 0, .long 0])), (b2, .inr (5, [.int 0, .ref dz, .int 0]))] [] (va_A [(mo, .inr (23, [.int th, .ref b0, .ref b1, .ref b2, .ref b3, .int 0, .int 0, .long 0])), (b2, .inr (5, [.int 0, .ref dz, .int 0]))] sz) sz) (va_Qi (S := Unit) (fun r _ => r = 1) (fun _ t => zAt D [(mo, .inr (23, [.int 1, .ref b0, .ref b1, .ref b2, .ref b3, .int 0, .int 0, .long 0])), (b2, .inr (5, [.int 0, .ref dz, .int 0]))] [] (va_A [(mo, .inr (23, [.int th, .ref b0, .ref b1, .ref b2, .ref b3, .int 0, .int 0, .long 0])), (b2, .inr (5, [.int 0, .ref dz, .int 0]))] sz) t) (va_A [(mo, .inr (23, [.int th, .ref b0, .ref b1, .ref b2, .ref b3, .int 0, .int 0, .long 0])), (b2, .inr (5, [.int 0, .ref dz, .int 0]))] sz)) 0 0 (va_A [(mo, .inr (23, [.int th, .ref b0, .ref b1, .ref b2, .ref b3, .int 0, .int 0, .long 0])), (b2, .inr (5, [.int 0, .ref dz, .int 0]))] sz) := by
  refine Met.ofW (cc := cX17_noEvent) (maxL := 2) (ret := (some .boolean)) (by decide) rfl ?_
  intro p e s m args below meth c s₁ B hml hv
  obtain ⟨rfl, hsz, hP, hK, hD0, hz⟩ := hv
  have hx := B.exec
  have hb := B.bytes
  have hr := B.returns
  have hts := atoms_spec (ws := zX17_noEvent_ws) B.pre
  have hown : s.vm.findClass RX17 = some m.cls := findClass_of_methodNamed B.named
  have hlocks := B.notSynchronized
  subst hsz
  have hD := hD0.self (sz := s.heap.size)
  generalize hAe : va_A [(mo, .inr (23, [.int th, .ref b0, .ref b1, .ref b2, .ref b3, .int 0, .int 0, .long 0])), (b2, .inr (5, [.int 0, .ref dz, .int 0]))] s.heap.size = A at hD hz ⊢
  have hA : ∀ q : Nat, s.heap.size ≤ q → A q := fun q h => by rw [← hAe]; exact Or.inr h
  have hS : va_S A s.heap s.heap [] := va_S.rf
  have hP : va_P D vwCl [(mo, .inr (23, [.int th, .ref b0, .ref b1, .ref b2, .ref b3, .int 0, .int 0, .long 0])), (b2, .inr (5, [.int 0, .ref dz, .int 0]))] s.heap := hP
  have hl := lv_entry ([.ref mo, .int x1]) (n := 2) (Nat.le_of_ble_eq_true rfl)
  rw [lg_entry_eq]
  generalize (lg_sl ([.ref mo, .int x1]) ++ List.replicate (2 - (lg_sl ([.ref mo, .int x1])).length) Slot.unset).toArray = ls at hl ⊢
  have hl : lv_has ls 2 [(0, .ref mo), (1, .int x1)] := hl
  refine lv_aload_n hx hb dX17_noEvent_0 rfl (lv_at hl 0 rfl) ?_
  refine lv_aload_n hx hb dX17_noEvent_1 rfl (lv_at hl 0 rfl) ?_
  refine lv_iload_n hx hb dX17_noEvent_2 rfl (lv_at hl 1 rfl) ?_
  have hPc := hP.sub (ws' := [(mo, .inr (23, [.int th, .ref b0, .ref b1, .ref b2, .ref b3, .int 0, .int 0, .long 0])), (b2, .inr (5, [.int 0, .ref dz, .int 0]))]) [0, 1] rfl
  have hDc := hD.sub (ws' := [(mo, .inr (23, [.int th, .ref b0, .ref b1, .ref b2, .ref b3, .int 0, .int 0, .long 0])), (b2, .inr (5, [.int 0, .ref dz, .int 0]))]) [0, 1] (by decide) rfl
  have hKc := hK.sub (tys' := []) [] rfl
  have hFc : ∀ q : Nat, s.heap.size ≤ q → A q := fun q h => hA q (Nat.le_trans hS.1 h)
  refine va_calli (va_runV (As := [.int x1]) (rest := [.ref mo]) ⟨hx, hb, hml, hown, hts⟩ (cm_isEvent l hst D s.heap.size mo b0 b1 b2 b3 dz th x1) (cwV 1 hts (goodIn_app (goodIn_of _ (by decide +kernel)) (goodIn_sub (fun _ h => List.mem_cons_of_mem _ (List.mem_append_right _ (List.mem_append_left _ h))) zX17_isEvent_ws_good)) rfl rfl rfl (by decide +kernel) ⟨Nat.le_of_ble_eq_true rfl, Nat.le_of_ble_eq_true rfl⟩) ⟨zPre.blind, va_recv hKc hPc (ci := 23) (q0 := 0) rfl rfl, zPre.mk hPc hKc hDc hz hS (fun q h => hFc q h)⟩ rfl rfl hl.1 rfl (lv_room (Nat.le_of_ble_eq_true rfl)) dX17_noEvent_3 ⟨Nat.le_of_ble_eq_true rfl, Nat.le_of_ble_eq_true rfl⟩) hS (fun q _ h => hFc q h) (fun q h => hFc q h) (fun r9 u t H1 locs ht9 hvm hw hB hz1 hk1 hS => ?_)
  refine W.widen (k := 0) (n := 0) (by omega) (by omega) ?_
  have hP := zKeep hP hk1
  generalize H1 = H at hP hS ⊢
  have hP : va_P D vwCl [(mo, .inr (23, [.int th, .ref b0, .ref b1, .ref b2, .ref b3, .int 0, .int 0, .long 0])), (b2, .inr (5, [.int 0, .ref dz, .int 0]))] H := hP
  subst hw
  refine lv_if_eq (tgt := 13) hx hb dX17_noEvent_6 (by decide) (fun _ => ?_) (fun c => absurd (by decide) c)
  refine lv_iconst (v := 1) hx hb dX17_noEvent_13 (by decide) ?_
  refine va_put (D := D) (ci := 23) (v := .int 1) (ty := .int) (C := RX17) (T := TX17) (N := 8) hx hb hts (by decide +kernel) tyX17 tyX17_ok nmX17 hown hK hP hD hS 0 rfl rfl 0 (by decide) (hts (.fieldLink RX17 25 "HeatStadiumModel" "thrown" "I") (by decide +kernel)) (fun _ h9 => h9) rfl (by decide +kernel) rfl rfl (Nat.le_of_ble_eq_true rfl) dX17_noEvent_14 (fun H locs hP hD hS => ?_)
  have hP : va_P D vwCl [(mo, .inr (23, [.int 1, .ref b0, .ref b1, .ref b2, .ref b3, .int 0, .int 0, .long 0])), (b2, .inr (5, [.int 0, .ref dz, .int 0]))] H := hP
  have hD : va_D A [(mo, .inr (23, [.int 1, .ref b0, .ref b1, .ref b2, .ref b3, .int 0, .int 0, .long 0])), (b2, .inr (5, [.int 0, .ref dz, .int 0]))] := hD
  refine lv_aload_n hx hb dX17_noEvent_17 rfl (lv_at hl 0 rfl) ?_
  refine va_get (D := D) (ci := 23) (v := .int 1) (C := RX17) (T := TX17) (N := 8) hx hb hts (by decide +kernel) hown hK hP 0 rfl rfl 0 (by decide) (hts (.fieldLink RX17 25 "HeatStadiumModel" "thrown" "I") (by decide +kernel)) (fun _ h9 => h9) rfl dX17_noEvent_18 ?_
  refine lv_if_le (tgt := 28) hx hb dX17_noEvent_21 (by decide) (fun c => absurd c (by decide)) (fun _ => ?_)
  refine lv_iconst (v := 1) hx hb dX17_noEvent_24 (by decide) ?_
  refine lv_goto (tgt := 29) hx hb dX17_noEvent_25 (by decide) ?_
  have hP9 := hP.sub (ws' := [(mo, .inr (23, [.int 1, .ref b0, .ref b1, .ref b2, .ref b3, .int 0, .int 0, .long 0])), (b2, .inr (5, [.int 0, .ref dz, .int 0]))]) [0, 1] rfl
  have hD9 := hD.sub (ws' := [(mo, .inr (23, [.int 1, .ref b0, .ref b1, .ref b2, .ref b3, .int 0, .int 0, .long 0])), (b2, .inr (5, [.int 0, .ref dz, .int 0]))]) [0, 1] (by decide) rfl
  have hK9 := hK.sub (tys' := []) [] rfl
  rw [← hAe] at hD9
  refine W.widen (k := 0) (n := 0) (by omega) (by omega) ?_
  subst hAe
  exact W.zret (v := 1) hx hb hr rfl (fun t ht9 hW => ⟨⟨1, (), rfl, rfl, ⟨by rw [ht9]; exact hP9, va_K.moved hW.alike hK9, hD9⟩⟩, hS.F ht9⟩) hS.2.2 dX17_noEvent_29

def zX17_noPair_ws : List Cond := .code yX17_noPair cX17_noPair 3 (some .boolean) :: ([.methodLink RX17 66 yX17_isEvent, .instanceMethod yX17_isEvent, .selects RX17 yX17_isEvent yX17_isEvent, .initialized RX17, .fieldLink RX17 25 "HeatStadiumModel" "thrown" "I"] ++ (zX17_isEvent_ws ++ (wsX170 ++ ([]))))
theorem zX17_noPair_ws_good : zX17_noPair_ws.all goodWord = true := by decide +kernel
set_option maxHeartbeats 4000000 in
set_option maxRecDepth 100000 in
/-- noPair(x, y): true, 1 is kept as thrown -/
theorem cm_noPair (l : Launch) (hst : l.stackTraces = false) (D : va_G) (sz : Nat) (mo b0 b1 b2 b3 dz : Nat) (th : Int32) (x1 x2 : Int32) : Met l yX17_noPair zX17_noPair_ws (zR 2 0 0) (zPre [.ref mo, .int x1, .int x2] D [(mo, .inr (23, [.int th, .ref b0, .ref b1, .ref b2, .ref b3, .int 0, .int 0, .long 0])), (b2, .inr (5, [.int 0, .ref dz, .int 0]))] [] (va_A [(mo, .inr (23, [.int th, .ref b0, .ref b1, .ref b2, .ref b3, .int 0, .int 0, .long 0])), (b2, .inr (5, [.int 0, .ref dz, .int 0]))] sz) sz) (va_Qi (S := Unit) (fun r _ => r = 1) (fun _ t => zAt D [(mo, .inr (23, [.int 1, .ref b0, .ref b1, .ref b2, .ref b3, .int 0, .int 0, .long 0])), (b2, .inr (5, [.int 0, .ref dz, .int 0]))] [] (va_A [(mo, .inr (23, [.int th, .ref b0, .ref b1, .ref b2, .ref b3, .int 0, .int 0, .long 0])), (b2, .inr (5, [.int 0, .ref dz, .int 0]))] sz) t) (va_A [(mo, .inr (23, [.int th, .ref b0, .ref b1, .ref b2, .ref b3, .int 0, .int 0, .long 0])), (b2, .inr (5, [.int 0, .ref dz, .int 0]))] sz)) 0 0 (va_A [(mo, .inr (23, [.int th, .ref b0, .ref b1, .ref b2, .ref b3, .int 0, .int 0, .long 0])), (b2, .inr (5, [.int 0, .ref dz, .int 0]))] sz) := by
  refine Met.ofW (cc := cX17_noPair) (maxL := 3) (ret := (some .boolean)) (by decide) rfl ?_
  intro p e s m args below meth c s₁ B hml hv
  obtain ⟨rfl, hsz, hP, hK, hD0, hz⟩ := hv
  have hx := B.exec
  have hb := B.bytes
  have hr := B.returns
  have hts := atoms_spec (ws := zX17_noPair_ws) B.pre
  have hown : s.vm.findClass RX17 = some m.cls := findClass_of_methodNamed B.named
  have hlocks := B.notSynchronized
  subst hsz
  have hD := hD0.self (sz := s.heap.size)
  generalize hAe : va_A [(mo, .inr (23, [.int th, .ref b0, .ref b1, .ref b2, .ref b3, .int 0, .int 0, .long 0])), (b2, .inr (5, [.int 0, .ref dz, .int 0]))] s.heap.size = A at hD hz ⊢
  have hA : ∀ q : Nat, s.heap.size ≤ q → A q := fun q h => by rw [← hAe]; exact Or.inr h
  have hS : va_S A s.heap s.heap [] := va_S.rf
  have hP : va_P D vwCl [(mo, .inr (23, [.int th, .ref b0, .ref b1, .ref b2, .ref b3, .int 0, .int 0, .long 0])), (b2, .inr (5, [.int 0, .ref dz, .int 0]))] s.heap := hP
  have hl := lv_entry ([.ref mo, .int x1, .int x2]) (n := 3) (Nat.le_of_ble_eq_true rfl)
  rw [lg_entry_eq]
  generalize (lg_sl ([.ref mo, .int x1, .int x2]) ++ List.replicate (3 - (lg_sl ([.ref mo, .int x1, .int x2])).length) Slot.unset).toArray = ls at hl ⊢
  have hl : lv_has ls 3 [(0, .ref mo), (1, .int x1), (2, .int x2)] := hl
  refine lv_aload_n hx hb dX17_noPair_0 rfl (lv_at hl 0 rfl) ?_
  refine lv_aload_n hx hb dX17_noPair_1 rfl (lv_at hl 0 rfl) ?_
  refine lv_iload_n hx hb dX17_noPair_2 rfl (lv_at hl 1 rfl) ?_
  have hPc := hP.sub (ws' := [(mo, .inr (23, [.int th, .ref b0, .ref b1, .ref b2, .ref b3, .int 0, .int 0, .long 0])), (b2, .inr (5, [.int 0, .ref dz, .int 0]))]) [0, 1] rfl
  have hDc := hD.sub (ws' := [(mo, .inr (23, [.int th, .ref b0, .ref b1, .ref b2, .ref b3, .int 0, .int 0, .long 0])), (b2, .inr (5, [.int 0, .ref dz, .int 0]))]) [0, 1] (by decide) rfl
  have hKc := hK.sub (tys' := []) [] rfl
  have hFc : ∀ q : Nat, s.heap.size ≤ q → A q := fun q h => hA q (Nat.le_trans hS.1 h)
  refine va_calli (va_runV (As := [.int x1]) (rest := [.ref mo]) ⟨hx, hb, hml, hown, hts⟩ (cm_isEvent l hst D s.heap.size mo b0 b1 b2 b3 dz th x1) (cwV 1 hts (goodIn_app (goodIn_of _ (by decide +kernel)) (goodIn_sub (fun _ h => List.mem_cons_of_mem _ (List.mem_append_right _ (List.mem_append_left _ h))) zX17_isEvent_ws_good)) rfl rfl rfl (by decide +kernel) ⟨Nat.le_of_ble_eq_true rfl, Nat.le_of_ble_eq_true rfl⟩) ⟨zPre.blind, va_recv hKc hPc (ci := 23) (q0 := 0) rfl rfl, zPre.mk hPc hKc hDc hz hS (fun q h => hFc q h)⟩ rfl rfl hl.1 rfl (lv_room (Nat.le_of_ble_eq_true rfl)) dX17_noPair_3 ⟨Nat.le_of_ble_eq_true rfl, Nat.le_of_ble_eq_true rfl⟩) hS (fun q _ h => hFc q h) (fun q h => hFc q h) (fun r9 u t H1 locs ht9 hvm hw hB hz1 hk1 hS => ?_)
  refine W.widen (k := 0) (n := 0) (by omega) (by omega) ?_
  have hP := zKeep hP hk1
  generalize H1 = H at hP hS ⊢
  have hP : va_P D vwCl [(mo, .inr (23, [.int th, .ref b0, .ref b1, .ref b2, .ref b3, .int 0, .int 0, .long 0])), (b2, .inr (5, [.int 0, .ref dz, .int 0]))] H := hP
  subst hw
  refine lv_if_eq (tgt := 21) hx hb dX17_noPair_6 (by decide) (fun _ => ?_) (fun c => absurd (by decide) c)
  refine lv_iconst (v := 1) hx hb dX17_noPair_21 (by decide) ?_
  refine va_put (D := D) (ci := 23) (v := .int 1) (ty := .int) (C := RX17) (T := TX17) (N := 8) hx hb hts (by decide +kernel) tyX17 tyX17_ok nmX17 hown hK hP hD hS 0 rfl rfl 0 (by decide) (hts (.fieldLink RX17 25 "HeatStadiumModel" "thrown" "I") (by decide +kernel)) (fun _ h9 => h9) rfl (by decide +kernel) rfl rfl (Nat.le_of_ble_eq_true rfl) dX17_noPair_22 (fun H locs hP hD hS => ?_)
  have hP : va_P D vwCl [(mo, .inr (23, [.int 1, .ref b0, .ref b1, .ref b2, .ref b3, .int 0, .int 0, .long 0])), (b2, .inr (5, [.int 0, .ref dz, .int 0]))] H := hP
  have hD : va_D A [(mo, .inr (23, [.int 1, .ref b0, .ref b1, .ref b2, .ref b3, .int 0, .int 0, .long 0])), (b2, .inr (5, [.int 0, .ref dz, .int 0]))] := hD
  refine lv_aload_n hx hb dX17_noPair_25 rfl (lv_at hl 0 rfl) ?_
  refine va_get (D := D) (ci := 23) (v := .int 1) (C := RX17) (T := TX17) (N := 8) hx hb hts (by decide +kernel) hown hK hP 0 rfl rfl 0 (by decide) (hts (.fieldLink RX17 25 "HeatStadiumModel" "thrown" "I") (by decide +kernel)) (fun _ h9 => h9) rfl dX17_noPair_26 ?_
  refine lv_if_le (tgt := 36) hx hb dX17_noPair_29 (by decide) (fun c => absurd c (by decide)) (fun _ => ?_)
  refine lv_iconst (v := 1) hx hb dX17_noPair_32 (by decide) ?_
  refine lv_goto (tgt := 37) hx hb dX17_noPair_33 (by decide) ?_
  have hP9 := hP.sub (ws' := [(mo, .inr (23, [.int 1, .ref b0, .ref b1, .ref b2, .ref b3, .int 0, .int 0, .long 0])), (b2, .inr (5, [.int 0, .ref dz, .int 0]))]) [0, 1] rfl
  have hD9 := hD.sub (ws' := [(mo, .inr (23, [.int 1, .ref b0, .ref b1, .ref b2, .ref b3, .int 0, .int 0, .long 0])), (b2, .inr (5, [.int 0, .ref dz, .int 0]))]) [0, 1] (by decide) rfl
  have hK9 := hK.sub (tys' := []) [] rfl
  rw [← hAe] at hD9
  refine W.widen (k := 0) (n := 0) (by omega) (by omega) ?_
  subst hAe
  exact W.zret (v := 1) hx hb hr rfl (fun t ht9 hW => ⟨⟨1, (), rfl, rfl, ⟨by rw [ht9]; exact hP9, va_K.moved hW.alike hK9, hD9⟩⟩, hS.F ht9⟩) hS.2.2 dX17_noPair_37

def zX17_race_ws : List Cond := .code yX17_race cX17_race 4 (some (.object "HeatStadiumModel$Event")) :: ([.methodLink RX17 95 yX17_noPair, .instanceMethod yX17_noPair, .selects RX17 yX17_noPair yX17_noPair, .initialized RX17] ++ (zX17_noPair_ws ++ ([])))
theorem zX17_race_ws_good : zX17_race_ws.all goodWord = true := by decide +kernel
set_option maxHeartbeats 4000000 in
set_option maxRecDepth 100000 in
/-- race(x, y, z): null, 1 is kept as thrown -/
theorem cm_race (l : Launch) (hst : l.stackTraces = false) (D : va_G) (sz : Nat) (mo b0 b1 b2 b3 dz : Nat) (th : Int32) (x1 x2 x3 : Int32) : Met l yX17_race zX17_race_ws (zR 3 0 0) (zPre [.ref mo, .int x1, .int x2, .int x3] D [(mo, .inr (23, [.int th, .ref b0, .ref b1, .ref b2, .ref b3, .int 0, .int 0, .long 0])), (b2, .inr (5, [.int 0, .ref dz, .int 0]))] [] (va_A [(mo, .inr (23, [.int th, .ref b0, .ref b1, .ref b2, .ref b3, .int 0, .int 0, .long 0])), (b2, .inr (5, [.int 0, .ref dz, .int 0]))] sz) sz) (va_Qq (S := Unit) (fun r _ => r = none) (fun _ t => zAt D [(mo, .inr (23, [.int 1, .ref b0, .ref b1, .ref b2, .ref b3, .int 0, .int 0, .long 0])), (b2, .inr (5, [.int 0, .ref dz, .int 0]))] [] (va_A [(mo, .inr (23, [.int th, .ref b0, .ref b1, .ref b2, .ref b3, .int 0, .int 0, .long 0])), (b2, .inr (5, [.int 0, .ref dz, .int 0]))] sz) t) (va_A [(mo, .inr (23, [.int th, .ref b0, .ref b1, .ref b2, .ref b3, .int 0, .int 0, .long 0])), (b2, .inr (5, [.int 0, .ref dz, .int 0]))] sz)) 0 0 (va_A [(mo, .inr (23, [.int th, .ref b0, .ref b1, .ref b2, .ref b3, .int 0, .int 0, .long 0])), (b2, .inr (5, [.int 0, .ref dz, .int 0]))] sz) := by
  refine Met.ofW (cc := cX17_race) (maxL := 4) (ret := (some (.object "HeatStadiumModel$Event"))) (by decide) rfl ?_
  intro p e s m args below meth c s₁ B hml hv
  obtain ⟨rfl, hsz, hP, hK, hD0, hz⟩ := hv
  have hx := B.exec
  have hb := B.bytes
  have hr := B.returns
  have hts := atoms_spec (ws := zX17_race_ws) B.pre
  have hown : s.vm.findClass RX17 = some m.cls := findClass_of_methodNamed B.named
  have hlocks := B.notSynchronized
  subst hsz
  have hD := hD0.self (sz := s.heap.size)
  generalize hAe : va_A [(mo, .inr (23, [.int th, .ref b0, .ref b1, .ref b2, .ref b3, .int 0, .int 0, .long 0])), (b2, .inr (5, [.int 0, .ref dz, .int 0]))] s.heap.size = A at hD hz ⊢
  have hA : ∀ q : Nat, s.heap.size ≤ q → A q := fun q h => by rw [← hAe]; exact Or.inr h
  have hS : va_S A s.heap s.heap [] := va_S.rf
  have hP : va_P D vwCl [(mo, .inr (23, [.int th, .ref b0, .ref b1, .ref b2, .ref b3, .int 0, .int 0, .long 0])), (b2, .inr (5, [.int 0, .ref dz, .int 0]))] s.heap := hP
  have hl := lv_entry ([.ref mo, .int x1, .int x2, .int x3]) (n := 4) (Nat.le_of_ble_eq_true rfl)
  rw [lg_entry_eq]
  generalize (lg_sl ([.ref mo, .int x1, .int x2, .int x3]) ++ List.replicate (4 - (lg_sl ([.ref mo, .int x1, .int x2, .int x3])).length) Slot.unset).toArray = ls at hl ⊢
  have hl : lv_has ls 4 [(0, .ref mo), (1, .int x1), (2, .int x2), (3, .int x3)] := hl
  refine lv_aload_n hx hb dX17_race_0 rfl (lv_at hl 0 rfl) ?_
  refine lv_iload_n hx hb dX17_race_1 rfl (lv_at hl 1 rfl) ?_
  refine lv_iload_n hx hb dX17_race_2 rfl (lv_at hl 2 rfl) ?_
  have hPc := hP.sub (ws' := [(mo, .inr (23, [.int th, .ref b0, .ref b1, .ref b2, .ref b3, .int 0, .int 0, .long 0])), (b2, .inr (5, [.int 0, .ref dz, .int 0]))]) [0, 1] rfl
  have hDc := hD.sub (ws' := [(mo, .inr (23, [.int th, .ref b0, .ref b1, .ref b2, .ref b3, .int 0, .int 0, .long 0])), (b2, .inr (5, [.int 0, .ref dz, .int 0]))]) [0, 1] (by decide) rfl
  have hKc := hK.sub (tys' := []) [] rfl
  have hFc := va_free (wc := [(mo, .inr (23, [.int th, .ref b0, .ref b1, .ref b2, .ref b3, .int 0, .int 0, .long 0])), (b2, .inr (5, [.int 0, .ref dz, .int 0]))]) hD hS hA [0, 1] rfl
  refine va_calli (va_runV (As := [.int x1, .int x2]) (rest := []) ⟨hx, hb, hml, hown, hts⟩ (cm_noPair l hst D s.heap.size mo b0 b1 b2 b3 dz th x1 x2) (cwV 2 hts (goodIn_app (goodIn_of _ (by decide +kernel)) (goodIn_sub (fun _ h => List.mem_cons_of_mem _ (List.mem_append_right _ (List.mem_append_left _ h))) zX17_noPair_ws_good)) rfl rfl rfl (by decide +kernel) ⟨Nat.le_of_ble_eq_true rfl, Nat.le_of_ble_eq_true rfl⟩) ⟨zPre.blind, va_recv hKc hPc (ci := 23) (q0 := 0) rfl rfl, zPre.mk hPc hKc hDc hz hS (fun q h => hFc q h)⟩ rfl rfl hl.1 rfl (lv_room (Nat.le_of_ble_eq_true rfl)) dX17_race_3 ⟨Nat.le_of_ble_eq_true rfl, Nat.le_of_ble_eq_true rfl⟩) hS (fun q _ h => hFc q h) (fun q h => hFc q h) (fun r9 u t H1 locs ht9 hvm hw hB hz1 hk1 hS => ?_)
  refine W.widen (k := 0) (n := 0) (by omega) (by omega) ?_
  obtain ⟨hP1, hK1, hD1⟩ := hB
  rw [ht9] at hP1
  have hK1 := va_K.moved hvm.symm hK1
  obtain ⟨hP, hD⟩ := va_join (wr := []) (w1 := [(mo, .inr (23, [.int 1, .ref b0, .ref b1, .ref b2, .ref b3, .int 0, .int 0, .long 0])), (b2, .inr (5, [.int 0, .ref dz, .int 0]))]) hP hD [0, 1] [] rfl rfl (by decide) (by decide) hk1 hFc hP1 hD1
  have hK := (hK.sub (tys' := []) [] rfl).app hK1
  generalize H1 = H at hP hS ⊢
  have hP : va_P D vwCl [(mo, .inr (23, [.int 1, .ref b0, .ref b1, .ref b2, .ref b3, .int 0, .int 0, .long 0])), (b2, .inr (5, [.int 0, .ref dz, .int 0]))] H := hP
  have hD : va_D A [(mo, .inr (23, [.int 1, .ref b0, .ref b1, .ref b2, .ref b3, .int 0, .int 0, .long 0])), (b2, .inr (5, [.int 0, .ref dz, .int 0]))] := hD
  have hK : va_K D vwCl [] s := hK
  subst hw
  refine lv_if_eq (tgt := 11) hx hb dX17_race_6 (by decide) (fun c => absurd c (by decide)) (fun _ => ?_)
  refine lv_null hx hb dX17_race_9 ?_
  have hP9 := hP.sub (ws' := [(mo, .inr (23, [.int 1, .ref b0, .ref b1, .ref b2, .ref b3, .int 0, .int 0, .long 0])), (b2, .inr (5, [.int 0, .ref dz, .int 0]))]) [0, 1] rfl
  have hD9 := hD.sub (ws' := [(mo, .inr (23, [.int 1, .ref b0, .ref b1, .ref b2, .ref b3, .int 0, .int 0, .long 0])), (b2, .inr (5, [.int 0, .ref dz, .int 0]))]) [0, 1] (by decide) rfl
  have hK9 := hK.sub (tys' := []) [] rfl
  rw [← hAe] at hD9
  refine W.widen (k := 0) (n := 0) (by omega) (by omega) ?_
  subst hAe
  exact W.aret (v := .null) hx hb hr (Or.inl ⟨_, rfl⟩) (Or.inl rfl) (fun t ht9 hW => ⟨⟨none, (), rfl, rfl, ⟨by rw [ht9]; exact hP9, va_K.moved hW.alike hK9, hD9⟩⟩, hS.F ht9⟩) hS.2.2 dX17_race_10
end
section
/-! printed rows that this part uses -/
theorem dX17_thrown_0 : decode cX17_thrown 0 = .ok (.aload_n 0, 1) := by decide +kernel
theorem dX17_thrown_1 : decode cX17_thrown 1 = .ok (.getfield 25, 3) := by decide +kernel
theorem dX17_thrown_4 : decode cX17_thrown 4 = .ok (.ireturn, 1) := by decide +kernel
theorem dX17_enter_0 : decode cX17_enter 0 = .ok (.aload_n 0, 1) := by decide +kernel
theorem dX17_enter_1 : decode cX17_enter 1 = .ok (.iload_n 1, 1) := by decide +kernel
theorem dX17_enter_2 : decode cX17_enter 2 = .ok (.iload_n 2, 1) := by decide +kernel
theorem dX17_enter_3 : decode cX17_enter 3 = .ok (.invokevirtual 95, 3) := by decide +kernel
theorem dX17_enter_6 : decode cX17_enter 6 = .ok (.ifCond .eq 5, 3) := by decide +kernel
theorem dX17_enter_9 : decode cX17_enter 9 = .ok (.iconst 0, 1) := by decide +kernel
theorem dX17_enter_10 : decode cX17_enter 10 = .ok (.ireturn, 1) := by decide +kernel
theorem dX17_withdraw_0 : decode cX17_withdraw 0 = .ok (.aload_n 0, 1) := by decide +kernel
theorem dX17_withdraw_1 : decode cX17_withdraw 1 = .ok (.iload_n 1, 1) := by decide +kernel
theorem dX17_withdraw_2 : decode cX17_withdraw 2 = .ok (.iload_n 2, 1) := by decide +kernel
theorem dX17_withdraw_3 : decode cX17_withdraw 3 = .ok (.invokevirtual 95, 3) := by decide +kernel
theorem dX17_withdraw_6 : decode cX17_withdraw 6 = .ok (.ifCond .eq 5, 3) := by decide +kernel
theorem dX17_withdraw_9 : decode cX17_withdraw 9 = .ok (.iconst 0, 1) := by decide +kernel
theorem dX17_withdraw_10 : decode cX17_withdraw 10 = .ok (.ireturn, 1) := by decide +kernel
theorem dX17_field_0 : decode cX17_field 0 = .ok (.aload_n 0, 1) := by decide +kernel
theorem dX17_field_1 : decode cX17_field 1 = .ok (.iload_n 1, 1) := by decide +kernel
theorem dX17_field_2 : decode cX17_field 2 = .ok (.invokevirtual 146, 3) := by decide +kernel
theorem dX17_field_5 : decode cX17_field 5 = .ok (.ifCond .eq 7, 3) := by decide +kernel
theorem dX17_field_8 : decode cX17_field 8 = .ok (.iconst 0, 1) := by decide +kernel
theorem dX17_field_9 : decode cX17_field 9 = .ok (.goto 21, 3) := by decide +kernel
theorem dX17_field_30 : decode cX17_field 30 = .ok (.ireturn, 1) := by decide +kernel
theorem dX17_inField_0 : decode cX17_inField 0 = .ok (.aload_n 0, 1) := by decide +kernel
theorem dX17_inField_1 : decode cX17_inField 1 = .ok (.iload_n 1, 1) := by decide +kernel
theorem dX17_inField_2 : decode cX17_inField 2 = .ok (.invokevirtual 146, 3) := by decide +kernel
theorem dX17_inField_5 : decode cX17_inField 5 = .ok (.ifCond .eq 5, 3) := by decide +kernel
theorem dX17_inField_8 : decode cX17_inField 8 = .ok (.iconst 0, 1) := by decide +kernel
theorem dX17_inField_9 : decode cX17_inField 9 = .ok (.ireturn, 1) := by decide +kernel
theorem dX17_heatOf_0 : decode cX17_heatOf 0 = .ok (.aload_n 0, 1) := by decide +kernel
theorem dX17_heatOf_1 : decode cX17_heatOf 1 = .ok (.iload_n 1, 1) := by decide +kernel
theorem dX17_heatOf_2 : decode cX17_heatOf 2 = .ok (.iload_n 2, 1) := by decide +kernel
theorem dX17_heatOf_3 : decode cX17_heatOf 3 = .ok (.invokevirtual 95, 3) := by decide +kernel
theorem dX17_heatOf_6 : decode cX17_heatOf 6 = .ok (.ifCond .eq 5, 3) := by decide +kernel
theorem dX17_heatOf_9 : decode cX17_heatOf 9 = .ok (.iconst 0, 1) := by decide +kernel
theorem dX17_heatOf_10 : decode cX17_heatOf 10 = .ok (.ireturn, 1) := by decide +kernel
theorem dX17_laneOf_0 : decode cX17_laneOf 0 = .ok (.aload_n 0, 1) := by decide +kernel
theorem dX17_laneOf_1 : decode cX17_laneOf 1 = .ok (.iload_n 1, 1) := by decide +kernel
theorem dX17_laneOf_2 : decode cX17_laneOf 2 = .ok (.iload_n 3, 1) := by decide +kernel
theorem dX17_laneOf_3 : decode cX17_laneOf 3 = .ok (.iload_n 2, 1) := by decide +kernel
theorem dX17_laneOf_4 : decode cX17_laneOf 4 = .ok (.invokevirtual 210, 3) := by decide +kernel
theorem dX17_laneOf_7 : decode cX17_laneOf 7 = .ok (.astore 4, 2) := by decide +kernel
theorem dX17_laneOf_9 : decode cX17_laneOf 9 = .ok (.aload 4, 2) := by decide +kernel
theorem dX17_laneOf_11 : decode cX17_laneOf 11 = .ok (.ifnonnull 5, 3) := by decide +kernel
theorem dX17_laneOf_14 : decode cX17_laneOf 14 = .ok (.iconst 0, 1) := by decide +kernel
theorem dX17_laneOf_15 : decode cX17_laneOf 15 = .ok (.ireturn, 1) := by decide +kernel
theorem dX17_time_0 : decode cX17_time 0 = .ok (.aload_n 0, 1) := by decide +kernel
theorem dX17_time_1 : decode cX17_time 1 = .ok (.iload_n 1, 1) := by decide +kernel
theorem dX17_time_2 : decode cX17_time 2 = .ok (.iload_n 3, 1) := by decide +kernel
theorem dX17_time_3 : decode cX17_time 3 = .ok (.invokevirtual 95, 3) := by decide +kernel
theorem dX17_time_6 : decode cX17_time 6 = .ok (.ifCond .eq 5, 3) := by decide +kernel
theorem dX17_time_9 : decode cX17_time 9 = .ok (.iconst 0, 1) := by decide +kernel
theorem dX17_time_10 : decode cX17_time 10 = .ok (.ireturn, 1) := by decide +kernel
theorem dX17_react_0 : decode cX17_react 0 = .ok (.aload_n 0, 1) := by decide +kernel
theorem dX17_react_1 : decode cX17_react 1 = .ok (.iload_n 1, 1) := by decide +kernel
theorem dX17_react_2 : decode cX17_react 2 = .ok (.iload_n 3, 1) := by decide +kernel
theorem dX17_react_3 : decode cX17_react 3 = .ok (.invokevirtual 95, 3) := by decide +kernel
theorem dX17_react_6 : decode cX17_react 6 = .ok (.ifCond .eq 5, 3) := by decide +kernel
theorem dX17_react_9 : decode cX17_react 9 = .ok (.iconst 0, 1) := by decide +kernel
theorem dX17_react_10 : decode cX17_react 10 = .ok (.ireturn, 1) := by decide +kernel
theorem dX17_putOut_0 : decode cX17_putOut 0 = .ok (.aload_n 0, 1) := by decide +kernel
theorem dX17_putOut_1 : decode cX17_putOut 1 = .ok (.iload_n 1, 1) := by decide +kernel
theorem dX17_putOut_2 : decode cX17_putOut 2 = .ok (.iload_n 3, 1) := by decide +kernel
theorem dX17_putOut_3 : decode cX17_putOut 3 = .ok (.iload_n 2, 1) := by decide +kernel
theorem dX17_putOut_4 : decode cX17_putOut 4 = .ok (.invokevirtual 210, 3) := by decide +kernel
theorem dX17_putOut_7 : decode cX17_putOut 7 = .ok (.astore 4, 2) := by decide +kernel
theorem dX17_putOut_9 : decode cX17_putOut 9 = .ok (.aload 4, 2) := by decide +kernel
theorem dX17_putOut_11 : decode cX17_putOut 11 = .ok (.ifnonnull 5, 3) := by decide +kernel
theorem dX17_putOut_14 : decode cX17_putOut 14 = .ok (.iconst 0, 1) := by decide +kernel
theorem dX17_putOut_15 : decode cX17_putOut 15 = .ok (.ireturn, 1) := by decide +kernel
theorem dX17_isOut_0 : decode cX17_isOut 0 = .ok (.aload_n 0, 1) := by decide +kernel
theorem dX17_isOut_1 : decode cX17_isOut 1 = .ok (.iload_n 1, 1) := by decide +kernel
theorem dX17_isOut_2 : decode cX17_isOut 2 = .ok (.iload_n 3, 1) := by decide +kernel
theorem dX17_isOut_3 : decode cX17_isOut 3 = .ok (.iload_n 2, 1) := by decide +kernel
theorem dX17_isOut_4 : decode cX17_isOut 4 = .ok (.invokevirtual 210, 3) := by decide +kernel
theorem dX17_isOut_7 : decode cX17_isOut 7 = .ok (.astore 4, 2) := by decide +kernel
theorem dX17_isOut_9 : decode cX17_isOut 9 = .ok (.aload 4, 2) := by decide +kernel
theorem dX17_isOut_11 : decode cX17_isOut 11 = .ok (.ifnull 21, 3) := by decide +kernel
theorem dX17_isOut_32 : decode cX17_isOut 32 = .ok (.iconst 0, 1) := by decide +kernel
theorem dX17_isOut_33 : decode cX17_isOut 33 = .ok (.ireturn, 1) := by decide +kernel
theorem dX17_inFinal_0 : decode cX17_inFinal 0 = .ok (.aload_n 0, 1) := by decide +kernel
theorem dX17_inFinal_1 : decode cX17_inFinal 1 = .ok (.iload_n 1, 1) := by decide +kernel
theorem dX17_inFinal_2 : decode cX17_inFinal 2 = .ok (.invokevirtual 146, 3) := by decide +kernel
theorem dX17_inFinal_5 : decode cX17_inFinal 5 = .ok (.ifCond .eq 5, 3) := by decide +kernel
theorem dX17_inFinal_8 : decode cX17_inFinal 8 = .ok (.iconst 0, 1) := by decide +kernel
theorem dX17_inFinal_9 : decode cX17_inFinal 9 = .ok (.ireturn, 1) := by decide +kernel
theorem dX17_bar_0 : decode cX17_bar 0 = .ok (.aload_n 0, 1) := by decide +kernel
theorem dX17_bar_1 : decode cX17_bar 1 = .ok (.iload_n 1, 1) := by decide +kernel
theorem dX17_bar_2 : decode cX17_bar 2 = .ok (.invokevirtual 146, 3) := by decide +kernel
theorem dX17_bar_5 : decode cX17_bar 5 = .ok (.ifCond .eq 5, 3) := by decide +kernel
theorem dX17_bar_8 : decode cX17_bar 8 = .ok (.iconst 0, 1) := by decide +kernel
theorem dX17_bar_9 : decode cX17_bar 9 = .ok (.ireturn, 1) := by decide +kernel
theorem dX17_jump_0 : decode cX17_jump 0 = .ok (.aload_n 0, 1) := by decide +kernel
theorem dX17_jump_1 : decode cX17_jump 1 = .ok (.iload_n 1, 1) := by decide +kernel
theorem dX17_jump_2 : decode cX17_jump 2 = .ok (.iload_n 2, 1) := by decide +kernel
theorem dX17_jump_3 : decode cX17_jump 3 = .ok (.invokevirtual 95, 3) := by decide +kernel
theorem dX17_jump_6 : decode cX17_jump 6 = .ok (.ifCond .eq 5, 3) := by decide +kernel
theorem dX17_jump_9 : decode cX17_jump 9 = .ok (.iconst 0, 1) := by decide +kernel
theorem dX17_jump_10 : decode cX17_jump 10 = .ok (.ireturn, 1) := by decide +kernel
theorem dX17_put_0 : decode cX17_put 0 = .ok (.aload_n 0, 1) := by decide +kernel
theorem dX17_put_1 : decode cX17_put 1 = .ok (.iload_n 1, 1) := by decide +kernel
theorem dX17_put_2 : decode cX17_put 2 = .ok (.iload_n 2, 1) := by decide +kernel
theorem dX17_put_3 : decode cX17_put 3 = .ok (.invokevirtual 95, 3) := by decide +kernel
theorem dX17_put_6 : decode cX17_put 6 = .ok (.ifCond .eq 5, 3) := by decide +kernel
theorem dX17_put_9 : decode cX17_put 9 = .ok (.iconst 0, 1) := by decide +kernel
theorem dX17_put_10 : decode cX17_put 10 = .ok (.ireturn, 1) := by decide +kernel
theorem dX17_rankOf_0 : decode cX17_rankOf 0 = .ok (.aload_n 0, 1) := by decide +kernel
theorem dX17_rankOf_1 : decode cX17_rankOf 1 = .ok (.iload_n 1, 1) := by decide +kernel
theorem dX17_rankOf_2 : decode cX17_rankOf 2 = .ok (.iload_n 2, 1) := by decide +kernel
theorem dX17_rankOf_3 : decode cX17_rankOf 3 = .ok (.invokevirtual 95, 3) := by decide +kernel
theorem dX17_rankOf_6 : decode cX17_rankOf 6 = .ok (.ifCond .eq 5, 3) := by decide +kernel
theorem dX17_rankOf_9 : decode cX17_rankOf 9 = .ok (.iconst 0, 1) := by decide +kernel
theorem dX17_rankOf_10 : decode cX17_rankOf 10 = .ok (.ireturn, 1) := by decide +kernel
theorem dX17_resultOf_0 : decode cX17_resultOf 0 = .ok (.aload_n 0, 1) := by decide +kernel
theorem dX17_resultOf_1 : decode cX17_resultOf 1 = .ok (.iload_n 1, 1) := by decide +kernel
theorem dX17_resultOf_2 : decode cX17_resultOf 2 = .ok (.iload_n 2, 1) := by decide +kernel
theorem dX17_resultOf_3 : decode cX17_resultOf 3 = .ok (.invokevirtual 95, 3) := by decide +kernel
theorem dX17_resultOf_6 : decode cX17_resultOf 6 = .ok (.ifCond .eq 5, 3) := by decide +kernel
theorem dX17_resultOf_9 : decode cX17_resultOf 9 = .ok (.iconst 0, 1) := by decide +kernel
theorem dX17_resultOf_10 : decode cX17_resultOf 10 = .ok (.ireturn, 1) := by decide +kernel
theorem dX17_protest_0 : decode cX17_protest 0 = .ok (.aload_n 0, 1) := by decide +kernel
theorem dX17_protest_1 : decode cX17_protest 1 = .ok (.iload_n 1, 1) := by decide +kernel
theorem dX17_protest_2 : decode cX17_protest 2 = .ok (.iload_n 3, 1) := by decide +kernel
theorem dX17_protest_3 : decode cX17_protest 3 = .ok (.iload_n 2, 1) := by decide +kernel
theorem dX17_protest_4 : decode cX17_protest 4 = .ok (.invokevirtual 210, 3) := by decide +kernel
theorem dX17_protest_7 : decode cX17_protest 7 = .ok (.astore 4, 2) := by decide +kernel
theorem dX17_protest_9 : decode cX17_protest 9 = .ok (.aload 4, 2) := by decide +kernel
theorem dX17_protest_11 : decode cX17_protest 11 = .ok (.ifnonnull 5, 3) := by decide +kernel
theorem dX17_protest_14 : decode cX17_protest 14 = .ok (.iconst 0, 1) := by decide +kernel
theorem dX17_protest_15 : decode cX17_protest 15 = .ok (.ireturn, 1) := by decide +kernel
theorem dX17_decide_0 : decode cX17_decide 0 = .ok (.aload_n 0, 1) := by decide +kernel
theorem dX17_decide_1 : decode cX17_decide 1 = .ok (.iload_n 1, 1) := by decide +kernel
theorem dX17_decide_2 : decode cX17_decide 2 = .ok (.iconst 0, 1) := by decide +kernel
theorem dX17_decide_3 : decode cX17_decide 3 = .ok (.aload_n 0, 1) := by decide +kernel
theorem dX17_decide_4 : decode cX17_decide 4 = .ok (.getfield 22, 3) := by decide +kernel
theorem dX17_decide_7 : decode cX17_decide 7 = .ok (.invokevirtual 33, 3) := by decide +kernel
theorem dX17_decide_10 : decode cX17_decide 10 = .ok (.iconst 1, 1) := by decide +kernel
theorem dX17_decide_11 : decode cX17_decide 11 = .ok (.isub, 1) := by decide +kernel
theorem dX17_decide_12 : decode cX17_decide 12 = .ok (.invokestatic 29, 3) := by decide +kernel
theorem dX17_decide_15 : decode cX17_decide 15 = .ok (.ifCond .ne 7, 3) := by decide +kernel
theorem dX17_decide_18 : decode cX17_decide 18 = .ok (.iconst 1, 1) := by decide +kernel
theorem dX17_decide_19 : decode cX17_decide 19 = .ok (.goto 25, 3) := by decide +kernel
theorem dX17_decide_44 : decode cX17_decide 44 = .ok (.putfield 25, 3) := by decide +kernel
theorem dX17_decide_47 : decode cX17_decide 47 = .ok (.aload_n 0, 1) := by decide +kernel
theorem dX17_decide_48 : decode cX17_decide 48 = .ok (.getfield 25, 3) := by decide +kernel
theorem dX17_decide_51 : decode cX17_decide 51 = .ok (.ifCond .le 5, 3) := by decide +kernel
theorem dX17_decide_54 : decode cX17_decide 54 = .ok (.lconst 0, 1) := by decide +kernel
theorem dX17_decide_55 : decode cX17_decide 55 = .ok (.lreturn, 1) := by decide +kernel
theorem dX17_dope_0 : decode cX17_dope 0 = .ok (.aload_n 0, 1) := by decide +kernel
theorem dX17_dope_1 : decode cX17_dope 1 = .ok (.aload_n 0, 1) := by decide +kernel
theorem dX17_dope_2 : decode cX17_dope 2 = .ok (.iload_n 1, 1) := by decide +kernel
theorem dX17_dope_3 : decode cX17_dope 3 = .ok (.invokevirtual 70, 3) := by decide +kernel
theorem dX17_dope_6 : decode cX17_dope 6 = .ok (.ifCond .eq 7, 3) := by decide +kernel
theorem dX17_dope_13 : decode cX17_dope 13 = .ok (.iconst 1, 1) := by decide +kernel
theorem dX17_dope_14 : decode cX17_dope 14 = .ok (.putfield 25, 3) := by decide +kernel
theorem dX17_dope_17 : decode cX17_dope 17 = .ok (.aload_n 0, 1) := by decide +kernel
theorem dX17_dope_18 : decode cX17_dope 18 = .ok (.getfield 25, 3) := by decide +kernel
theorem dX17_dope_21 : decode cX17_dope 21 = .ok (.ifCond .ne 28, 3) := by decide +kernel
theorem dX17_dope_49 : decode cX17_dope 49 = .ok (.iconst 0, 1) := by decide +kernel
theorem dX17_dope_50 : decode cX17_dope 50 = .ok (.ireturn, 1) := by decide +kernel
theorem dX17_close_0 : decode cX17_close 0 = .ok (.aload_n 0, 1) := by decide +kernel
theorem dX17_close_1 : decode cX17_close 1 = .ok (.iload_n 1, 1) := by decide +kernel
theorem dX17_close_2 : decode cX17_close 2 = .ok (.invokevirtual 146, 3) := by decide +kernel
theorem dX17_close_5 : decode cX17_close 5 = .ok (.ifCond .eq 5, 3) := by decide +kernel
theorem dX17_close_8 : decode cX17_close 8 = .ok (.iconst 0, 1) := by decide +kernel
theorem dX17_close_9 : decode cX17_close 9 = .ok (.ireturn, 1) := by decide +kernel
theorem dX17_record_0 : decode cX17_record 0 = .ok (.aload_n 0, 1) := by decide +kernel
theorem dX17_record_1 : decode cX17_record 1 = .ok (.iload_n 1, 1) := by decide +kernel
theorem dX17_record_2 : decode cX17_record 2 = .ok (.invokevirtual 146, 3) := by decide +kernel
theorem dX17_record_5 : decode cX17_record 5 = .ok (.ifCond .eq 5, 3) := by decide +kernel
theorem dX17_record_8 : decode cX17_record 8 = .ok (.iconst 0, 1) := by decide +kernel
theorem dX17_record_9 : decode cX17_record 9 = .ok (.ireturn, 1) := by decide +kernel
theorem dX17_holder_0 : decode cX17_holder 0 = .ok (.aload_n 0, 1) := by decide +kernel
theorem dX17_holder_1 : decode cX17_holder 1 = .ok (.iload_n 1, 1) := by decide +kernel
theorem dX17_holder_2 : decode cX17_holder 2 = .ok (.invokevirtual 146, 3) := by decide +kernel
theorem dX17_holder_5 : decode cX17_holder 5 = .ok (.ifCond .eq 5, 3) := by decide +kernel
theorem dX17_holder_8 : decode cX17_holder 8 = .ok (.iconst 0, 1) := by decide +kernel
theorem dX17_holder_9 : decode cX17_holder 9 = .ok (.ireturn, 1) := by decide +kernel
theorem dX17_sharers_0 : decode cX17_sharers 0 = .ok (.aload_n 0, 1) := by decide +kernel
theorem dX17_sharers_1 : decode cX17_sharers 1 = .ok (.iload_n 1, 1) := by decide +kernel
theorem dX17_sharers_2 : decode cX17_sharers 2 = .ok (.invokevirtual 146, 3) := by decide +kernel
theorem dX17_sharers_5 : decode cX17_sharers 5 = .ok (.ifCond .eq 5, 3) := by decide +kernel
theorem dX17_sharers_8 : decode cX17_sharers 8 = .ok (.iconst 0, 1) := by decide +kernel
theorem dX17_sharers_9 : decode cX17_sharers 9 = .ok (.ireturn, 1) := by decide +kernel
def zX17_thrown_ws : List Cond := .code yX17_thrown cX17_thrown 1 (some .int) :: ([.fieldLink RX17 25 "HeatStadiumModel" "thrown" "I"] ++ (wsX170 ++ ([])))
theorem zX17_thrown_ws_good : zX17_thrown_ws.all goodWord = true := by decide +kernel
set_option maxHeartbeats 4000000 in
set_option maxRecDepth 100000 in
/-- thrown() -/
theorem cm_thrown (l : Launch) (hst : l.stackTraces = false) (D : va_G) (sz : Nat) (mo b0 b1 b2 b3 dz : Nat) (th : Int32) : Met l yX17_thrown zX17_thrown_ws (zR 0 0 0) (zPre [.ref mo] D [(mo, .inr (23, [.int th, .ref b0, .ref b1, .ref b2, .ref b3, .int 0, .int 0, .long 0]))] [] (fun q : Nat => sz ≤ q) sz) (va_Qi (S := Unit) (fun r _ => r = th) (fun _ _ => True) (fun q : Nat => sz ≤ q)) 0 0 (fun q : Nat => sz ≤ q) := by
  refine Met.ofW (cc := cX17_thrown) (maxL := 1) (ret := (some .int)) (by decide) rfl ?_
  intro p e s m args below meth c s₁ B hml hv
  obtain ⟨rfl, hsz, hP, hK, hD0, hz⟩ := hv
  have hx := B.exec
  have hb := B.bytes
  have hr := B.returns
  have hts := atoms_spec (ws := zX17_thrown_ws) B.pre
  have hown : s.vm.findClass RX17 = some m.cls := findClass_of_methodNamed B.named
  have hlocks := B.notSynchronized
  subst hsz
  obtain ⟨A, hAe⟩ : ∃ A : Nat → Prop, A = (fun q : Nat => s.heap.size ≤ q) := ⟨_, rfl⟩
  rw [← hAe] at hz ⊢
  have hA : ∀ q : Nat, s.heap.size ≤ q → A q := fun q h => by rw [hAe]; exact h
  have hD := hD0
  have hS : va_S A s.heap s.heap [] := va_S.rf
  have hP : va_P D vwCl [(mo, .inr (23, [.int th, .ref b0, .ref b1, .ref b2, .ref b3, .int 0, .int 0, .long 0]))] s.heap := hP
  have hl := lv_entry ([.ref mo]) (n := 1) (Nat.le_of_ble_eq_true rfl)
  rw [lg_entry_eq]
  generalize (lg_sl ([.ref mo]) ++ List.replicate (1 - (lg_sl ([.ref mo])).length) Slot.unset).toArray = ls at hl ⊢
  have hl : lv_has ls 1 [(0, .ref mo)] := hl
  refine lv_aload_n hx hb dX17_thrown_0 rfl (lv_at hl 0 rfl) ?_
  refine va_get (D := D) (ci := 23) (v := .int th) (C := RX17) (T := TX17) (N := 8) hx hb hts (by decide +kernel) hown hK hP 0 rfl rfl 0 (by decide) (hts (.fieldLink RX17 25 "HeatStadiumModel" "thrown" "I") (by decide +kernel)) (fun _ h9 => h9) rfl dX17_thrown_1 ?_
  refine W.widen (k := 0) (n := 0) (by omega) (by omega) ?_
  exact W.iret (v := th) hx hb hr (fun t ht9 hW => ⟨⟨th, (), rfl, rfl, trivial⟩, hS.F ht9⟩) hS.2.2 dX17_thrown_4

def zX17_enter_ws : List Cond := .code yX17_enter cX17_enter 5 (some .int) :: ([.methodLink RX17 95 yX17_noPair, .instanceMethod yX17_noPair, .selects RX17 yX17_noPair yX17_noPair, .initialized RX17] ++ (zX17_noPair_ws ++ ([])))
theorem zX17_enter_ws_good : zX17_enter_ws.all goodWord = true := by decide +kernel
set_option maxHeartbeats 4000000 in
set_option maxRecDepth 100000 in
/-- the reference refuses enter -/
theorem cm_enter (l : Launch) (hst : l.stackTraces = false) (D : va_G) (sz : Nat) (mo b0 b1 b2 b3 dz : Nat) (th : Int32) (x1 x2 x3 : Int32) : Met l yX17_enter zX17_enter_ws (zR 4 0 0) (zPre [.ref mo, .int x1, .int x2, .int x3] D [(mo, .inr (23, [.int th, .ref b0, .ref b1, .ref b2, .ref b3, .int 0, .int 0, .long 0])), (b2, .inr (5, [.int 0, .ref dz, .int 0]))] [] (va_A [(mo, .inr (23, [.int th, .ref b0, .ref b1, .ref b2, .ref b3, .int 0, .int 0, .long 0])), (b2, .inr (5, [.int 0, .ref dz, .int 0]))] sz) sz) (va_Qi (S := Unit) (fun r _ => r = 0) (fun _ t => zAt D [(mo, .inr (23, [.int 1, .ref b0, .ref b1, .ref b2, .ref b3, .int 0, .int 0, .long 0])), (b2, .inr (5, [.int 0, .ref dz, .int 0]))] [] (va_A [(mo, .inr (23, [.int th, .ref b0, .ref b1, .ref b2, .ref b3, .int 0, .int 0, .long 0])), (b2, .inr (5, [.int 0, .ref dz, .int 0]))] sz) t) (va_A [(mo, .inr (23, [.int th, .ref b0, .ref b1, .ref b2, .ref b3, .int 0, .int 0, .long 0])), (b2, .inr (5, [.int 0, .ref dz, .int 0]))] sz)) 0 0 (va_A [(mo, .inr (23, [.int th, .ref b0, .ref b1, .ref b2, .ref b3, .int 0, .int 0, .long 0])), (b2, .inr (5, [.int 0, .ref dz, .int 0]))] sz) := by
  refine Met.ofW (cc := cX17_enter) (maxL := 5) (ret := (some .int)) (by decide) rfl ?_
  intro p e s m args below meth c s₁ B hml hv
  obtain ⟨rfl, hsz, hP, hK, hD0, hz⟩ := hv
  have hx := B.exec
  have hb := B.bytes
  have hr := B.returns
  have hts := atoms_spec (ws := zX17_enter_ws) B.pre
  have hown : s.vm.findClass RX17 = some m.cls := findClass_of_methodNamed B.named
  have hlocks := B.notSynchronized
  subst hsz
  have hD := hD0.self (sz := s.heap.size)
  generalize hAe : va_A [(mo, .inr (23, [.int th, .ref b0, .ref b1, .ref b2, .ref b3, .int 0, .int 0, .long 0])), (b2, .inr (5, [.int 0, .ref dz, .int 0]))] s.heap.size = A at hD hz ⊢
  have hA : ∀ q : Nat, s.heap.size ≤ q → A q := fun q h => by rw [← hAe]; exact Or.inr h
  have hS : va_S A s.heap s.heap [] := va_S.rf
  have hP : va_P D vwCl [(mo, .inr (23, [.int th, .ref b0, .ref b1, .ref b2, .ref b3, .int 0, .int 0, .long 0])), (b2, .inr (5, [.int 0, .ref dz, .int 0]))] s.heap := hP
  have hl := lv_entry ([.ref mo, .int x1, .int x2, .int x3]) (n := 5) (Nat.le_of_ble_eq_true rfl)
  rw [lg_entry_eq]
  generalize (lg_sl ([.ref mo, .int x1, .int x2, .int x3]) ++ List.replicate (5 - (lg_sl ([.ref mo, .int x1, .int x2, .int x3])).length) Slot.unset).toArray = ls at hl ⊢
  have hl : lv_has ls 5 [(0, .ref mo), (1, .int x1), (2, .int x2), (3, .int x3)] := hl
  refine lv_aload_n hx hb dX17_enter_0 rfl (lv_at hl 0 rfl) ?_
  refine lv_iload_n hx hb dX17_enter_1 rfl (lv_at hl 1 rfl) ?_
  refine lv_iload_n hx hb dX17_enter_2 rfl (lv_at hl 2 rfl) ?_
  have hPc := hP.sub (ws' := [(mo, .inr (23, [.int th, .ref b0, .ref b1, .ref b2, .ref b3, .int 0, .int 0, .long 0])), (b2, .inr (5, [.int 0, .ref dz, .int 0]))]) [0, 1] rfl
  have hDc := hD.sub (ws' := [(mo, .inr (23, [.int th, .ref b0, .ref b1, .ref b2, .ref b3, .int 0, .int 0, .long 0])), (b2, .inr (5, [.int 0, .ref dz, .int 0]))]) [0, 1] (by decide) rfl
  have hKc := hK.sub (tys' := []) [] rfl
  have hFc := va_free (wc := [(mo, .inr (23, [.int th, .ref b0, .ref b1, .ref b2, .ref b3, .int 0, .int 0, .long 0])), (b2, .inr (5, [.int 0, .ref dz, .int 0]))]) hD hS hA [0, 1] rfl
  refine va_calli (va_runV (As := [.int x1, .int x2]) (rest := []) ⟨hx, hb, hml, hown, hts⟩ (cm_noPair l hst D s.heap.size mo b0 b1 b2 b3 dz th x1 x2) (cwV 2 hts (goodIn_app (goodIn_of _ (by decide +kernel)) (goodIn_sub (fun _ h => List.mem_cons_of_mem _ (List.mem_append_right _ (List.mem_append_left _ h))) zX17_noPair_ws_good)) rfl rfl rfl (by decide +kernel) ⟨Nat.le_of_ble_eq_true rfl, Nat.le_of_ble_eq_true rfl⟩) ⟨zPre.blind, va_recv hKc hPc (ci := 23) (q0 := 0) rfl rfl, zPre.mk hPc hKc hDc hz hS (fun q h => hFc q h)⟩ rfl rfl hl.1 rfl (lv_room (Nat.le_of_ble_eq_true rfl)) dX17_enter_3 ⟨Nat.le_of_ble_eq_true rfl, Nat.le_of_ble_eq_true rfl⟩) hS (fun q _ h => hFc q h) (fun q h => hFc q h) (fun r9 u t H1 locs ht9 hvm hw hB hz1 hk1 hS => ?_)
  refine W.widen (k := 0) (n := 0) (by omega) (by omega) ?_
  obtain ⟨hP1, hK1, hD1⟩ := hB
  rw [ht9] at hP1
  have hK1 := va_K.moved hvm.symm hK1
  obtain ⟨hP, hD⟩ := va_join (wr := []) (w1 := [(mo, .inr (23, [.int 1, .ref b0, .ref b1, .ref b2, .ref b3, .int 0, .int 0, .long 0])), (b2, .inr (5, [.int 0, .ref dz, .int 0]))]) hP hD [0, 1] [] rfl rfl (by decide) (by decide) hk1 hFc hP1 hD1
  have hK := (hK.sub (tys' := []) [] rfl).app hK1
  generalize H1 = H at hP hS ⊢
  have hP : va_P D vwCl [(mo, .inr (23, [.int 1, .ref b0, .ref b1, .ref b2, .ref b3, .int 0, .int 0, .long 0])), (b2, .inr (5, [.int 0, .ref dz, .int 0]))] H := hP
  have hD : va_D A [(mo, .inr (23, [.int 1, .ref b0, .ref b1, .ref b2, .ref b3, .int 0, .int 0, .long 0])), (b2, .inr (5, [.int 0, .ref dz, .int 0]))] := hD
  have hK : va_K D vwCl [] s := hK
  subst hw
  refine lv_if_eq (tgt := 11) hx hb dX17_enter_6 (by decide) (fun c => absurd c (by decide)) (fun _ => ?_)
  refine lv_iconst (v := 0) hx hb dX17_enter_9 (by decide) ?_
  have hP9 := hP.sub (ws' := [(mo, .inr (23, [.int 1, .ref b0, .ref b1, .ref b2, .ref b3, .int 0, .int 0, .long 0])), (b2, .inr (5, [.int 0, .ref dz, .int 0]))]) [0, 1] rfl
  have hD9 := hD.sub (ws' := [(mo, .inr (23, [.int 1, .ref b0, .ref b1, .ref b2, .ref b3, .int 0, .int 0, .long 0])), (b2, .inr (5, [.int 0, .ref dz, .int 0]))]) [0, 1] (by decide) rfl
  have hK9 := hK.sub (tys' := []) [] rfl
  rw [← hAe] at hD9
  refine W.widen (k := 0) (n := 0) (by omega) (by omega) ?_
  subst hAe
  exact W.iret (v := 0) hx hb hr (fun t ht9 hW => ⟨⟨0, (), rfl, rfl, ⟨by rw [ht9]; exact hP9, va_K.moved hW.alike hK9, hD9⟩⟩, hS.F ht9⟩) hS.2.2 dX17_enter_10

def zX17_withdraw_ws : List Cond := .code yX17_withdraw cX17_withdraw 7 (some .boolean) :: ([.methodLink RX17 95 yX17_noPair, .instanceMethod yX17_noPair, .selects RX17 yX17_noPair yX17_noPair, .initialized RX17] ++ (zX17_noPair_ws ++ ([])))
theorem zX17_withdraw_ws_good : zX17_withdraw_ws.all goodWord = true := by decide +kernel
set_option maxHeartbeats 4000000 in
set_option maxRecDepth 100000 in
/-- the reference refuses withdraw -/
theorem cm_withdraw (l : Launch) (hst : l.stackTraces = false) (D : va_G) (sz : Nat) (mo b0 b1 b2 b3 dz : Nat) (th : Int32) (x1 x2 x3 : Int32) : Met l yX17_withdraw zX17_withdraw_ws (zR 4 0 0) (zPre [.ref mo, .int x1, .int x2, .int x3] D [(mo, .inr (23, [.int th, .ref b0, .ref b1, .ref b2, .ref b3, .int 0, .int 0, .long 0])), (b2, .inr (5, [.int 0, .ref dz, .int 0]))] [] (va_A [(mo, .inr (23, [.int th, .ref b0, .ref b1, .ref b2, .ref b3, .int 0, .int 0, .long 0])), (b2, .inr (5, [.int 0, .ref dz, .int 0]))] sz) sz) (va_Qi (S := Unit) (fun r _ => r = 0) (fun _ t => zAt D [(mo, .inr (23, [.int 1, .ref b0, .ref b1, .ref b2, .ref b3, .int 0, .int 0, .long 0])), (b2, .inr (5, [.int 0, .ref dz, .int 0]))] [] (va_A [(mo, .inr (23, [.int th, .ref b0, .ref b1, .ref b2, .ref b3, .int 0, .int 0, .long 0])), (b2, .inr (5, [.int 0, .ref dz, .int 0]))] sz) t) (va_A [(mo, .inr (23, [.int th, .ref b0, .ref b1, .ref b2, .ref b3, .int 0, .int 0, .long 0])), (b2, .inr (5, [.int 0, .ref dz, .int 0]))] sz)) 0 0 (va_A [(mo, .inr (23, [.int th, .ref b0, .ref b1, .ref b2, .ref b3, .int 0, .int 0, .long 0])), (b2, .inr (5, [.int 0, .ref dz, .int 0]))] sz) := by
  refine Met.ofW (cc := cX17_withdraw) (maxL := 7) (ret := (some .boolean)) (by decide) rfl ?_
  intro p e s m args below meth c s₁ B hml hv
  obtain ⟨rfl, hsz, hP, hK, hD0, hz⟩ := hv
  have hx := B.exec
  have hb := B.bytes
  have hr := B.returns
  have hts := atoms_spec (ws := zX17_withdraw_ws) B.pre
  have hown : s.vm.findClass RX17 = some m.cls := findClass_of_methodNamed B.named
  have hlocks := B.notSynchronized
  subst hsz
  have hD := hD0.self (sz := s.heap.size)
  generalize hAe : va_A [(mo, .inr (23, [.int th, .ref b0, .ref b1, .ref b2, .ref b3, .int 0, .int 0, .long 0])), (b2, .inr (5, [.int 0, .ref dz, .int 0]))] s.heap.size = A at hD hz ⊢
  have hA : ∀ q : Nat, s.heap.size ≤ q → A q := fun q h => by rw [← hAe]; exact Or.inr h
  have hS : va_S A s.heap s.heap [] := va_S.rf
  have hP : va_P D vwCl [(mo, .inr (23, [.int th, .ref b0, .ref b1, .ref b2, .ref b3, .int 0, .int 0, .long 0])), (b2, .inr (5, [.int 0, .ref dz, .int 0]))] s.heap := hP
  have hl := lv_entry ([.ref mo, .int x1, .int x2, .int x3]) (n := 7) (Nat.le_of_ble_eq_true rfl)
  rw [lg_entry_eq]
  generalize (lg_sl ([.ref mo, .int x1, .int x2, .int x3]) ++ List.replicate (7 - (lg_sl ([.ref mo, .int x1, .int x2, .int x3])).length) Slot.unset).toArray = ls at hl ⊢
  have hl : lv_has ls 7 [(0, .ref mo), (1, .int x1), (2, .int x2), (3, .int x3)] := hl
  refine lv_aload_n hx hb dX17_withdraw_0 rfl (lv_at hl 0 rfl) ?_
  refine lv_iload_n hx hb dX17_withdraw_1 rfl (lv_at hl 1 rfl) ?_
  refine lv_iload_n hx hb dX17_withdraw_2 rfl (lv_at hl 2 rfl) ?_
  have hPc := hP.sub (ws' := [(mo, .inr (23, [.int th, .ref b0, .ref b1, .ref b2, .ref b3, .int 0, .int 0, .long 0])), (b2, .inr (5, [.int 0, .ref dz, .int 0]))]) [0, 1] rfl
  have hDc := hD.sub (ws' := [(mo, .inr (23, [.int th, .ref b0, .ref b1, .ref b2, .ref b3, .int 0, .int 0, .long 0])), (b2, .inr (5, [.int 0, .ref dz, .int 0]))]) [0, 1] (by decide) rfl
  have hKc := hK.sub (tys' := []) [] rfl
  have hFc := va_free (wc := [(mo, .inr (23, [.int th, .ref b0, .ref b1, .ref b2, .ref b3, .int 0, .int 0, .long 0])), (b2, .inr (5, [.int 0, .ref dz, .int 0]))]) hD hS hA [0, 1] rfl
  refine va_calli (va_runV (As := [.int x1, .int x2]) (rest := []) ⟨hx, hb, hml, hown, hts⟩ (cm_noPair l hst D s.heap.size mo b0 b1 b2 b3 dz th x1 x2) (cwV 2 hts (goodIn_app (goodIn_of _ (by decide +kernel)) (goodIn_sub (fun _ h => List.mem_cons_of_mem _ (List.mem_append_right _ (List.mem_append_left _ h))) zX17_noPair_ws_good)) rfl rfl rfl (by decide +kernel) ⟨Nat.le_of_ble_eq_true rfl, Nat.le_of_ble_eq_true rfl⟩) ⟨zPre.blind, va_recv hKc hPc (ci := 23) (q0 := 0) rfl rfl, zPre.mk hPc hKc hDc hz hS (fun q h => hFc q h)⟩ rfl rfl hl.1 rfl (lv_room (Nat.le_of_ble_eq_true rfl)) dX17_withdraw_3 ⟨Nat.le_of_ble_eq_true rfl, Nat.le_of_ble_eq_true rfl⟩) hS (fun q _ h => hFc q h) (fun q h => hFc q h) (fun r9 u t H1 locs ht9 hvm hw hB hz1 hk1 hS => ?_)
  refine W.widen (k := 0) (n := 0) (by omega) (by omega) ?_
  obtain ⟨hP1, hK1, hD1⟩ := hB
  rw [ht9] at hP1
  have hK1 := va_K.moved hvm.symm hK1
  obtain ⟨hP, hD⟩ := va_join (wr := []) (w1 := [(mo, .inr (23, [.int 1, .ref b0, .ref b1, .ref b2, .ref b3, .int 0, .int 0, .long 0])), (b2, .inr (5, [.int 0, .ref dz, .int 0]))]) hP hD [0, 1] [] rfl rfl (by decide) (by decide) hk1 hFc hP1 hD1
  have hK := (hK.sub (tys' := []) [] rfl).app hK1
  generalize H1 = H at hP hS ⊢
  have hP : va_P D vwCl [(mo, .inr (23, [.int 1, .ref b0, .ref b1, .ref b2, .ref b3, .int 0, .int 0, .long 0])), (b2, .inr (5, [.int 0, .ref dz, .int 0]))] H := hP
  have hD : va_D A [(mo, .inr (23, [.int 1, .ref b0, .ref b1, .ref b2, .ref b3, .int 0, .int 0, .long 0])), (b2, .inr (5, [.int 0, .ref dz, .int 0]))] := hD
  have hK : va_K D vwCl [] s := hK
  subst hw
  refine lv_if_eq (tgt := 11) hx hb dX17_withdraw_6 (by decide) (fun c => absurd c (by decide)) (fun _ => ?_)
  refine lv_iconst (v := 0) hx hb dX17_withdraw_9 (by decide) ?_
  have hP9 := hP.sub (ws' := [(mo, .inr (23, [.int 1, .ref b0, .ref b1, .ref b2, .ref b3, .int 0, .int 0, .long 0])), (b2, .inr (5, [.int 0, .ref dz, .int 0]))]) [0, 1] rfl
  have hD9 := hD.sub (ws' := [(mo, .inr (23, [.int 1, .ref b0, .ref b1, .ref b2, .ref b3, .int 0, .int 0, .long 0])), (b2, .inr (5, [.int 0, .ref dz, .int 0]))]) [0, 1] (by decide) rfl
  have hK9 := hK.sub (tys' := []) [] rfl
  rw [← hAe] at hD9
  refine W.widen (k := 0) (n := 0) (by omega) (by omega) ?_
  subst hAe
  exact W.zret (v := 0) hx hb hr rfl (fun t ht9 hW => ⟨⟨0, (), rfl, rfl, ⟨by rw [ht9]; exact hP9, va_K.moved hW.alike hK9, hD9⟩⟩, hS.F ht9⟩) hS.2.2 dX17_withdraw_10

def zX17_field_ws : List Cond := .code yX17_field cX17_field 2 (some .int) :: ([.methodLink RX17 146 yX17_noEvent, .instanceMethod yX17_noEvent, .selects RX17 yX17_noEvent yX17_noEvent, .initialized RX17] ++ (zX17_noEvent_ws ++ ([])))
theorem zX17_field_ws_good : zX17_field_ws.all goodWord = true := by decide +kernel
set_option maxHeartbeats 4000000 in
set_option maxRecDepth 100000 in
/-- the reference refuses field -/
theorem cm_field (l : Launch) (hst : l.stackTraces = false) (D : va_G) (sz : Nat) (mo b0 b1 b2 b3 dz : Nat) (th : Int32) (x1 : Int32) : Met l yX17_field zX17_field_ws (zR 4 0 0) (zPre [.ref mo, .int x1] D [(mo, .inr (23, [.int th, .ref b0, .ref b1, .ref b2, .ref b3, .int 0, .int 0, .long 0])), (b2, .inr (5, [.int 0, .ref dz, .int 0]))] [] (va_A [(mo, .inr (23, [.int th, .ref b0, .ref b1, .ref b2, .ref b3, .int 0, .int 0, .long 0])), (b2, .inr (5, [.int 0, .ref dz, .int 0]))] sz) sz) (va_Qi (S := Unit) (fun r _ => r = 0) (fun _ t => zAt D [(mo, .inr (23, [.int 1, .ref b0, .ref b1, .ref b2, .ref b3, .int 0, .int 0, .long 0])), (b2, .inr (5, [.int 0, .ref dz, .int 0]))] [] (va_A [(mo, .inr (23, [.int th, .ref b0, .ref b1, .ref b2, .ref b3, .int 0, .int 0, .long 0])), (b2, .inr (5, [.int 0, .ref dz, .int 0]))] sz) t) (va_A [(mo, .inr (23, [.int th, .ref b0, .ref b1, .ref b2, .ref b3, .int 0, .int 0, .long 0])), (b2, .inr (5, [.int 0, .ref dz, .int 0]))] sz)) 0 0 (va_A [(mo, .inr (23, [.int th, .ref b0, .ref b1, .ref b2, .ref b3, .int 0, .int 0, .long 0])), (b2, .inr (5, [.int 0, .ref dz, .int 0]))] sz) := by
  refine Met.ofW (cc := cX17_field) (maxL := 2) (ret := (some .int)) (by decide) rfl ?_
  intro p e s m args below meth c s₁ B hml hv
  obtain ⟨rfl, hsz, hP, hK, hD0, hz⟩ := hv
  have hx := B.exec
  have hb := B.bytes
  have hr := B.returns
  have hts := atoms_spec (ws := zX17_field_ws) B.pre
  have hown : s.vm.findClass RX17 = some m.cls := findClass_of_methodNamed B.named
  have hlocks := B.notSynchronized
  subst hsz
  have hD := hD0.self (sz := s.heap.size)
  generalize hAe : va_A [(mo, .inr (23, [.int th, .ref b0, .ref b1, .ref b2, .ref b3, .int 0, .int 0, .long 0])), (b2, .inr (5, [.int 0, .ref dz, .int 0]))] s.heap.size = A at hD hz ⊢
  have hA : ∀ q : Nat, s.heap.size ≤ q → A q := fun q h => by rw [← hAe]; exact Or.inr h
  have hS : va_S A s.heap s.heap [] := va_S.rf
  have hP : va_P D vwCl [(mo, .inr (23, [.int th, .ref b0, .ref b1, .ref b2, .ref b3, .int 0, .int 0, .long 0])), (b2, .inr (5, [.int 0, .ref dz, .int 0]))] s.heap := hP
  have hl := lv_entry ([.ref mo, .int x1]) (n := 2) (Nat.le_of_ble_eq_true rfl)
  rw [lg_entry_eq]
  generalize (lg_sl ([.ref mo, .int x1]) ++ List.replicate (2 - (lg_sl ([.ref mo, .int x1])).length) Slot.unset).toArray = ls at hl ⊢
  have hl : lv_has ls 2 [(0, .ref mo), (1, .int x1)] := hl
  refine lv_aload_n hx hb dX17_field_0 rfl (lv_at hl 0 rfl) ?_
  refine lv_iload_n hx hb dX17_field_1 rfl (lv_at hl 1 rfl) ?_
  have hPc := hP.sub (ws' := [(mo, .inr (23, [.int th, .ref b0, .ref b1, .ref b2, .ref b3, .int 0, .int 0, .long 0])), (b2, .inr (5, [.int 0, .ref dz, .int 0]))]) [0, 1] rfl
  have hDc := hD.sub (ws' := [(mo, .inr (23, [.int th, .ref b0, .ref b1, .ref b2, .ref b3, .int 0, .int 0, .long 0])), (b2, .inr (5, [.int 0, .ref dz, .int 0]))]) [0, 1] (by decide) rfl
  have hKc := hK.sub (tys' := []) [] rfl
  have hFc := va_free (wc := [(mo, .inr (23, [.int th, .ref b0, .ref b1, .ref b2, .ref b3, .int 0, .int 0, .long 0])), (b2, .inr (5, [.int 0, .ref dz, .int 0]))]) hD hS hA [0, 1] rfl
  refine va_calli (va_runV (As := [.int x1]) (rest := []) ⟨hx, hb, hml, hown, hts⟩ (cm_noEvent l hst D s.heap.size mo b0 b1 b2 b3 dz th x1) (cwV 1 hts (goodIn_app (goodIn_of _ (by decide +kernel)) (goodIn_sub (fun _ h => List.mem_cons_of_mem _ (List.mem_append_right _ (List.mem_append_left _ h))) zX17_noEvent_ws_good)) rfl rfl rfl (by decide +kernel) ⟨Nat.le_of_ble_eq_true rfl, Nat.le_of_ble_eq_true rfl⟩) ⟨zPre.blind, va_recv hKc hPc (ci := 23) (q0 := 0) rfl rfl, zPre.mk hPc hKc hDc hz hS (fun q h => hFc q h)⟩ rfl rfl hl.1 rfl (lv_room (Nat.le_of_ble_eq_true rfl)) dX17_field_2 ⟨Nat.le_of_ble_eq_true rfl, Nat.le_of_ble_eq_true rfl⟩) hS (fun q _ h => hFc q h) (fun q h => hFc q h) (fun r9 u t H1 locs ht9 hvm hw hB hz1 hk1 hS => ?_)
  refine W.widen (k := 0) (n := 0) (by omega) (by omega) ?_
  obtain ⟨hP1, hK1, hD1⟩ := hB
  rw [ht9] at hP1
  have hK1 := va_K.moved hvm.symm hK1
  obtain ⟨hP, hD⟩ := va_join (wr := []) (w1 := [(mo, .inr (23, [.int 1, .ref b0, .ref b1, .ref b2, .ref b3, .int 0, .int 0, .long 0])), (b2, .inr (5, [.int 0, .ref dz, .int 0]))]) hP hD [0, 1] [] rfl rfl (by decide) (by decide) hk1 hFc hP1 hD1
  have hK := (hK.sub (tys' := []) [] rfl).app hK1
  generalize H1 = H at hP hS ⊢
  have hP : va_P D vwCl [(mo, .inr (23, [.int 1, .ref b0, .ref b1, .ref b2, .ref b3, .int 0, .int 0, .long 0])), (b2, .inr (5, [.int 0, .ref dz, .int 0]))] H := hP
  have hD : va_D A [(mo, .inr (23, [.int 1, .ref b0, .ref b1, .ref b2, .ref b3, .int 0, .int 0, .long 0])), (b2, .inr (5, [.int 0, .ref dz, .int 0]))] := hD
  have hK : va_K D vwCl [] s := hK
  subst hw
  refine lv_if_eq (tgt := 12) hx hb dX17_field_5 (by decide) (fun c => absurd c (by decide)) (fun _ => ?_)
  refine lv_iconst (v := 0) hx hb dX17_field_8 (by decide) ?_
  refine lv_goto (tgt := 30) hx hb dX17_field_9 (by decide) ?_
  have hP9 := hP.sub (ws' := [(mo, .inr (23, [.int 1, .ref b0, .ref b1, .ref b2, .ref b3, .int 0, .int 0, .long 0])), (b2, .inr (5, [.int 0, .ref dz, .int 0]))]) [0, 1] rfl
  have hD9 := hD.sub (ws' := [(mo, .inr (23, [.int 1, .ref b0, .ref b1, .ref b2, .ref b3, .int 0, .int 0, .long 0])), (b2, .inr (5, [.int 0, .ref dz, .int 0]))]) [0, 1] (by decide) rfl
  have hK9 := hK.sub (tys' := []) [] rfl
  rw [← hAe] at hD9
  refine W.widen (k := 0) (n := 0) (by omega) (by omega) ?_
  subst hAe
  exact W.iret (v := 0) hx hb hr (fun t ht9 hW => ⟨⟨0, (), rfl, rfl, ⟨by rw [ht9]; exact hP9, va_K.moved hW.alike hK9, hD9⟩⟩, hS.F ht9⟩) hS.2.2 dX17_field_30

def zX17_inField_ws : List Cond := .code yX17_inField cX17_inField 4 (some .int) :: ([.methodLink RX17 146 yX17_noEvent, .instanceMethod yX17_noEvent, .selects RX17 yX17_noEvent yX17_noEvent, .initialized RX17] ++ (zX17_noEvent_ws ++ ([])))
theorem zX17_inField_ws_good : zX17_inField_ws.all goodWord = true := by decide +kernel
set_option maxHeartbeats 4000000 in
set_option maxRecDepth 100000 in
/-- the reference refuses inField -/
theorem cm_inField (l : Launch) (hst : l.stackTraces = false) (D : va_G) (sz : Nat) (mo b0 b1 b2 b3 dz : Nat) (th : Int32) (x1 x2 : Int32) : Met l yX17_inField zX17_inField_ws (zR 4 0 0) (zPre [.ref mo, .int x1, .int x2] D [(mo, .inr (23, [.int th, .ref b0, .ref b1, .ref b2, .ref b3, .int 0, .int 0, .long 0])), (b2, .inr (5, [.int 0, .ref dz, .int 0]))] [] (va_A [(mo, .inr (23, [.int th, .ref b0, .ref b1, .ref b2, .ref b3, .int 0, .int 0, .long 0])), (b2, .inr (5, [.int 0, .ref dz, .int 0]))] sz) sz) (va_Qi (S := Unit) (fun r _ => r = 0) (fun _ t => zAt D [(mo, .inr (23, [.int 1, .ref b0, .ref b1, .ref b2, .ref b3, .int 0, .int 0, .long 0])), (b2, .inr (5, [.int 0, .ref dz, .int 0]))] [] (va_A [(mo, .inr (23, [.int th, .ref b0, .ref b1, .ref b2, .ref b3, .int 0, .int 0, .long 0])), (b2, .inr (5, [.int 0, .ref dz, .int 0]))] sz) t) (va_A [(mo, .inr (23, [.int th, .ref b0, .ref b1, .ref b2, .ref b3, .int 0, .int 0, .long 0])), (b2, .inr (5, [.int 0, .ref dz, .int 0]))] sz)) 0 0 (va_A [(mo, .inr (23, [.int th, .ref b0, .ref b1, .ref b2, .ref b3, .int 0, .int 0, .long 0])), (b2, .inr (5, [.int 0, .ref dz, .int 0]))] sz) := by
  refine Met.ofW (cc := cX17_inField) (maxL := 4) (ret := (some .int)) (by decide) rfl ?_
  intro p e s m args below meth c s₁ B hml hv
  obtain ⟨rfl, hsz, hP, hK, hD0, hz⟩ := hv
  have hx := B.exec
  have hb := B.bytes
  have hr := B.returns
  have hts := atoms_spec (ws := zX17_inField_ws) B.pre
  have hown : s.vm.findClass RX17 = some m.cls := findClass_of_methodNamed B.named
  have hlocks := B.notSynchronized
  subst hsz
  have hD := hD0.self (sz := s.heap.size)
  generalize hAe : va_A [(mo, .inr (23, [.int th, .ref b0, .ref b1, .ref b2, .ref b3, .int 0, .int 0, .long 0])), (b2, .inr (5, [.int 0, .ref dz, .int 0]))] s.heap.size = A at hD hz ⊢
  have hA : ∀ q : Nat, s.heap.size ≤ q → A q := fun q h => by rw [← hAe]; exact Or.inr h
  have hS : va_S A s.heap s.heap [] := va_S.rf
  have hP : va_P D vwCl [(mo, .inr (23, [.int th, .ref b0, .ref b1, .ref b2, .ref b3, .int 0, .int 0, .long 0])), (b2, .inr (5, [.int 0, .ref dz, .int 0]))] s.heap := hP
  have hl := lv_entry ([.ref mo, .int x1, .int x2]) (n := 4) (Nat.le_of_ble_eq_true rfl)
  rw [lg_entry_eq]
  generalize (lg_sl ([.ref mo, .int x1, .int x2]) ++ List.replicate (4 - (lg_sl ([.ref mo, .int x1, .int x2])).length) Slot.unset).toArray = ls at hl ⊢
  have hl : lv_has ls 4 [(0, .ref mo), (1, .int x1), (2, .int x2)] := hl
  refine lv_aload_n hx hb dX17_inField_0 rfl (lv_at hl 0 rfl) ?_
  refine lv_iload_n hx hb dX17_inField_1 rfl (lv_at hl 1 rfl) ?_
  have hPc := hP.sub (ws' := [(mo, .inr (23, [.int th, .ref b0, .ref b1, .ref b2, .ref b3, .int 0, .int 0, .long 0])), (b2, .inr (5, [.int 0, .ref dz, .int 0]))]) [0, 1] rfl
  have hDc := hD.sub (ws' := [(mo, .inr (23, [.int th, .ref b0, .ref b1, .ref b2, .ref b3, .int 0, .int 0, .long 0])), (b2, .inr (5, [.int 0, .ref dz, .int 0]))]) [0, 1] (by decide) rfl
  have hKc := hK.sub (tys' := []) [] rfl
  have hFc := va_free (wc := [(mo, .inr (23, [.int th, .ref b0, .ref b1, .ref b2, .ref b3, .int 0, .int 0, .long 0])), (b2, .inr (5, [.int 0, .ref dz, .int 0]))]) hD hS hA [0, 1] rfl
  refine va_calli (va_runV (As := [.int x1]) (rest := []) ⟨hx, hb, hml, hown, hts⟩ (cm_noEvent l hst D s.heap.size mo b0 b1 b2 b3 dz th x1) (cwV 1 hts (goodIn_app (goodIn_of _ (by decide +kernel)) (goodIn_sub (fun _ h => List.mem_cons_of_mem _ (List.mem_append_right _ (List.mem_append_left _ h))) zX17_noEvent_ws_good)) rfl rfl rfl (by decide +kernel) ⟨Nat.le_of_ble_eq_true rfl, Nat.le_of_ble_eq_true rfl⟩) ⟨zPre.blind, va_recv hKc hPc (ci := 23) (q0 := 0) rfl rfl, zPre.mk hPc hKc hDc hz hS (fun q h => hFc q h)⟩ rfl rfl hl.1 rfl (lv_room (Nat.le_of_ble_eq_true rfl)) dX17_inField_2 ⟨Nat.le_of_ble_eq_true rfl, Nat.le_of_ble_eq_true rfl⟩) hS (fun q _ h => hFc q h) (fun q h => hFc q h) (fun r9 u t H1 locs ht9 hvm hw hB hz1 hk1 hS => ?_)
  refine W.widen (k := 0) (n := 0) (by omega) (by omega) ?_
  obtain ⟨hP1, hK1, hD1⟩ := hB
  rw [ht9] at hP1
  have hK1 := va_K.moved hvm.symm hK1
  obtain ⟨hP, hD⟩ := va_join (wr := []) (w1 := [(mo, .inr (23, [.int 1, .ref b0, .ref b1, .ref b2, .ref b3, .int 0, .int 0, .long 0])), (b2, .inr (5, [.int 0, .ref dz, .int 0]))]) hP hD [0, 1] [] rfl rfl (by decide) (by decide) hk1 hFc hP1 hD1
  have hK := (hK.sub (tys' := []) [] rfl).app hK1
  generalize H1 = H at hP hS ⊢
  have hP : va_P D vwCl [(mo, .inr (23, [.int 1, .ref b0, .ref b1, .ref b2, .ref b3, .int 0, .int 0, .long 0])), (b2, .inr (5, [.int 0, .ref dz, .int 0]))] H := hP
  have hD : va_D A [(mo, .inr (23, [.int 1, .ref b0, .ref b1, .ref b2, .ref b3, .int 0, .int 0, .long 0])), (b2, .inr (5, [.int 0, .ref dz, .int 0]))] := hD
  have hK : va_K D vwCl [] s := hK
  subst hw
  refine lv_if_eq (tgt := 10) hx hb dX17_inField_5 (by decide) (fun c => absurd c (by decide)) (fun _ => ?_)
  refine lv_iconst (v := 0) hx hb dX17_inField_8 (by decide) ?_
  have hP9 := hP.sub (ws' := [(mo, .inr (23, [.int 1, .ref b0, .ref b1, .ref b2, .ref b3, .int 0, .int 0, .long 0])), (b2, .inr (5, [.int 0, .ref dz, .int 0]))]) [0, 1] rfl
  have hD9 := hD.sub (ws' := [(mo, .inr (23, [.int 1, .ref b0, .ref b1, .ref b2, .ref b3, .int 0, .int 0, .long 0])), (b2, .inr (5, [.int 0, .ref dz, .int 0]))]) [0, 1] (by decide) rfl
  have hK9 := hK.sub (tys' := []) [] rfl
  rw [← hAe] at hD9
  refine W.widen (k := 0) (n := 0) (by omega) (by omega) ?_
  subst hAe
  exact W.iret (v := 0) hx hb hr (fun t ht9 hW => ⟨⟨0, (), rfl, rfl, ⟨by rw [ht9]; exact hP9, va_K.moved hW.alike hK9, hD9⟩⟩, hS.F ht9⟩) hS.2.2 dX17_inField_9

def zX17_heatOf_ws : List Cond := .code yX17_heatOf cX17_heatOf 6 (some .int) :: ([.methodLink RX17 95 yX17_noPair, .instanceMethod yX17_noPair, .selects RX17 yX17_noPair yX17_noPair, .initialized RX17] ++ (zX17_noPair_ws ++ ([])))
theorem zX17_heatOf_ws_good : zX17_heatOf_ws.all goodWord = true := by decide +kernel
set_option maxHeartbeats 4000000 in
set_option maxRecDepth 100000 in
/-- the reference refuses heatOf -/
theorem cm_heatOf (l : Launch) (hst : l.stackTraces = false) (D : va_G) (sz : Nat) (mo b0 b1 b2 b3 dz : Nat) (th : Int32) (x1 x2 : Int32) : Met l yX17_heatOf zX17_heatOf_ws (zR 4 0 0) (zPre [.ref mo, .int x1, .int x2] D [(mo, .inr (23, [.int th, .ref b0, .ref b1, .ref b2, .ref b3, .int 0, .int 0, .long 0])), (b2, .inr (5, [.int 0, .ref dz, .int 0]))] [] (va_A [(mo, .inr (23, [.int th, .ref b0, .ref b1, .ref b2, .ref b3, .int 0, .int 0, .long 0])), (b2, .inr (5, [.int 0, .ref dz, .int 0]))] sz) sz) (va_Qi (S := Unit) (fun r _ => r = 0) (fun _ t => zAt D [(mo, .inr (23, [.int 1, .ref b0, .ref b1, .ref b2, .ref b3, .int 0, .int 0, .long 0])), (b2, .inr (5, [.int 0, .ref dz, .int 0]))] [] (va_A [(mo, .inr (23, [.int th, .ref b0, .ref b1, .ref b2, .ref b3, .int 0, .int 0, .long 0])), (b2, .inr (5, [.int 0, .ref dz, .int 0]))] sz) t) (va_A [(mo, .inr (23, [.int th, .ref b0, .ref b1, .ref b2, .ref b3, .int 0, .int 0, .long 0])), (b2, .inr (5, [.int 0, .ref dz, .int 0]))] sz)) 0 0 (va_A [(mo, .inr (23, [.int th, .ref b0, .ref b1, .ref b2, .ref b3, .int 0, .int 0, .long 0])), (b2, .inr (5, [.int 0, .ref dz, .int 0]))] sz) := by
  refine Met.ofW (cc := cX17_heatOf) (maxL := 6) (ret := (some .int)) (by decide) rfl ?_
  intro p e s m args below meth c s₁ B hml hv
  obtain ⟨rfl, hsz, hP, hK, hD0, hz⟩ := hv
  have hx := B.exec
  have hb := B.bytes
  have hr := B.returns
  have hts := atoms_spec (ws := zX17_heatOf_ws) B.pre
  have hown : s.vm.findClass RX17 = some m.cls := findClass_of_methodNamed B.named
  have hlocks := B.notSynchronized
  subst hsz
  have hD := hD0.self (sz := s.heap.size)
  generalize hAe : va_A [(mo, .inr (23, [.int th, .ref b0, .ref b1, .ref b2, .ref b3, .int 0, .int 0, .long 0])), (b2, .inr (5, [.int 0, .ref dz, .int 0]))] s.heap.size = A at hD hz ⊢
  have hA : ∀ q : Nat, s.heap.size ≤ q → A q := fun q h => by rw [← hAe]; exact Or.inr h
  have hS : va_S A s.heap s.heap [] := va_S.rf
  have hP : va_P D vwCl [(mo, .inr (23, [.int th, .ref b0, .ref b1, .ref b2, .ref b3, .int 0, .int 0, .long 0])), (b2, .inr (5, [.int 0, .ref dz, .int 0]))] s.heap := hP
  have hl := lv_entry ([.ref mo, .int x1, .int x2]) (n := 6) (Nat.le_of_ble_eq_true rfl)
  rw [lg_entry_eq]
  generalize (lg_sl ([.ref mo, .int x1, .int x2]) ++ List.replicate (6 - (lg_sl ([.ref mo, .int x1, .int x2])).length) Slot.unset).toArray = ls at hl ⊢
  have hl : lv_has ls 6 [(0, .ref mo), (1, .int x1), (2, .int x2)] := hl
  refine lv_aload_n hx hb dX17_heatOf_0 rfl (lv_at hl 0 rfl) ?_
  refine lv_iload_n hx hb dX17_heatOf_1 rfl (lv_at hl 1 rfl) ?_
  refine lv_iload_n hx hb dX17_heatOf_2 rfl (lv_at hl 2 rfl) ?_
  have hPc := hP.sub (ws' := [(mo, .inr (23, [.int th, .ref b0, .ref b1, .ref b2, .ref b3, .int 0, .int 0, .long 0])), (b2, .inr (5, [.int 0, .ref dz, .int 0]))]) [0, 1] rfl
  have hDc := hD.sub (ws' := [(mo, .inr (23, [.int th, .ref b0, .ref b1, .ref b2, .ref b3, .int 0, .int 0, .long 0])), (b2, .inr (5, [.int 0, .ref dz, .int 0]))]) [0, 1] (by decide) rfl
  have hKc := hK.sub (tys' := []) [] rfl
  have hFc := va_free (wc := [(mo, .inr (23, [.int th, .ref b0, .ref b1, .ref b2, .ref b3, .int 0, .int 0, .long 0])), (b2, .inr (5, [.int 0, .ref dz, .int 0]))]) hD hS hA [0, 1] rfl
  refine va_calli (va_runV (As := [.int x1, .int x2]) (rest := []) ⟨hx, hb, hml, hown, hts⟩ (cm_noPair l hst D s.heap.size mo b0 b1 b2 b3 dz th x1 x2) (cwV 2 hts (goodIn_app (goodIn_of _ (by decide +kernel)) (goodIn_sub (fun _ h => List.mem_cons_of_mem _ (List.mem_append_right _ (List.mem_append_left _ h))) zX17_noPair_ws_good)) rfl rfl rfl (by decide +kernel) ⟨Nat.le_of_ble_eq_true rfl, Nat.le_of_ble_eq_true rfl⟩) ⟨zPre.blind, va_recv hKc hPc (ci := 23) (q0 := 0) rfl rfl, zPre.mk hPc hKc hDc hz hS (fun q h => hFc q h)⟩ rfl rfl hl.1 rfl (lv_room (Nat.le_of_ble_eq_true rfl)) dX17_heatOf_3 ⟨Nat.le_of_ble_eq_true rfl, Nat.le_of_ble_eq_true rfl⟩) hS (fun q _ h => hFc q h) (fun q h => hFc q h) (fun r9 u t H1 locs ht9 hvm hw hB hz1 hk1 hS => ?_)
  refine W.widen (k := 0) (n := 0) (by omega) (by omega) ?_
  obtain ⟨hP1, hK1, hD1⟩ := hB
  rw [ht9] at hP1
  have hK1 := va_K.moved hvm.symm hK1
  obtain ⟨hP, hD⟩ := va_join (wr := []) (w1 := [(mo, .inr (23, [.int 1, .ref b0, .ref b1, .ref b2, .ref b3, .int 0, .int 0, .long 0])), (b2, .inr (5, [.int 0, .ref dz, .int 0]))]) hP hD [0, 1] [] rfl rfl (by decide) (by decide) hk1 hFc hP1 hD1
  have hK := (hK.sub (tys' := []) [] rfl).app hK1
  generalize H1 = H at hP hS ⊢
  have hP : va_P D vwCl [(mo, .inr (23, [.int 1, .ref b0, .ref b1, .ref b2, .ref b3, .int 0, .int 0, .long 0])), (b2, .inr (5, [.int 0, .ref dz, .int 0]))] H := hP
  have hD : va_D A [(mo, .inr (23, [.int 1, .ref b0, .ref b1, .ref b2, .ref b3, .int 0, .int 0, .long 0])), (b2, .inr (5, [.int 0, .ref dz, .int 0]))] := hD
  have hK : va_K D vwCl [] s := hK
  subst hw
  refine lv_if_eq (tgt := 11) hx hb dX17_heatOf_6 (by decide) (fun c => absurd c (by decide)) (fun _ => ?_)
  refine lv_iconst (v := 0) hx hb dX17_heatOf_9 (by decide) ?_
  have hP9 := hP.sub (ws' := [(mo, .inr (23, [.int 1, .ref b0, .ref b1, .ref b2, .ref b3, .int 0, .int 0, .long 0])), (b2, .inr (5, [.int 0, .ref dz, .int 0]))]) [0, 1] rfl
  have hD9 := hD.sub (ws' := [(mo, .inr (23, [.int 1, .ref b0, .ref b1, .ref b2, .ref b3, .int 0, .int 0, .long 0])), (b2, .inr (5, [.int 0, .ref dz, .int 0]))]) [0, 1] (by decide) rfl
  have hK9 := hK.sub (tys' := []) [] rfl
  rw [← hAe] at hD9
  refine W.widen (k := 0) (n := 0) (by omega) (by omega) ?_
  subst hAe
  exact W.iret (v := 0) hx hb hr (fun t ht9 hW => ⟨⟨0, (), rfl, rfl, ⟨by rw [ht9]; exact hP9, va_K.moved hW.alike hK9, hD9⟩⟩, hS.F ht9⟩) hS.2.2 dX17_heatOf_10

def zX17_laneOf_ws : List Cond := .code yX17_laneOf cX17_laneOf 8 (some .int) :: ([.methodLink RX17 210 yX17_race, .instanceMethod yX17_race, .selects RX17 yX17_race yX17_race, .initialized RX17] ++ (zX17_race_ws ++ ([])))
theorem zX17_laneOf_ws_good : zX17_laneOf_ws.all goodWord = true := by decide +kernel
set_option maxHeartbeats 4000000 in
set_option maxRecDepth 100000 in
/-- the reference refuses laneOf -/
theorem cm_laneOf (l : Launch) (hst : l.stackTraces = false) (D : va_G) (sz : Nat) (mo b0 b1 b2 b3 dz : Nat) (th : Int32) (x1 x2 x3 : Int32) : Met l yX17_laneOf zX17_laneOf_ws (zR 4 0 0) (zPre [.ref mo, .int x1, .int x2, .int x3] D [(mo, .inr (23, [.int th, .ref b0, .ref b1, .ref b2, .ref b3, .int 0, .int 0, .long 0])), (b2, .inr (5, [.int 0, .ref dz, .int 0]))] [] (va_A [(mo, .inr (23, [.int th, .ref b0, .ref b1, .ref b2, .ref b3, .int 0, .int 0, .long 0])), (b2, .inr (5, [.int 0, .ref dz, .int 0]))] sz) sz) (va_Qi (S := Unit) (fun r _ => r = 0) (fun _ t => zAt D [(mo, .inr (23, [.int 1, .ref b0, .ref b1, .ref b2, .ref b3, .int 0, .int 0, .long 0])), (b2, .inr (5, [.int 0, .ref dz, .int 0]))] [] (va_A [(mo, .inr (23, [.int th, .ref b0, .ref b1, .ref b2, .ref b3, .int 0, .int 0, .long 0])), (b2, .inr (5, [.int 0, .ref dz, .int 0]))] sz) t) (va_A [(mo, .inr (23, [.int th, .ref b0, .ref b1, .ref b2, .ref b3, .int 0, .int 0, .long 0])), (b2, .inr (5, [.int 0, .ref dz, .int 0]))] sz)) 0 0 (va_A [(mo, .inr (23, [.int th, .ref b0, .ref b1, .ref b2, .ref b3, .int 0, .int 0, .long 0])), (b2, .inr (5, [.int 0, .ref dz, .int 0]))] sz) := by
  refine Met.ofW (cc := cX17_laneOf) (maxL := 8) (ret := (some .int)) (by decide) rfl ?_
  intro p e s m args below meth c s₁ B hml hv
  obtain ⟨rfl, hsz, hP, hK, hD0, hz⟩ := hv
  have hx := B.exec
  have hb := B.bytes
  have hr := B.returns
  have hts := atoms_spec (ws := zX17_laneOf_ws) B.pre
  have hown : s.vm.findClass RX17 = some m.cls := findClass_of_methodNamed B.named
  have hlocks := B.notSynchronized
  subst hsz
  have hD := hD0.self (sz := s.heap.size)
  generalize hAe : va_A [(mo, .inr (23, [.int th, .ref b0, .ref b1, .ref b2, .ref b3, .int 0, .int 0, .long 0])), (b2, .inr (5, [.int 0, .ref dz, .int 0]))] s.heap.size = A at hD hz ⊢
  have hA : ∀ q : Nat, s.heap.size ≤ q → A q := fun q h => by rw [← hAe]; exact Or.inr h
  have hS : va_S A s.heap s.heap [] := va_S.rf
  have hP : va_P D vwCl [(mo, .inr (23, [.int th, .ref b0, .ref b1, .ref b2, .ref b3, .int 0, .int 0, .long 0])), (b2, .inr (5, [.int 0, .ref dz, .int 0]))] s.heap := hP
  have hl := lv_entry ([.ref mo, .int x1, .int x2, .int x3]) (n := 8) (Nat.le_of_ble_eq_true rfl)
  rw [lg_entry_eq]
  generalize (lg_sl ([.ref mo, .int x1, .int x2, .int x3]) ++ List.replicate (8 - (lg_sl ([.ref mo, .int x1, .int x2, .int x3])).length) Slot.unset).toArray = ls at hl ⊢
  have hl : lv_has ls 8 [(0, .ref mo), (1, .int x1), (2, .int x2), (3, .int x3)] := hl
  refine lv_aload_n hx hb dX17_laneOf_0 rfl (lv_at hl 0 rfl) ?_
  refine lv_iload_n hx hb dX17_laneOf_1 rfl (lv_at hl 1 rfl) ?_
  refine lv_iload_n hx hb dX17_laneOf_2 rfl (lv_at hl 3 rfl) ?_
  refine lv_iload_n hx hb dX17_laneOf_3 rfl (lv_at hl 2 rfl) ?_
  have hPc := hP.sub (ws' := [(mo, .inr (23, [.int th, .ref b0, .ref b1, .ref b2, .ref b3, .int 0, .int 0, .long 0])), (b2, .inr (5, [.int 0, .ref dz, .int 0]))]) [0, 1] rfl
  have hDc := hD.sub (ws' := [(mo, .inr (23, [.int th, .ref b0, .ref b1, .ref b2, .ref b3, .int 0, .int 0, .long 0])), (b2, .inr (5, [.int 0, .ref dz, .int 0]))]) [0, 1] (by decide) rfl
  have hKc := hK.sub (tys' := []) [] rfl
  have hFc := va_free (wc := [(mo, .inr (23, [.int th, .ref b0, .ref b1, .ref b2, .ref b3, .int 0, .int 0, .long 0])), (b2, .inr (5, [.int 0, .ref dz, .int 0]))]) hD hS hA [0, 1] rfl
  refine va_callq (va_runV (As := [.int x1, .int x3, .int x2]) (rest := []) ⟨hx, hb, hml, hown, hts⟩ (cm_race l hst D s.heap.size mo b0 b1 b2 b3 dz th x1 x3 x2) (cwV 3 hts (goodIn_app (goodIn_of _ (by decide +kernel)) (goodIn_sub (fun _ h => List.mem_cons_of_mem _ (List.mem_append_right _ (List.mem_append_left _ h))) zX17_race_ws_good)) rfl rfl rfl (by decide +kernel) ⟨Nat.le_of_ble_eq_true rfl, Nat.le_of_ble_eq_true rfl⟩) ⟨zPre.blind, va_recv hKc hPc (ci := 23) (q0 := 0) rfl rfl, zPre.mk hPc hKc hDc hz hS (fun q h => hFc q h)⟩ rfl rfl hl.1 rfl (lv_room (Nat.le_of_ble_eq_true rfl)) dX17_laneOf_4 ⟨Nat.le_of_ble_eq_true rfl, Nat.le_of_ble_eq_true rfl⟩) hS (fun q _ h => hFc q h) (fun q h => hFc q h) (fun r9 u t H1 locs ht9 hvm hw hB hz1 hk1 hS => ?_)
  refine W.widen (k := 0) (n := 0) (by omega) (by omega) ?_
  obtain ⟨hP1, hK1, hD1⟩ := hB
  rw [ht9] at hP1
  have hK1 := va_K.moved hvm.symm hK1
  obtain ⟨hP, hD⟩ := va_join (wr := []) (w1 := [(mo, .inr (23, [.int 1, .ref b0, .ref b1, .ref b2, .ref b3, .int 0, .int 0, .long 0])), (b2, .inr (5, [.int 0, .ref dz, .int 0]))]) hP hD [0, 1] [] rfl rfl (by decide) (by decide) hk1 hFc hP1 hD1
  have hK := (hK.sub (tys' := []) [] rfl).app hK1
  generalize H1 = H at hP hS ⊢
  have hP : va_P D vwCl [(mo, .inr (23, [.int 1, .ref b0, .ref b1, .ref b2, .ref b3, .int 0, .int 0, .long 0])), (b2, .inr (5, [.int 0, .ref dz, .int 0]))] H := hP
  have hD : va_D A [(mo, .inr (23, [.int 1, .ref b0, .ref b1, .ref b2, .ref b3, .int 0, .int 0, .long 0])), (b2, .inr (5, [.int 0, .ref dz, .int 0]))] := hD
  have hK : va_K D vwCl [] s := hK
  subst hw
  refine lv_astoreN (lv' := [(4, .null), (0, .ref mo), (1, .int x1), (2, .int x2), (3, .int x3)]) hx hb dX17_laneOf_7 hl (by decide) rfl (fun ls hl => ?_)
  refine lv_aloadN hx hb dX17_laneOf_9 (lv_at hl 0 rfl) ?_
  refine lv_ifnonnullN hx hb dX17_laneOf_11 ?_
  refine lv_iconst (v := 0) hx hb dX17_laneOf_14 (by decide) ?_
  have hP9 := hP.sub (ws' := [(mo, .inr (23, [.int 1, .ref b0, .ref b1, .ref b2, .ref b3, .int 0, .int 0, .long 0])), (b2, .inr (5, [.int 0, .ref dz, .int 0]))]) [0, 1] rfl
  have hD9 := hD.sub (ws' := [(mo, .inr (23, [.int 1, .ref b0, .ref b1, .ref b2, .ref b3, .int 0, .int 0, .long 0])), (b2, .inr (5, [.int 0, .ref dz, .int 0]))]) [0, 1] (by decide) rfl
  have hK9 := hK.sub (tys' := []) [] rfl
  rw [← hAe] at hD9
  refine W.widen (k := 0) (n := 0) (by omega) (by omega) ?_
  subst hAe
  exact W.iret (v := 0) hx hb hr (fun t ht9 hW => ⟨⟨0, (), rfl, rfl, ⟨by rw [ht9]; exact hP9, va_K.moved hW.alike hK9, hD9⟩⟩, hS.F ht9⟩) hS.2.2 dX17_laneOf_15

def zX17_time_ws : List Cond := .code yX17_time cX17_time 10 (some .int) :: ([.methodLink RX17 95 yX17_noPair, .instanceMethod yX17_noPair, .selects RX17 yX17_noPair yX17_noPair, .initialized RX17] ++ (zX17_noPair_ws ++ ([])))
theorem zX17_time_ws_good : zX17_time_ws.all goodWord = true := by decide +kernel
set_option maxHeartbeats 4000000 in
set_option maxRecDepth 100000 in
/-- the reference refuses time -/
theorem cm_time (l : Launch) (hst : l.stackTraces = false) (D : va_G) (sz : Nat) (mo b0 b1 b2 b3 dz : Nat) (th : Int32) (x1 x2 x3 x4 x5 x6 : Int32) : Met l yX17_time zX17_time_ws (zR 4 0 0) (zPre [.ref mo, .int x1, .int x2, .int x3, .int x4, .int x5, .int x6] D [(mo, .inr (23, [.int th, .ref b0, .ref b1, .ref b2, .ref b3, .int 0, .int 0, .long 0])), (b2, .inr (5, [.int 0, .ref dz, .int 0]))] [] (va_A [(mo, .inr (23, [.int th, .ref b0, .ref b1, .ref b2, .ref b3, .int 0, .int 0, .long 0])), (b2, .inr (5, [.int 0, .ref dz, .int 0]))] sz) sz) (va_Qi (S := Unit) (fun r _ => r = 0) (fun _ t => zAt D [(mo, .inr (23, [.int 1, .ref b0, .ref b1, .ref b2, .ref b3, .int 0, .int 0, .long 0])), (b2, .inr (5, [.int 0, .ref dz, .int 0]))] [] (va_A [(mo, .inr (23, [.int th, .ref b0, .ref b1, .ref b2, .ref b3, .int 0, .int 0, .long 0])), (b2, .inr (5, [.int 0, .ref dz, .int 0]))] sz) t) (va_A [(mo, .inr (23, [.int th, .ref b0, .ref b1, .ref b2, .ref b3, .int 0, .int 0, .long 0])), (b2, .inr (5, [.int 0, .ref dz, .int 0]))] sz)) 0 0 (va_A [(mo, .inr (23, [.int th, .ref b0, .ref b1, .ref b2, .ref b3, .int 0, .int 0, .long 0])), (b2, .inr (5, [.int 0, .ref dz, .int 0]))] sz) := by
  refine Met.ofW (cc := cX17_time) (maxL := 10) (ret := (some .int)) (by decide) rfl ?_
  intro p e s m args below meth c s₁ B hml hv
  obtain ⟨rfl, hsz, hP, hK, hD0, hz⟩ := hv
  have hx := B.exec
  have hb := B.bytes
  have hr := B.returns
  have hts := atoms_spec (ws := zX17_time_ws) B.pre
  have hown : s.vm.findClass RX17 = some m.cls := findClass_of_methodNamed B.named
  have hlocks := B.notSynchronized
  subst hsz
  have hD := hD0.self (sz := s.heap.size)
  generalize hAe : va_A [(mo, .inr (23, [.int th, .ref b0, .ref b1, .ref b2, .ref b3, .int 0, .int 0, .long 0])), (b2, .inr (5, [.int 0, .ref dz, .int 0]))] s.heap.size = A at hD hz ⊢
  have hA : ∀ q : Nat, s.heap.size ≤ q → A q := fun q h => by rw [← hAe]; exact Or.inr h
  have hS : va_S A s.heap s.heap [] := va_S.rf
  have hP : va_P D vwCl [(mo, .inr (23, [.int th, .ref b0, .ref b1, .ref b2, .ref b3, .int 0, .int 0, .long 0])), (b2, .inr (5, [.int 0, .ref dz, .int 0]))] s.heap := hP
  have hl := lv_entry ([.ref mo, .int x1, .int x2, .int x3, .int x4, .int x5, .int x6]) (n := 10) (Nat.le_of_ble_eq_true rfl)
  rw [lg_entry_eq]
  generalize (lg_sl ([.ref mo, .int x1, .int x2, .int x3, .int x4, .int x5, .int x6]) ++ List.replicate (10 - (lg_sl ([.ref mo, .int x1, .int x2, .int x3, .int x4, .int x5, .int x6])).length) Slot.unset).toArray = ls at hl ⊢
  have hl : lv_has ls 10 [(0, .ref mo), (1, .int x1), (2, .int x2), (3, .int x3), (4, .int x4), (5, .int x5), (6, .int x6)] := hl
  refine lv_aload_n hx hb dX17_time_0 rfl (lv_at hl 0 rfl) ?_
  refine lv_iload_n hx hb dX17_time_1 rfl (lv_at hl 1 rfl) ?_
  refine lv_iload_n hx hb dX17_time_2 rfl (lv_at hl 3 rfl) ?_
  have hPc := hP.sub (ws' := [(mo, .inr (23, [.int th, .ref b0, .ref b1, .ref b2, .ref b3, .int 0, .int 0, .long 0])), (b2, .inr (5, [.int 0, .ref dz, .int 0]))]) [0, 1] rfl
  have hDc := hD.sub (ws' := [(mo, .inr (23, [.int th, .ref b0, .ref b1, .ref b2, .ref b3, .int 0, .int 0, .long 0])), (b2, .inr (5, [.int 0, .ref dz, .int 0]))]) [0, 1] (by decide) rfl
  have hKc := hK.sub (tys' := []) [] rfl
  have hFc := va_free (wc := [(mo, .inr (23, [.int th, .ref b0, .ref b1, .ref b2, .ref b3, .int 0, .int 0, .long 0])), (b2, .inr (5, [.int 0, .ref dz, .int 0]))]) hD hS hA [0, 1] rfl
  refine va_calli (va_runV (As := [.int x1, .int x3]) (rest := []) ⟨hx, hb, hml, hown, hts⟩ (cm_noPair l hst D s.heap.size mo b0 b1 b2 b3 dz th x1 x3) (cwV 2 hts (goodIn_app (goodIn_of _ (by decide +kernel)) (goodIn_sub (fun _ h => List.mem_cons_of_mem _ (List.mem_append_right _ (List.mem_append_left _ h))) zX17_noPair_ws_good)) rfl rfl rfl (by decide +kernel) ⟨Nat.le_of_ble_eq_true rfl, Nat.le_of_ble_eq_true rfl⟩) ⟨zPre.blind, va_recv hKc hPc (ci := 23) (q0 := 0) rfl rfl, zPre.mk hPc hKc hDc hz hS (fun q h => hFc q h)⟩ rfl rfl hl.1 rfl (lv_room (Nat.le_of_ble_eq_true rfl)) dX17_time_3 ⟨Nat.le_of_ble_eq_true rfl, Nat.le_of_ble_eq_true rfl⟩) hS (fun q _ h => hFc q h) (fun q h => hFc q h) (fun r9 u t H1 locs ht9 hvm hw hB hz1 hk1 hS => ?_)
  refine W.widen (k := 0) (n := 0) (by omega) (by omega) ?_
  obtain ⟨hP1, hK1, hD1⟩ := hB
  rw [ht9] at hP1
  have hK1 := va_K.moved hvm.symm hK1
  obtain ⟨hP, hD⟩ := va_join (wr := []) (w1 := [(mo, .inr (23, [.int 1, .ref b0, .ref b1, .ref b2, .ref b3, .int 0, .int 0, .long 0])), (b2, .inr (5, [.int 0, .ref dz, .int 0]))]) hP hD [0, 1] [] rfl rfl (by decide) (by decide) hk1 hFc hP1 hD1
  have hK := (hK.sub (tys' := []) [] rfl).app hK1
  generalize H1 = H at hP hS ⊢
  have hP : va_P D vwCl [(mo, .inr (23, [.int 1, .ref b0, .ref b1, .ref b2, .ref b3, .int 0, .int 0, .long 0])), (b2, .inr (5, [.int 0, .ref dz, .int 0]))] H := hP
  have hD : va_D A [(mo, .inr (23, [.int 1, .ref b0, .ref b1, .ref b2, .ref b3, .int 0, .int 0, .long 0])), (b2, .inr (5, [.int 0, .ref dz, .int 0]))] := hD
  have hK : va_K D vwCl [] s := hK
  subst hw
  refine lv_if_eq (tgt := 11) hx hb dX17_time_6 (by decide) (fun c => absurd c (by decide)) (fun _ => ?_)
  refine lv_iconst (v := 0) hx hb dX17_time_9 (by decide) ?_
  have hP9 := hP.sub (ws' := [(mo, .inr (23, [.int 1, .ref b0, .ref b1, .ref b2, .ref b3, .int 0, .int 0, .long 0])), (b2, .inr (5, [.int 0, .ref dz, .int 0]))]) [0, 1] rfl
  have hD9 := hD.sub (ws' := [(mo, .inr (23, [.int 1, .ref b0, .ref b1, .ref b2, .ref b3, .int 0, .int 0, .long 0])), (b2, .inr (5, [.int 0, .ref dz, .int 0]))]) [0, 1] (by decide) rfl
  have hK9 := hK.sub (tys' := []) [] rfl
  rw [← hAe] at hD9
  refine W.widen (k := 0) (n := 0) (by omega) (by omega) ?_
  subst hAe
  exact W.iret (v := 0) hx hb hr (fun t ht9 hW => ⟨⟨0, (), rfl, rfl, ⟨by rw [ht9]; exact hP9, va_K.moved hW.alike hK9, hD9⟩⟩, hS.F ht9⟩) hS.2.2 dX17_time_10

def zX17_react_ws : List Cond := .code yX17_react cX17_react 7 (some .boolean) :: ([.methodLink RX17 95 yX17_noPair, .instanceMethod yX17_noPair, .selects RX17 yX17_noPair yX17_noPair, .initialized RX17] ++ (zX17_noPair_ws ++ ([])))
theorem zX17_react_ws_good : zX17_react_ws.all goodWord = true := by decide +kernel
set_option maxHeartbeats 4000000 in
set_option maxRecDepth 100000 in
/-- the reference refuses react -/
theorem cm_react (l : Launch) (hst : l.stackTraces = false) (D : va_G) (sz : Nat) (mo b0 b1 b2 b3 dz : Nat) (th : Int32) (x1 x2 x3 x4 : Int32) : Met l yX17_react zX17_react_ws (zR 4 0 0) (zPre [.ref mo, .int x1, .int x2, .int x3, .int x4] D [(mo, .inr (23, [.int th, .ref b0, .ref b1, .ref b2, .ref b3, .int 0, .int 0, .long 0])), (b2, .inr (5, [.int 0, .ref dz, .int 0]))] [] (va_A [(mo, .inr (23, [.int th, .ref b0, .ref b1, .ref b2, .ref b3, .int 0, .int 0, .long 0])), (b2, .inr (5, [.int 0, .ref dz, .int 0]))] sz) sz) (va_Qi (S := Unit) (fun r _ => r = 0) (fun _ t => zAt D [(mo, .inr (23, [.int 1, .ref b0, .ref b1, .ref b2, .ref b3, .int 0, .int 0, .long 0])), (b2, .inr (5, [.int 0, .ref dz, .int 0]))] [] (va_A [(mo, .inr (23, [.int th, .ref b0, .ref b1, .ref b2, .ref b3, .int 0, .int 0, .long 0])), (b2, .inr (5, [.int 0, .ref dz, .int 0]))] sz) t) (va_A [(mo, .inr (23, [.int th, .ref b0, .ref b1, .ref b2, .ref b3, .int 0, .int 0, .long 0])), (b2, .inr (5, [.int 0, .ref dz, .int 0]))] sz)) 0 0 (va_A [(mo, .inr (23, [.int th, .ref b0, .ref b1, .ref b2, .ref b3, .int 0, .int 0, .long 0])), (b2, .inr (5, [.int 0, .ref dz, .int 0]))] sz) := by
  refine Met.ofW (cc := cX17_react) (maxL := 7) (ret := (some .boolean)) (by decide) rfl ?_
  intro p e s m args below meth c s₁ B hml hv
  obtain ⟨rfl, hsz, hP, hK, hD0, hz⟩ := hv
  have hx := B.exec
  have hb := B.bytes
  have hr := B.returns
  have hts := atoms_spec (ws := zX17_react_ws) B.pre
  have hown : s.vm.findClass RX17 = some m.cls := findClass_of_methodNamed B.named
  have hlocks := B.notSynchronized
  subst hsz
  have hD := hD0.self (sz := s.heap.size)
  generalize hAe : va_A [(mo, .inr (23, [.int th, .ref b0, .ref b1, .ref b2, .ref b3, .int 0, .int 0, .long 0])), (b2, .inr (5, [.int 0, .ref dz, .int 0]))] s.heap.size = A at hD hz ⊢
  have hA : ∀ q : Nat, s.heap.size ≤ q → A q := fun q h => by rw [← hAe]; exact Or.inr h
  have hS : va_S A s.heap s.heap [] := va_S.rf
  have hP : va_P D vwCl [(mo, .inr (23, [.int th, .ref b0, .ref b1, .ref b2, .ref b3, .int 0, .int 0, .long 0])), (b2, .inr (5, [.int 0, .ref dz, .int 0]))] s.heap := hP
  have hl := lv_entry ([.ref mo, .int x1, .int x2, .int x3, .int x4]) (n := 7) (Nat.le_of_ble_eq_true rfl)
  rw [lg_entry_eq]
  generalize (lg_sl ([.ref mo, .int x1, .int x2, .int x3, .int x4]) ++ List.replicate (7 - (lg_sl ([.ref mo, .int x1, .int x2, .int x3, .int x4])).length) Slot.unset).toArray = ls at hl ⊢
  have hl : lv_has ls 7 [(0, .ref mo), (1, .int x1), (2, .int x2), (3, .int x3), (4, .int x4)] := hl
  refine lv_aload_n hx hb dX17_react_0 rfl (lv_at hl 0 rfl) ?_
  refine lv_iload_n hx hb dX17_react_1 rfl (lv_at hl 1 rfl) ?_
  refine lv_iload_n hx hb dX17_react_2 rfl (lv_at hl 3 rfl) ?_
  have hPc := hP.sub (ws' := [(mo, .inr (23, [.int th, .ref b0, .ref b1, .ref b2, .ref b3, .int 0, .int 0, .long 0])), (b2, .inr (5, [.int 0, .ref dz, .int 0]))]) [0, 1] rfl
  have hDc := hD.sub (ws' := [(mo, .inr (23, [.int th, .ref b0, .ref b1, .ref b2, .ref b3, .int 0, .int 0, .long 0])), (b2, .inr (5, [.int 0, .ref dz, .int 0]))]) [0, 1] (by decide) rfl
  have hKc := hK.sub (tys' := []) [] rfl
  have hFc := va_free (wc := [(mo, .inr (23, [.int th, .ref b0, .ref b1, .ref b2, .ref b3, .int 0, .int 0, .long 0])), (b2, .inr (5, [.int 0, .ref dz, .int 0]))]) hD hS hA [0, 1] rfl
  refine va_calli (va_runV (As := [.int x1, .int x3]) (rest := []) ⟨hx, hb, hml, hown, hts⟩ (cm_noPair l hst D s.heap.size mo b0 b1 b2 b3 dz th x1 x3) (cwV 2 hts (goodIn_app (goodIn_of _ (by decide +kernel)) (goodIn_sub (fun _ h => List.mem_cons_of_mem _ (List.mem_append_right _ (List.mem_append_left _ h))) zX17_noPair_ws_good)) rfl rfl rfl (by decide +kernel) ⟨Nat.le_of_ble_eq_true rfl, Nat.le_of_ble_eq_true rfl⟩) ⟨zPre.blind, va_recv hKc hPc (ci := 23) (q0 := 0) rfl rfl, zPre.mk hPc hKc hDc hz hS (fun q h => hFc q h)⟩ rfl rfl hl.1 rfl (lv_room (Nat.le_of_ble_eq_true rfl)) dX17_react_3 ⟨Nat.le_of_ble_eq_true rfl, Nat.le_of_ble_eq_true rfl⟩) hS (fun q _ h => hFc q h) (fun q h => hFc q h) (fun r9 u t H1 locs ht9 hvm hw hB hz1 hk1 hS => ?_)
  refine W.widen (k := 0) (n := 0) (by omega) (by omega) ?_
  obtain ⟨hP1, hK1, hD1⟩ := hB
  rw [ht9] at hP1
  have hK1 := va_K.moved hvm.symm hK1
  obtain ⟨hP, hD⟩ := va_join (wr := []) (w1 := [(mo, .inr (23, [.int 1, .ref b0, .ref b1, .ref b2, .ref b3, .int 0, .int 0, .long 0])), (b2, .inr (5, [.int 0, .ref dz, .int 0]))]) hP hD [0, 1] [] rfl rfl (by decide) (by decide) hk1 hFc hP1 hD1
  have hK := (hK.sub (tys' := []) [] rfl).app hK1
  generalize H1 = H at hP hS ⊢
  have hP : va_P D vwCl [(mo, .inr (23, [.int 1, .ref b0, .ref b1, .ref b2, .ref b3, .int 0, .int 0, .long 0])), (b2, .inr (5, [.int 0, .ref dz, .int 0]))] H := hP
  have hD : va_D A [(mo, .inr (23, [.int 1, .ref b0, .ref b1, .ref b2, .ref b3, .int 0, .int 0, .long 0])), (b2, .inr (5, [.int 0, .ref dz, .int 0]))] := hD
  have hK : va_K D vwCl [] s := hK
  subst hw
  refine lv_if_eq (tgt := 11) hx hb dX17_react_6 (by decide) (fun c => absurd c (by decide)) (fun _ => ?_)
  refine lv_iconst (v := 0) hx hb dX17_react_9 (by decide) ?_
  have hP9 := hP.sub (ws' := [(mo, .inr (23, [.int 1, .ref b0, .ref b1, .ref b2, .ref b3, .int 0, .int 0, .long 0])), (b2, .inr (5, [.int 0, .ref dz, .int 0]))]) [0, 1] rfl
  have hD9 := hD.sub (ws' := [(mo, .inr (23, [.int 1, .ref b0, .ref b1, .ref b2, .ref b3, .int 0, .int 0, .long 0])), (b2, .inr (5, [.int 0, .ref dz, .int 0]))]) [0, 1] (by decide) rfl
  have hK9 := hK.sub (tys' := []) [] rfl
  rw [← hAe] at hD9
  refine W.widen (k := 0) (n := 0) (by omega) (by omega) ?_
  subst hAe
  exact W.zret (v := 0) hx hb hr rfl (fun t ht9 hW => ⟨⟨0, (), rfl, rfl, ⟨by rw [ht9]; exact hP9, va_K.moved hW.alike hK9, hD9⟩⟩, hS.F ht9⟩) hS.2.2 dX17_react_10

def zX17_putOut_ws : List Cond := .code yX17_putOut cX17_putOut 6 (some .boolean) :: ([.methodLink RX17 210 yX17_race, .instanceMethod yX17_race, .selects RX17 yX17_race yX17_race, .initialized RX17] ++ (zX17_race_ws ++ ([])))
theorem zX17_putOut_ws_good : zX17_putOut_ws.all goodWord = true := by decide +kernel
set_option maxHeartbeats 4000000 in
set_option maxRecDepth 100000 in
/-- the reference refuses putOut -/
theorem cm_putOut (l : Launch) (hst : l.stackTraces = false) (D : va_G) (sz : Nat) (mo b0 b1 b2 b3 dz : Nat) (th : Int32) (x1 x2 x3 : Int32) : Met l yX17_putOut zX17_putOut_ws (zR 4 0 0) (zPre [.ref mo, .int x1, .int x2, .int x3] D [(mo, .inr (23, [.int th, .ref b0, .ref b1, .ref b2, .ref b3, .int 0, .int 0, .long 0])), (b2, .inr (5, [.int 0, .ref dz, .int 0]))] [] (va_A [(mo, .inr (23, [.int th, .ref b0, .ref b1, .ref b2, .ref b3, .int 0, .int 0, .long 0])), (b2, .inr (5, [.int 0, .ref dz, .int 0]))] sz) sz) (va_Qi (S := Unit) (fun r _ => r = 0) (fun _ t => zAt D [(mo, .inr (23, [.int 1, .ref b0, .ref b1, .ref b2, .ref b3, .int 0, .int 0, .long 0])), (b2, .inr (5, [.int 0, .ref dz, .int 0]))] [] (va_A [(mo, .inr (23, [.int th, .ref b0, .ref b1, .ref b2, .ref b3, .int 0, .int 0, .long 0])), (b2, .inr (5, [.int 0, .ref dz, .int 0]))] sz) t) (va_A [(mo, .inr (23, [.int th, .ref b0, .ref b1, .ref b2, .ref b3, .int 0, .int 0, .long 0])), (b2, .inr (5, [.int 0, .ref dz, .int 0]))] sz)) 0 0 (va_A [(mo, .inr (23, [.int th, .ref b0, .ref b1, .ref b2, .ref b3, .int 0, .int 0, .long 0])), (b2, .inr (5, [.int 0, .ref dz, .int 0]))] sz) := by
  refine Met.ofW (cc := cX17_putOut) (maxL := 6) (ret := (some .boolean)) (by decide) rfl ?_
  intro p e s m args below meth c s₁ B hml hv
  obtain ⟨rfl, hsz, hP, hK, hD0, hz⟩ := hv
  have hx := B.exec
  have hb := B.bytes
  have hr := B.returns
  have hts := atoms_spec (ws := zX17_putOut_ws) B.pre
  have hown : s.vm.findClass RX17 = some m.cls := findClass_of_methodNamed B.named
  have hlocks := B.notSynchronized
  subst hsz
  have hD := hD0.self (sz := s.heap.size)
  generalize hAe : va_A [(mo, .inr (23, [.int th, .ref b0, .ref b1, .ref b2, .ref b3, .int 0, .int 0, .long 0])), (b2, .inr (5, [.int 0, .ref dz, .int 0]))] s.heap.size = A at hD hz ⊢
  have hA : ∀ q : Nat, s.heap.size ≤ q → A q := fun q h => by rw [← hAe]; exact Or.inr h
  have hS : va_S A s.heap s.heap [] := va_S.rf
  have hP : va_P D vwCl [(mo, .inr (23, [.int th, .ref b0, .ref b1, .ref b2, .ref b3, .int 0, .int 0, .long 0])), (b2, .inr (5, [.int 0, .ref dz, .int 0]))] s.heap := hP
  have hl := lv_entry ([.ref mo, .int x1, .int x2, .int x3]) (n := 6) (Nat.le_of_ble_eq_true rfl)
  rw [lg_entry_eq]
  generalize (lg_sl ([.ref mo, .int x1, .int x2, .int x3]) ++ List.replicate (6 - (lg_sl ([.ref mo, .int x1, .int x2, .int x3])).length) Slot.unset).toArray = ls at hl ⊢
  have hl : lv_has ls 6 [(0, .ref mo), (1, .int x1), (2, .int x2), (3, .int x3)] := hl
  refine lv_aload_n hx hb dX17_putOut_0 rfl (lv_at hl 0 rfl) ?_
  refine lv_iload_n hx hb dX17_putOut_1 rfl (lv_at hl 1 rfl) ?_
  refine lv_iload_n hx hb dX17_putOut_2 rfl (lv_at hl 3 rfl) ?_
  refine lv_iload_n hx hb dX17_putOut_3 rfl (lv_at hl 2 rfl) ?_
  have hPc := hP.sub (ws' := [(mo, .inr (23, [.int th, .ref b0, .ref b1, .ref b2, .ref b3, .int 0, .int 0, .long 0])), (b2, .inr (5, [.int 0, .ref dz, .int 0]))]) [0, 1] rfl
  have hDc := hD.sub (ws' := [(mo, .inr (23, [.int th, .ref b0, .ref b1, .ref b2, .ref b3, .int 0, .int 0, .long 0])), (b2, .inr (5, [.int 0, .ref dz, .int 0]))]) [0, 1] (by decide) rfl
  have hKc := hK.sub (tys' := []) [] rfl
  have hFc := va_free (wc := [(mo, .inr (23, [.int th, .ref b0, .ref b1, .ref b2, .ref b3, .int 0, .int 0, .long 0])), (b2, .inr (5, [.int 0, .ref dz, .int 0]))]) hD hS hA [0, 1] rfl
  refine va_callq (va_runV (As := [.int x1, .int x3, .int x2]) (rest := []) ⟨hx, hb, hml, hown, hts⟩ (cm_race l hst D s.heap.size mo b0 b1 b2 b3 dz th x1 x3 x2) (cwV 3 hts (goodIn_app (goodIn_of _ (by decide +kernel)) (goodIn_sub (fun _ h => List.mem_cons_of_mem _ (List.mem_append_right _ (List.mem_append_left _ h))) zX17_race_ws_good)) rfl rfl rfl (by decide +kernel) ⟨Nat.le_of_ble_eq_true rfl, Nat.le_of_ble_eq_true rfl⟩) ⟨zPre.blind, va_recv hKc hPc (ci := 23) (q0 := 0) rfl rfl, zPre.mk hPc hKc hDc hz hS (fun q h => hFc q h)⟩ rfl rfl hl.1 rfl (lv_room (Nat.le_of_ble_eq_true rfl)) dX17_putOut_4 ⟨Nat.le_of_ble_eq_true rfl, Nat.le_of_ble_eq_true rfl⟩) hS (fun q _ h => hFc q h) (fun q h => hFc q h) (fun r9 u t H1 locs ht9 hvm hw hB hz1 hk1 hS => ?_)
  refine W.widen (k := 0) (n := 0) (by omega) (by omega) ?_
  obtain ⟨hP1, hK1, hD1⟩ := hB
  rw [ht9] at hP1
  have hK1 := va_K.moved hvm.symm hK1
  obtain ⟨hP, hD⟩ := va_join (wr := []) (w1 := [(mo, .inr (23, [.int 1, .ref b0, .ref b1, .ref b2, .ref b3, .int 0, .int 0, .long 0])), (b2, .inr (5, [.int 0, .ref dz, .int 0]))]) hP hD [0, 1] [] rfl rfl (by decide) (by decide) hk1 hFc hP1 hD1
  have hK := (hK.sub (tys' := []) [] rfl).app hK1
  generalize H1 = H at hP hS ⊢
  have hP : va_P D vwCl [(mo, .inr (23, [.int 1, .ref b0, .ref b1, .ref b2, .ref b3, .int 0, .int 0, .long 0])), (b2, .inr (5, [.int 0, .ref dz, .int 0]))] H := hP
  have hD : va_D A [(mo, .inr (23, [.int 1, .ref b0, .ref b1, .ref b2, .ref b3, .int 0, .int 0, .long 0])), (b2, .inr (5, [.int 0, .ref dz, .int 0]))] := hD
  have hK : va_K D vwCl [] s := hK
  subst hw
  refine lv_astoreN (lv' := [(4, .null), (0, .ref mo), (1, .int x1), (2, .int x2), (3, .int x3)]) hx hb dX17_putOut_7 hl (by decide) rfl (fun ls hl => ?_)
  refine lv_aloadN hx hb dX17_putOut_9 (lv_at hl 0 rfl) ?_
  refine lv_ifnonnullN hx hb dX17_putOut_11 ?_
  refine lv_iconst (v := 0) hx hb dX17_putOut_14 (by decide) ?_
  have hP9 := hP.sub (ws' := [(mo, .inr (23, [.int 1, .ref b0, .ref b1, .ref b2, .ref b3, .int 0, .int 0, .long 0])), (b2, .inr (5, [.int 0, .ref dz, .int 0]))]) [0, 1] rfl
  have hD9 := hD.sub (ws' := [(mo, .inr (23, [.int 1, .ref b0, .ref b1, .ref b2, .ref b3, .int 0, .int 0, .long 0])), (b2, .inr (5, [.int 0, .ref dz, .int 0]))]) [0, 1] (by decide) rfl
  have hK9 := hK.sub (tys' := []) [] rfl
  rw [← hAe] at hD9
  refine W.widen (k := 0) (n := 0) (by omega) (by omega) ?_
  subst hAe
  exact W.zret (v := 0) hx hb hr rfl (fun t ht9 hW => ⟨⟨0, (), rfl, rfl, ⟨by rw [ht9]; exact hP9, va_K.moved hW.alike hK9, hD9⟩⟩, hS.F ht9⟩) hS.2.2 dX17_putOut_15

def zX17_isOut_ws : List Cond := .code yX17_isOut cX17_isOut 5 (some .boolean) :: ([.methodLink RX17 210 yX17_race, .instanceMethod yX17_race, .selects RX17 yX17_race yX17_race, .initialized RX17] ++ (zX17_race_ws ++ ([])))
theorem zX17_isOut_ws_good : zX17_isOut_ws.all goodWord = true := by decide +kernel
set_option maxHeartbeats 4000000 in
set_option maxRecDepth 100000 in
/-- the reference refuses isOut -/
theorem cm_isOut (l : Launch) (hst : l.stackTraces = false) (D : va_G) (sz : Nat) (mo b0 b1 b2 b3 dz : Nat) (th : Int32) (x1 x2 x3 : Int32) : Met l yX17_isOut zX17_isOut_ws (zR 4 0 0) (zPre [.ref mo, .int x1, .int x2, .int x3] D [(mo, .inr (23, [.int th, .ref b0, .ref b1, .ref b2, .ref b3, .int 0, .int 0, .long 0])), (b2, .inr (5, [.int 0, .ref dz, .int 0]))] [] (va_A [(mo, .inr (23, [.int th, .ref b0, .ref b1, .ref b2, .ref b3, .int 0, .int 0, .long 0])), (b2, .inr (5, [.int 0, .ref dz, .int 0]))] sz) sz) (va_Qi (S := Unit) (fun r _ => r = 0) (fun _ t => zAt D [(mo, .inr (23, [.int 1, .ref b0, .ref b1, .ref b2, .ref b3, .int 0, .int 0, .long 0])), (b2, .inr (5, [.int 0, .ref dz, .int 0]))] [] (va_A [(mo, .inr (23, [.int th, .ref b0, .ref b1, .ref b2, .ref b3, .int 0, .int 0, .long 0])), (b2, .inr (5, [.int 0, .ref dz, .int 0]))] sz) t) (va_A [(mo, .inr (23, [.int th, .ref b0, .ref b1, .ref b2, .ref b3, .int 0, .int 0, .long 0])), (b2, .inr (5, [.int 0, .ref dz, .int 0]))] sz)) 0 0 (va_A [(mo, .inr (23, [.int th, .ref b0, .ref b1, .ref b2, .ref b3, .int 0, .int 0, .long 0])), (b2, .inr (5, [.int 0, .ref dz, .int 0]))] sz) := by
  refine Met.ofW (cc := cX17_isOut) (maxL := 5) (ret := (some .boolean)) (by decide) rfl ?_
  intro p e s m args below meth c s₁ B hml hv
  obtain ⟨rfl, hsz, hP, hK, hD0, hz⟩ := hv
  have hx := B.exec
  have hb := B.bytes
  have hr := B.returns
  have hts := atoms_spec (ws := zX17_isOut_ws) B.pre
  have hown : s.vm.findClass RX17 = some m.cls := findClass_of_methodNamed B.named
  have hlocks := B.notSynchronized
  subst hsz
  have hD := hD0.self (sz := s.heap.size)
  generalize hAe : va_A [(mo, .inr (23, [.int th, .ref b0, .ref b1, .ref b2, .ref b3, .int 0, .int 0, .long 0])), (b2, .inr (5, [.int 0, .ref dz, .int 0]))] s.heap.size = A at hD hz ⊢
  have hA : ∀ q : Nat, s.heap.size ≤ q → A q := fun q h => by rw [← hAe]; exact Or.inr h
  have hS : va_S A s.heap s.heap [] := va_S.rf
  have hP : va_P D vwCl [(mo, .inr (23, [.int th, .ref b0, .ref b1, .ref b2, .ref b3, .int 0, .int 0, .long 0])), (b2, .inr (5, [.int 0, .ref dz, .int 0]))] s.heap := hP
  have hl := lv_entry ([.ref mo, .int x1, .int x2, .int x3]) (n := 5) (Nat.le_of_ble_eq_true rfl)
  rw [lg_entry_eq]
  generalize (lg_sl ([.ref mo, .int x1, .int x2, .int x3]) ++ List.replicate (5 - (lg_sl ([.ref mo, .int x1, .int x2, .int x3])).length) Slot.unset).toArray = ls at hl ⊢
  have hl : lv_has ls 5 [(0, .ref mo), (1, .int x1), (2, .int x2), (3, .int x3)] := hl
  refine lv_aload_n hx hb dX17_isOut_0 rfl (lv_at hl 0 rfl) ?_
  refine lv_iload_n hx hb dX17_isOut_1 rfl (lv_at hl 1 rfl) ?_
  refine lv_iload_n hx hb dX17_isOut_2 rfl (lv_at hl 3 rfl) ?_
  refine lv_iload_n hx hb dX17_isOut_3 rfl (lv_at hl 2 rfl) ?_
  have hPc := hP.sub (ws' := [(mo, .inr (23, [.int th, .ref b0, .ref b1, .ref b2, .ref b3, .int 0, .int 0, .long 0])), (b2, .inr (5, [.int 0, .ref dz, .int 0]))]) [0, 1] rfl
  have hDc := hD.sub (ws' := [(mo, .inr (23, [.int th, .ref b0, .ref b1, .ref b2, .ref b3, .int 0, .int 0, .long 0])), (b2, .inr (5, [.int 0, .ref dz, .int 0]))]) [0, 1] (by decide) rfl
  have hKc := hK.sub (tys' := []) [] rfl
  have hFc := va_free (wc := [(mo, .inr (23, [.int th, .ref b0, .ref b1, .ref b2, .ref b3, .int 0, .int 0, .long 0])), (b2, .inr (5, [.int 0, .ref dz, .int 0]))]) hD hS hA [0, 1] rfl
  refine va_callq (va_runV (As := [.int x1, .int x3, .int x2]) (rest := []) ⟨hx, hb, hml, hown, hts⟩ (cm_race l hst D s.heap.size mo b0 b1 b2 b3 dz th x1 x3 x2) (cwV 3 hts (goodIn_app (goodIn_of _ (by decide +kernel)) (goodIn_sub (fun _ h => List.mem_cons_of_mem _ (List.mem_append_right _ (List.mem_append_left _ h))) zX17_race_ws_good)) rfl rfl rfl (by decide +kernel) ⟨Nat.le_of_ble_eq_true rfl, Nat.le_of_ble_eq_true rfl⟩) ⟨zPre.blind, va_recv hKc hPc (ci := 23) (q0 := 0) rfl rfl, zPre.mk hPc hKc hDc hz hS (fun q h => hFc q h)⟩ rfl rfl hl.1 rfl (lv_room (Nat.le_of_ble_eq_true rfl)) dX17_isOut_4 ⟨Nat.le_of_ble_eq_true rfl, Nat.le_of_ble_eq_true rfl⟩) hS (fun q _ h => hFc q h) (fun q h => hFc q h) (fun r9 u t H1 locs ht9 hvm hw hB hz1 hk1 hS => ?_)
  refine W.widen (k := 0) (n := 0) (by omega) (by omega) ?_
  obtain ⟨hP1, hK1, hD1⟩ := hB
  rw [ht9] at hP1
  have hK1 := va_K.moved hvm.symm hK1
  obtain ⟨hP, hD⟩ := va_join (wr := []) (w1 := [(mo, .inr (23, [.int 1, .ref b0, .ref b1, .ref b2, .ref b3, .int 0, .int 0, .long 0])), (b2, .inr (5, [.int 0, .ref dz, .int 0]))]) hP hD [0, 1] [] rfl rfl (by decide) (by decide) hk1 hFc hP1 hD1
  have hK := (hK.sub (tys' := []) [] rfl).app hK1
  generalize H1 = H at hP hS ⊢
  have hP : va_P D vwCl [(mo, .inr (23, [.int 1, .ref b0, .ref b1, .ref b2, .ref b3, .int 0, .int 0, .long 0])), (b2, .inr (5, [.int 0, .ref dz, .int 0]))] H := hP
  have hD : va_D A [(mo, .inr (23, [.int 1, .ref b0, .ref b1, .ref b2, .ref b3, .int 0, .int 0, .long 0])), (b2, .inr (5, [.int 0, .ref dz, .int 0]))] := hD
  have hK : va_K D vwCl [] s := hK
  subst hw
  refine lv_astoreN (lv' := [(4, .null), (0, .ref mo), (1, .int x1), (2, .int x2), (3, .int x3)]) hx hb dX17_isOut_7 hl (by decide) rfl (fun ls hl => ?_)
  refine lv_aloadN hx hb dX17_isOut_9 (lv_at hl 0 rfl) ?_
  refine lv_ifnullN (tgt := 32) hx hb dX17_isOut_11 (by decide) ?_
  refine lv_iconst (v := 0) hx hb dX17_isOut_32 (by decide) ?_
  have hP9 := hP.sub (ws' := [(mo, .inr (23, [.int 1, .ref b0, .ref b1, .ref b2, .ref b3, .int 0, .int 0, .long 0])), (b2, .inr (5, [.int 0, .ref dz, .int 0]))]) [0, 1] rfl
  have hD9 := hD.sub (ws' := [(mo, .inr (23, [.int 1, .ref b0, .ref b1, .ref b2, .ref b3, .int 0, .int 0, .long 0])), (b2, .inr (5, [.int 0, .ref dz, .int 0]))]) [0, 1] (by decide) rfl
  have hK9 := hK.sub (tys' := []) [] rfl
  rw [← hAe] at hD9
  refine W.widen (k := 0) (n := 0) (by omega) (by omega) ?_
  subst hAe
  exact W.zret (v := 0) hx hb hr rfl (fun t ht9 hW => ⟨⟨0, (), rfl, rfl, ⟨by rw [ht9]; exact hP9, va_K.moved hW.alike hK9, hD9⟩⟩, hS.F ht9⟩) hS.2.2 dX17_isOut_33

def zX17_inFinal_ws : List Cond := .code yX17_inFinal cX17_inFinal 5 (some .int) :: ([.methodLink RX17 146 yX17_noEvent, .instanceMethod yX17_noEvent, .selects RX17 yX17_noEvent yX17_noEvent, .initialized RX17] ++ (zX17_noEvent_ws ++ ([])))
theorem zX17_inFinal_ws_good : zX17_inFinal_ws.all goodWord = true := by decide +kernel
set_option maxHeartbeats 4000000 in
set_option maxRecDepth 100000 in
/-- the reference refuses inFinal -/
theorem cm_inFinal (l : Launch) (hst : l.stackTraces = false) (D : va_G) (sz : Nat) (mo b0 b1 b2 b3 dz : Nat) (th : Int32) (x1 x2 : Int32) : Met l yX17_inFinal zX17_inFinal_ws (zR 4 0 0) (zPre [.ref mo, .int x1, .int x2] D [(mo, .inr (23, [.int th, .ref b0, .ref b1, .ref b2, .ref b3, .int 0, .int 0, .long 0])), (b2, .inr (5, [.int 0, .ref dz, .int 0]))] [] (va_A [(mo, .inr (23, [.int th, .ref b0, .ref b1, .ref b2, .ref b3, .int 0, .int 0, .long 0])), (b2, .inr (5, [.int 0, .ref dz, .int 0]))] sz) sz) (va_Qi (S := Unit) (fun r _ => r = 0) (fun _ t => zAt D [(mo, .inr (23, [.int 1, .ref b0, .ref b1, .ref b2, .ref b3, .int 0, .int 0, .long 0])), (b2, .inr (5, [.int 0, .ref dz, .int 0]))] [] (va_A [(mo, .inr (23, [.int th, .ref b0, .ref b1, .ref b2, .ref b3, .int 0, .int 0, .long 0])), (b2, .inr (5, [.int 0, .ref dz, .int 0]))] sz) t) (va_A [(mo, .inr (23, [.int th, .ref b0, .ref b1, .ref b2, .ref b3, .int 0, .int 0, .long 0])), (b2, .inr (5, [.int 0, .ref dz, .int 0]))] sz)) 0 0 (va_A [(mo, .inr (23, [.int th, .ref b0, .ref b1, .ref b2, .ref b3, .int 0, .int 0, .long 0])), (b2, .inr (5, [.int 0, .ref dz, .int 0]))] sz) := by
  refine Met.ofW (cc := cX17_inFinal) (maxL := 5) (ret := (some .int)) (by decide) rfl ?_
  intro p e s m args below meth c s₁ B hml hv
  obtain ⟨rfl, hsz, hP, hK, hD0, hz⟩ := hv
  have hx := B.exec
  have hb := B.bytes
  have hr := B.returns
  have hts := atoms_spec (ws := zX17_inFinal_ws) B.pre
  have hown : s.vm.findClass RX17 = some m.cls := findClass_of_methodNamed B.named
  have hlocks := B.notSynchronized
  subst hsz
  have hD := hD0.self (sz := s.heap.size)
  generalize hAe : va_A [(mo, .inr (23, [.int th, .ref b0, .ref b1, .ref b2, .ref b3, .int 0, .int 0, .long 0])), (b2, .inr (5, [.int 0, .ref dz, .int 0]))] s.heap.size = A at hD hz ⊢
  have hA : ∀ q : Nat, s.heap.size ≤ q → A q := fun q h => by rw [← hAe]; exact Or.inr h
  have hS : va_S A s.heap s.heap [] := va_S.rf
  have hP : va_P D vwCl [(mo, .inr (23, [.int th, .ref b0, .ref b1, .ref b2, .ref b3, .int 0, .int 0, .long 0])), (b2, .inr (5, [.int 0, .ref dz, .int 0]))] s.heap := hP
  have hl := lv_entry ([.ref mo, .int x1, .int x2]) (n := 5) (Nat.le_of_ble_eq_true rfl)
  rw [lg_entry_eq]
  generalize (lg_sl ([.ref mo, .int x1, .int x2]) ++ List.replicate (5 - (lg_sl ([.ref mo, .int x1, .int x2])).length) Slot.unset).toArray = ls at hl ⊢
  have hl : lv_has ls 5 [(0, .ref mo), (1, .int x1), (2, .int x2)] := hl
  refine lv_aload_n hx hb dX17_inFinal_0 rfl (lv_at hl 0 rfl) ?_
  refine lv_iload_n hx hb dX17_inFinal_1 rfl (lv_at hl 1 rfl) ?_
  have hPc := hP.sub (ws' := [(mo, .inr (23, [.int th, .ref b0, .ref b1, .ref b2, .ref b3, .int 0, .int 0, .long 0])), (b2, .inr (5, [.int 0, .ref dz, .int 0]))]) [0, 1] rfl
  have hDc := hD.sub (ws' := [(mo, .inr (23, [.int th, .ref b0, .ref b1, .ref b2, .ref b3, .int 0, .int 0, .long 0])), (b2, .inr (5, [.int 0, .ref dz, .int 0]))]) [0, 1] (by decide) rfl
  have hKc := hK.sub (tys' := []) [] rfl
  have hFc := va_free (wc := [(mo, .inr (23, [.int th, .ref b0, .ref b1, .ref b2, .ref b3, .int 0, .int 0, .long 0])), (b2, .inr (5, [.int 0, .ref dz, .int 0]))]) hD hS hA [0, 1] rfl
  refine va_calli (va_runV (As := [.int x1]) (rest := []) ⟨hx, hb, hml, hown, hts⟩ (cm_noEvent l hst D s.heap.size mo b0 b1 b2 b3 dz th x1) (cwV 1 hts (goodIn_app (goodIn_of _ (by decide +kernel)) (goodIn_sub (fun _ h => List.mem_cons_of_mem _ (List.mem_append_right _ (List.mem_append_left _ h))) zX17_noEvent_ws_good)) rfl rfl rfl (by decide +kernel) ⟨Nat.le_of_ble_eq_true rfl, Nat.le_of_ble_eq_true rfl⟩) ⟨zPre.blind, va_recv hKc hPc (ci := 23) (q0 := 0) rfl rfl, zPre.mk hPc hKc hDc hz hS (fun q h => hFc q h)⟩ rfl rfl hl.1 rfl (lv_room (Nat.le_of_ble_eq_true rfl)) dX17_inFinal_2 ⟨Nat.le_of_ble_eq_true rfl, Nat.le_of_ble_eq_true rfl⟩) hS (fun q _ h => hFc q h) (fun q h => hFc q h) (fun r9 u t H1 locs ht9 hvm hw hB hz1 hk1 hS => ?_)
  refine W.widen (k := 0) (n := 0) (by omega) (by omega) ?_
  obtain ⟨hP1, hK1, hD1⟩ := hB
  rw [ht9] at hP1
  have hK1 := va_K.moved hvm.symm hK1
  obtain ⟨hP, hD⟩ := va_join (wr := []) (w1 := [(mo, .inr (23, [.int 1, .ref b0, .ref b1, .ref b2, .ref b3, .int 0, .int 0, .long 0])), (b2, .inr (5, [.int 0, .ref dz, .int 0]))]) hP hD [0, 1] [] rfl rfl (by decide) (by decide) hk1 hFc hP1 hD1
  have hK := (hK.sub (tys' := []) [] rfl).app hK1
  generalize H1 = H at hP hS ⊢
  have hP : va_P D vwCl [(mo, .inr (23, [.int 1, .ref b0, .ref b1, .ref b2, .ref b3, .int 0, .int 0, .long 0])), (b2, .inr (5, [.int 0, .ref dz, .int 0]))] H := hP
  have hD : va_D A [(mo, .inr (23, [.int 1, .ref b0, .ref b1, .ref b2, .ref b3, .int 0, .int 0, .long 0])), (b2, .inr (5, [.int 0, .ref dz, .int 0]))] := hD
  have hK : va_K D vwCl [] s := hK
  subst hw
  refine lv_if_eq (tgt := 10) hx hb dX17_inFinal_5 (by decide) (fun c => absurd c (by decide)) (fun _ => ?_)
  refine lv_iconst (v := 0) hx hb dX17_inFinal_8 (by decide) ?_
  have hP9 := hP.sub (ws' := [(mo, .inr (23, [.int 1, .ref b0, .ref b1, .ref b2, .ref b3, .int 0, .int 0, .long 0])), (b2, .inr (5, [.int 0, .ref dz, .int 0]))]) [0, 1] rfl
  have hD9 := hD.sub (ws' := [(mo, .inr (23, [.int 1, .ref b0, .ref b1, .ref b2, .ref b3, .int 0, .int 0, .long 0])), (b2, .inr (5, [.int 0, .ref dz, .int 0]))]) [0, 1] (by decide) rfl
  have hK9 := hK.sub (tys' := []) [] rfl
  rw [← hAe] at hD9
  refine W.widen (k := 0) (n := 0) (by omega) (by omega) ?_
  subst hAe
  exact W.iret (v := 0) hx hb hr (fun t ht9 hW => ⟨⟨0, (), rfl, rfl, ⟨by rw [ht9]; exact hP9, va_K.moved hW.alike hK9, hD9⟩⟩, hS.F ht9⟩) hS.2.2 dX17_inFinal_9

def zX17_bar_ws : List Cond := .code yX17_bar cX17_bar 6 (some .int) :: ([.methodLink RX17 146 yX17_noEvent, .instanceMethod yX17_noEvent, .selects RX17 yX17_noEvent yX17_noEvent, .initialized RX17] ++ (zX17_noEvent_ws ++ ([])))
theorem zX17_bar_ws_good : zX17_bar_ws.all goodWord = true := by decide +kernel
set_option maxHeartbeats 4000000 in
set_option maxRecDepth 100000 in
/-- the reference refuses bar -/
theorem cm_bar (l : Launch) (hst : l.stackTraces = false) (D : va_G) (sz : Nat) (mo b0 b1 b2 b3 dz : Nat) (th : Int32) (x1 x2 : Int32) : Met l yX17_bar zX17_bar_ws (zR 4 0 0) (zPre [.ref mo, .int x1, .int x2] D [(mo, .inr (23, [.int th, .ref b0, .ref b1, .ref b2, .ref b3, .int 0, .int 0, .long 0])), (b2, .inr (5, [.int 0, .ref dz, .int 0]))] [] (va_A [(mo, .inr (23, [.int th, .ref b0, .ref b1, .ref b2, .ref b3, .int 0, .int 0, .long 0])), (b2, .inr (5, [.int 0, .ref dz, .int 0]))] sz) sz) (va_Qi (S := Unit) (fun r _ => r = 0) (fun _ t => zAt D [(mo, .inr (23, [.int 1, .ref b0, .ref b1, .ref b2, .ref b3, .int 0, .int 0, .long 0])), (b2, .inr (5, [.int 0, .ref dz, .int 0]))] [] (va_A [(mo, .inr (23, [.int th, .ref b0, .ref b1, .ref b2, .ref b3, .int 0, .int 0, .long 0])), (b2, .inr (5, [.int 0, .ref dz, .int 0]))] sz) t) (va_A [(mo, .inr (23, [.int th, .ref b0, .ref b1, .ref b2, .ref b3, .int 0, .int 0, .long 0])), (b2, .inr (5, [.int 0, .ref dz, .int 0]))] sz)) 0 0 (va_A [(mo, .inr (23, [.int th, .ref b0, .ref b1, .ref b2, .ref b3, .int 0, .int 0, .long 0])), (b2, .inr (5, [.int 0, .ref dz, .int 0]))] sz) := by
  refine Met.ofW (cc := cX17_bar) (maxL := 6) (ret := (some .int)) (by decide) rfl ?_
  intro p e s m args below meth c s₁ B hml hv
  obtain ⟨rfl, hsz, hP, hK, hD0, hz⟩ := hv
  have hx := B.exec
  have hb := B.bytes
  have hr := B.returns
  have hts := atoms_spec (ws := zX17_bar_ws) B.pre
  have hown : s.vm.findClass RX17 = some m.cls := findClass_of_methodNamed B.named
  have hlocks := B.notSynchronized
  subst hsz
  have hD := hD0.self (sz := s.heap.size)
  generalize hAe : va_A [(mo, .inr (23, [.int th, .ref b0, .ref b1, .ref b2, .ref b3, .int 0, .int 0, .long 0])), (b2, .inr (5, [.int 0, .ref dz, .int 0]))] s.heap.size = A at hD hz ⊢
  have hA : ∀ q : Nat, s.heap.size ≤ q → A q := fun q h => by rw [← hAe]; exact Or.inr h
  have hS : va_S A s.heap s.heap [] := va_S.rf
  have hP : va_P D vwCl [(mo, .inr (23, [.int th, .ref b0, .ref b1, .ref b2, .ref b3, .int 0, .int 0, .long 0])), (b2, .inr (5, [.int 0, .ref dz, .int 0]))] s.heap := hP
  have hl := lv_entry ([.ref mo, .int x1, .int x2]) (n := 6) (Nat.le_of_ble_eq_true rfl)
  rw [lg_entry_eq]
  generalize (lg_sl ([.ref mo, .int x1, .int x2]) ++ List.replicate (6 - (lg_sl ([.ref mo, .int x1, .int x2])).length) Slot.unset).toArray = ls at hl ⊢
  have hl : lv_has ls 6 [(0, .ref mo), (1, .int x1), (2, .int x2)] := hl
  refine lv_aload_n hx hb dX17_bar_0 rfl (lv_at hl 0 rfl) ?_
  refine lv_iload_n hx hb dX17_bar_1 rfl (lv_at hl 1 rfl) ?_
  have hPc := hP.sub (ws' := [(mo, .inr (23, [.int th, .ref b0, .ref b1, .ref b2, .ref b3, .int 0, .int 0, .long 0])), (b2, .inr (5, [.int 0, .ref dz, .int 0]))]) [0, 1] rfl
  have hDc := hD.sub (ws' := [(mo, .inr (23, [.int th, .ref b0, .ref b1, .ref b2, .ref b3, .int 0, .int 0, .long 0])), (b2, .inr (5, [.int 0, .ref dz, .int 0]))]) [0, 1] (by decide) rfl
  have hKc := hK.sub (tys' := []) [] rfl
  have hFc := va_free (wc := [(mo, .inr (23, [.int th, .ref b0, .ref b1, .ref b2, .ref b3, .int 0, .int 0, .long 0])), (b2, .inr (5, [.int 0, .ref dz, .int 0]))]) hD hS hA [0, 1] rfl
  refine va_calli (va_runV (As := [.int x1]) (rest := []) ⟨hx, hb, hml, hown, hts⟩ (cm_noEvent l hst D s.heap.size mo b0 b1 b2 b3 dz th x1) (cwV 1 hts (goodIn_app (goodIn_of _ (by decide +kernel)) (goodIn_sub (fun _ h => List.mem_cons_of_mem _ (List.mem_append_right _ (List.mem_append_left _ h))) zX17_noEvent_ws_good)) rfl rfl rfl (by decide +kernel) ⟨Nat.le_of_ble_eq_true rfl, Nat.le_of_ble_eq_true rfl⟩) ⟨zPre.blind, va_recv hKc hPc (ci := 23) (q0 := 0) rfl rfl, zPre.mk hPc hKc hDc hz hS (fun q h => hFc q h)⟩ rfl rfl hl.1 rfl (lv_room (Nat.le_of_ble_eq_true rfl)) dX17_bar_2 ⟨Nat.le_of_ble_eq_true rfl, Nat.le_of_ble_eq_true rfl⟩) hS (fun q _ h => hFc q h) (fun q h => hFc q h) (fun r9 u t H1 locs ht9 hvm hw hB hz1 hk1 hS => ?_)
  refine W.widen (k := 0) (n := 0) (by omega) (by omega) ?_
  obtain ⟨hP1, hK1, hD1⟩ := hB
  rw [ht9] at hP1
  have hK1 := va_K.moved hvm.symm hK1
  obtain ⟨hP, hD⟩ := va_join (wr := []) (w1 := [(mo, .inr (23, [.int 1, .ref b0, .ref b1, .ref b2, .ref b3, .int 0, .int 0, .long 0])), (b2, .inr (5, [.int 0, .ref dz, .int 0]))]) hP hD [0, 1] [] rfl rfl (by decide) (by decide) hk1 hFc hP1 hD1
  have hK := (hK.sub (tys' := []) [] rfl).app hK1
  generalize H1 = H at hP hS ⊢
  have hP : va_P D vwCl [(mo, .inr (23, [.int 1, .ref b0, .ref b1, .ref b2, .ref b3, .int 0, .int 0, .long 0])), (b2, .inr (5, [.int 0, .ref dz, .int 0]))] H := hP
  have hD : va_D A [(mo, .inr (23, [.int 1, .ref b0, .ref b1, .ref b2, .ref b3, .int 0, .int 0, .long 0])), (b2, .inr (5, [.int 0, .ref dz, .int 0]))] := hD
  have hK : va_K D vwCl [] s := hK
  subst hw
  refine lv_if_eq (tgt := 10) hx hb dX17_bar_5 (by decide) (fun c => absurd c (by decide)) (fun _ => ?_)
  refine lv_iconst (v := 0) hx hb dX17_bar_8 (by decide) ?_
  have hP9 := hP.sub (ws' := [(mo, .inr (23, [.int 1, .ref b0, .ref b1, .ref b2, .ref b3, .int 0, .int 0, .long 0])), (b2, .inr (5, [.int 0, .ref dz, .int 0]))]) [0, 1] rfl
  have hD9 := hD.sub (ws' := [(mo, .inr (23, [.int 1, .ref b0, .ref b1, .ref b2, .ref b3, .int 0, .int 0, .long 0])), (b2, .inr (5, [.int 0, .ref dz, .int 0]))]) [0, 1] (by decide) rfl
  have hK9 := hK.sub (tys' := []) [] rfl
  rw [← hAe] at hD9
  refine W.widen (k := 0) (n := 0) (by omega) (by omega) ?_
  subst hAe
  exact W.iret (v := 0) hx hb hr (fun t ht9 hW => ⟨⟨0, (), rfl, rfl, ⟨by rw [ht9]; exact hP9, va_K.moved hW.alike hK9, hD9⟩⟩, hS.F ht9⟩) hS.2.2 dX17_bar_9

def zX17_jump_ws : List Cond := .code yX17_jump cX17_jump 6 (some .int) :: ([.methodLink RX17 95 yX17_noPair, .instanceMethod yX17_noPair, .selects RX17 yX17_noPair yX17_noPair, .initialized RX17] ++ (zX17_noPair_ws ++ ([])))
theorem zX17_jump_ws_good : zX17_jump_ws.all goodWord = true := by decide +kernel
set_option maxHeartbeats 4000000 in
set_option maxRecDepth 100000 in
/-- the reference refuses jump -/
theorem cm_jump (l : Launch) (hst : l.stackTraces = false) (D : va_G) (sz : Nat) (mo b0 b1 b2 b3 dz : Nat) (th : Int32) (x1 x2 x3 : Int32) : Met l yX17_jump zX17_jump_ws (zR 4 0 0) (zPre [.ref mo, .int x1, .int x2, .int x3] D [(mo, .inr (23, [.int th, .ref b0, .ref b1, .ref b2, .ref b3, .int 0, .int 0, .long 0])), (b2, .inr (5, [.int 0, .ref dz, .int 0]))] [] (va_A [(mo, .inr (23, [.int th, .ref b0, .ref b1, .ref b2, .ref b3, .int 0, .int 0, .long 0])), (b2, .inr (5, [.int 0, .ref dz, .int 0]))] sz) sz) (va_Qi (S := Unit) (fun r _ => r = 0) (fun _ t => zAt D [(mo, .inr (23, [.int 1, .ref b0, .ref b1, .ref b2, .ref b3, .int 0, .int 0, .long 0])), (b2, .inr (5, [.int 0, .ref dz, .int 0]))] [] (va_A [(mo, .inr (23, [.int th, .ref b0, .ref b1, .ref b2, .ref b3, .int 0, .int 0, .long 0])), (b2, .inr (5, [.int 0, .ref dz, .int 0]))] sz) t) (va_A [(mo, .inr (23, [.int th, .ref b0, .ref b1, .ref b2, .ref b3, .int 0, .int 0, .long 0])), (b2, .inr (5, [.int 0, .ref dz, .int 0]))] sz)) 0 0 (va_A [(mo, .inr (23, [.int th, .ref b0, .ref b1, .ref b2, .ref b3, .int 0, .int 0, .long 0])), (b2, .inr (5, [.int 0, .ref dz, .int 0]))] sz) := by
  refine Met.ofW (cc := cX17_jump) (maxL := 6) (ret := (some .int)) (by decide) rfl ?_
  intro p e s m args below meth c s₁ B hml hv
  obtain ⟨rfl, hsz, hP, hK, hD0, hz⟩ := hv
  have hx := B.exec
  have hb := B.bytes
  have hr := B.returns
  have hts := atoms_spec (ws := zX17_jump_ws) B.pre
  have hown : s.vm.findClass RX17 = some m.cls := findClass_of_methodNamed B.named
  have hlocks := B.notSynchronized
  subst hsz
  have hD := hD0.self (sz := s.heap.size)
  generalize hAe : va_A [(mo, .inr (23, [.int th, .ref b0, .ref b1, .ref b2, .ref b3, .int 0, .int 0, .long 0])), (b2, .inr (5, [.int 0, .ref dz, .int 0]))] s.heap.size = A at hD hz ⊢
  have hA : ∀ q : Nat, s.heap.size ≤ q → A q := fun q h => by rw [← hAe]; exact Or.inr h
  have hS : va_S A s.heap s.heap [] := va_S.rf
  have hP : va_P D vwCl [(mo, .inr (23, [.int th, .ref b0, .ref b1, .ref b2, .ref b3, .int 0, .int 0, .long 0])), (b2, .inr (5, [.int 0, .ref dz, .int 0]))] s.heap := hP
  have hl := lv_entry ([.ref mo, .int x1, .int x2, .int x3]) (n := 6) (Nat.le_of_ble_eq_true rfl)
  rw [lg_entry_eq]
  generalize (lg_sl ([.ref mo, .int x1, .int x2, .int x3]) ++ List.replicate (6 - (lg_sl ([.ref mo, .int x1, .int x2, .int x3])).length) Slot.unset).toArray = ls at hl ⊢
  have hl : lv_has ls 6 [(0, .ref mo), (1, .int x1), (2, .int x2), (3, .int x3)] := hl
  refine lv_aload_n hx hb dX17_jump_0 rfl (lv_at hl 0 rfl) ?_
  refine lv_iload_n hx hb dX17_jump_1 rfl (lv_at hl 1 rfl) ?_
  refine lv_iload_n hx hb dX17_jump_2 rfl (lv_at hl 2 rfl) ?_
  have hPc := hP.sub (ws' := [(mo, .inr (23, [.int th, .ref b0, .ref b1, .ref b2, .ref b3, .int 0, .int 0, .long 0])), (b2, .inr (5, [.int 0, .ref dz, .int 0]))]) [0, 1] rfl
  have hDc := hD.sub (ws' := [(mo, .inr (23, [.int th, .ref b0, .ref b1, .ref b2, .ref b3, .int 0, .int 0, .long 0])), (b2, .inr (5, [.int 0, .ref dz, .int 0]))]) [0, 1] (by decide) rfl
  have hKc := hK.sub (tys' := []) [] rfl
  have hFc := va_free (wc := [(mo, .inr (23, [.int th, .ref b0, .ref b1, .ref b2, .ref b3, .int 0, .int 0, .long 0])), (b2, .inr (5, [.int 0, .ref dz, .int 0]))]) hD hS hA [0, 1] rfl
  refine va_calli (va_runV (As := [.int x1, .int x2]) (rest := []) ⟨hx, hb, hml, hown, hts⟩ (cm_noPair l hst D s.heap.size mo b0 b1 b2 b3 dz th x1 x2) (cwV 2 hts (goodIn_app (goodIn_of _ (by decide +kernel)) (goodIn_sub (fun _ h => List.mem_cons_of_mem _ (List.mem_append_right _ (List.mem_append_left _ h))) zX17_noPair_ws_good)) rfl rfl rfl (by decide +kernel) ⟨Nat.le_of_ble_eq_true rfl, Nat.le_of_ble_eq_true rfl⟩) ⟨zPre.blind, va_recv hKc hPc (ci := 23) (q0 := 0) rfl rfl, zPre.mk hPc hKc hDc hz hS (fun q h => hFc q h)⟩ rfl rfl hl.1 rfl (lv_room (Nat.le_of_ble_eq_true rfl)) dX17_jump_3 ⟨Nat.le_of_ble_eq_true rfl, Nat.le_of_ble_eq_true rfl⟩) hS (fun q _ h => hFc q h) (fun q h => hFc q h) (fun r9 u t H1 locs ht9 hvm hw hB hz1 hk1 hS => ?_)
  refine W.widen (k := 0) (n := 0) (by omega) (by omega) ?_
  obtain ⟨hP1, hK1, hD1⟩ := hB
  rw [ht9] at hP1
  have hK1 := va_K.moved hvm.symm hK1
  obtain ⟨hP, hD⟩ := va_join (wr := []) (w1 := [(mo, .inr (23, [.int 1, .ref b0, .ref b1, .ref b2, .ref b3, .int 0, .int 0, .long 0])), (b2, .inr (5, [.int 0, .ref dz, .int 0]))]) hP hD [0, 1] [] rfl rfl (by decide) (by decide) hk1 hFc hP1 hD1
  have hK := (hK.sub (tys' := []) [] rfl).app hK1
  generalize H1 = H at hP hS ⊢
  have hP : va_P D vwCl [(mo, .inr (23, [.int 1, .ref b0, .ref b1, .ref b2, .ref b3, .int 0, .int 0, .long 0])), (b2, .inr (5, [.int 0, .ref dz, .int 0]))] H := hP
  have hD : va_D A [(mo, .inr (23, [.int 1, .ref b0, .ref b1, .ref b2, .ref b3, .int 0, .int 0, .long 0])), (b2, .inr (5, [.int 0, .ref dz, .int 0]))] := hD
  have hK : va_K D vwCl [] s := hK
  subst hw
  refine lv_if_eq (tgt := 11) hx hb dX17_jump_6 (by decide) (fun c => absurd c (by decide)) (fun _ => ?_)
  refine lv_iconst (v := 0) hx hb dX17_jump_9 (by decide) ?_
  have hP9 := hP.sub (ws' := [(mo, .inr (23, [.int 1, .ref b0, .ref b1, .ref b2, .ref b3, .int 0, .int 0, .long 0])), (b2, .inr (5, [.int 0, .ref dz, .int 0]))]) [0, 1] rfl
  have hD9 := hD.sub (ws' := [(mo, .inr (23, [.int 1, .ref b0, .ref b1, .ref b2, .ref b3, .int 0, .int 0, .long 0])), (b2, .inr (5, [.int 0, .ref dz, .int 0]))]) [0, 1] (by decide) rfl
  have hK9 := hK.sub (tys' := []) [] rfl
  rw [← hAe] at hD9
  refine W.widen (k := 0) (n := 0) (by omega) (by omega) ?_
  subst hAe
  exact W.iret (v := 0) hx hb hr (fun t ht9 hW => ⟨⟨0, (), rfl, rfl, ⟨by rw [ht9]; exact hP9, va_K.moved hW.alike hK9, hD9⟩⟩, hS.F ht9⟩) hS.2.2 dX17_jump_10

def zX17_put_ws : List Cond := .code yX17_put cX17_put 6 (some .int) :: ([.methodLink RX17 95 yX17_noPair, .instanceMethod yX17_noPair, .selects RX17 yX17_noPair yX17_noPair, .initialized RX17] ++ (zX17_noPair_ws ++ ([])))
theorem zX17_put_ws_good : zX17_put_ws.all goodWord = true := by decide +kernel
set_option maxHeartbeats 4000000 in
set_option maxRecDepth 100000 in
/-- the reference refuses put -/
theorem cm_put (l : Launch) (hst : l.stackTraces = false) (D : va_G) (sz : Nat) (mo b0 b1 b2 b3 dz : Nat) (th : Int32) (x1 x2 x3 : Int32) : Met l yX17_put zX17_put_ws (zR 4 0 0) (zPre [.ref mo, .int x1, .int x2, .int x3] D [(mo, .inr (23, [.int th, .ref b0, .ref b1, .ref b2, .ref b3, .int 0, .int 0, .long 0])), (b2, .inr (5, [.int 0, .ref dz, .int 0]))] [] (va_A [(mo, .inr (23, [.int th, .ref b0, .ref b1, .ref b2, .ref b3, .int 0, .int 0, .long 0])), (b2, .inr (5, [.int 0, .ref dz, .int 0]))] sz) sz) (va_Qi (S := Unit) (fun r _ => r = 0) (fun _ t => zAt D [(mo, .inr (23, [.int 1, .ref b0, .ref b1, .ref b2, .ref b3, .int 0, .int 0, .long 0])), (b2, .inr (5, [.int 0, .ref dz, .int 0]))] [] (va_A [(mo, .inr (23, [.int th, .ref b0, .ref b1, .ref b2, .ref b3, .int 0, .int 0, .long 0])), (b2, .inr (5, [.int 0, .ref dz, .int 0]))] sz) t) (va_A [(mo, .inr (23, [.int th, .ref b0, .ref b1, .ref b2, .ref b3, .int 0, .int 0, .long 0])), (b2, .inr (5, [.int 0, .ref dz, .int 0]))] sz)) 0 0 (va_A [(mo, .inr (23, [.int th, .ref b0, .ref b1, .ref b2, .ref b3, .int 0, .int 0, .long 0])), (b2, .inr (5, [.int 0, .ref dz, .int 0]))] sz) := by
  refine Met.ofW (cc := cX17_put) (maxL := 6) (ret := (some .int)) (by decide) rfl ?_
  intro p e s m args below meth c s₁ B hml hv
  obtain ⟨rfl, hsz, hP, hK, hD0, hz⟩ := hv
  have hx := B.exec
  have hb := B.bytes
  have hr := B.returns
  have hts := atoms_spec (ws := zX17_put_ws) B.pre
  have hown : s.vm.findClass RX17 = some m.cls := findClass_of_methodNamed B.named
  have hlocks := B.notSynchronized
  subst hsz
  have hD := hD0.self (sz := s.heap.size)
  generalize hAe : va_A [(mo, .inr (23, [.int th, .ref b0, .ref b1, .ref b2, .ref b3, .int 0, .int 0, .long 0])), (b2, .inr (5, [.int 0, .ref dz, .int 0]))] s.heap.size = A at hD hz ⊢
  have hA : ∀ q : Nat, s.heap.size ≤ q → A q := fun q h => by rw [← hAe]; exact Or.inr h
  have hS : va_S A s.heap s.heap [] := va_S.rf
  have hP : va_P D vwCl [(mo, .inr (23, [.int th, .ref b0, .ref b1, .ref b2, .ref b3, .int 0, .int 0, .long 0])), (b2, .inr (5, [.int 0, .ref dz, .int 0]))] s.heap := hP
  have hl := lv_entry ([.ref mo, .int x1, .int x2, .int x3]) (n := 6) (Nat.le_of_ble_eq_true rfl)
  rw [lg_entry_eq]
  generalize (lg_sl ([.ref mo, .int x1, .int x2, .int x3]) ++ List.replicate (6 - (lg_sl ([.ref mo, .int x1, .int x2, .int x3])).length) Slot.unset).toArray = ls at hl ⊢
  have hl : lv_has ls 6 [(0, .ref mo), (1, .int x1), (2, .int x2), (3, .int x3)] := hl
  refine lv_aload_n hx hb dX17_put_0 rfl (lv_at hl 0 rfl) ?_
  refine lv_iload_n hx hb dX17_put_1 rfl (lv_at hl 1 rfl) ?_
  refine lv_iload_n hx hb dX17_put_2 rfl (lv_at hl 2 rfl) ?_
  have hPc := hP.sub (ws' := [(mo, .inr (23, [.int th, .ref b0, .ref b1, .ref b2, .ref b3, .int 0, .int 0, .long 0])), (b2, .inr (5, [.int 0, .ref dz, .int 0]))]) [0, 1] rfl
  have hDc := hD.sub (ws' := [(mo, .inr (23, [.int th, .ref b0, .ref b1, .ref b2, .ref b3, .int 0, .int 0, .long 0])), (b2, .inr (5, [.int 0, .ref dz, .int 0]))]) [0, 1] (by decide) rfl
  have hKc := hK.sub (tys' := []) [] rfl
  have hFc := va_free (wc := [(mo, .inr (23, [.int th, .ref b0, .ref b1, .ref b2, .ref b3, .int 0, .int 0, .long 0])), (b2, .inr (5, [.int 0, .ref dz, .int 0]))]) hD hS hA [0, 1] rfl
  refine va_calli (va_runV (As := [.int x1, .int x2]) (rest := []) ⟨hx, hb, hml, hown, hts⟩ (cm_noPair l hst D s.heap.size mo b0 b1 b2 b3 dz th x1 x2) (cwV 2 hts (goodIn_app (goodIn_of _ (by decide +kernel)) (goodIn_sub (fun _ h => List.mem_cons_of_mem _ (List.mem_append_right _ (List.mem_append_left _ h))) zX17_noPair_ws_good)) rfl rfl rfl (by decide +kernel) ⟨Nat.le_of_ble_eq_true rfl, Nat.le_of_ble_eq_true rfl⟩) ⟨zPre.blind, va_recv hKc hPc (ci := 23) (q0 := 0) rfl rfl, zPre.mk hPc hKc hDc hz hS (fun q h => hFc q h)⟩ rfl rfl hl.1 rfl (lv_room (Nat.le_of_ble_eq_true rfl)) dX17_put_3 ⟨Nat.le_of_ble_eq_true rfl, Nat.le_of_ble_eq_true rfl⟩) hS (fun q _ h => hFc q h) (fun q h => hFc q h) (fun r9 u t H1 locs ht9 hvm hw hB hz1 hk1 hS => ?_)
  refine W.widen (k := 0) (n := 0) (by omega) (by omega) ?_
  obtain ⟨hP1, hK1, hD1⟩ := hB
  rw [ht9] at hP1
  have hK1 := va_K.moved hvm.symm hK1
  obtain ⟨hP, hD⟩ := va_join (wr := []) (w1 := [(mo, .inr (23, [.int 1, .ref b0, .ref b1, .ref b2, .ref b3, .int 0, .int 0, .long 0])), (b2, .inr (5, [.int 0, .ref dz, .int 0]))]) hP hD [0, 1] [] rfl rfl (by decide) (by decide) hk1 hFc hP1 hD1
  have hK := (hK.sub (tys' := []) [] rfl).app hK1
  generalize H1 = H at hP hS ⊢
  have hP : va_P D vwCl [(mo, .inr (23, [.int 1, .ref b0, .ref b1, .ref b2, .ref b3, .int 0, .int 0, .long 0])), (b2, .inr (5, [.int 0, .ref dz, .int 0]))] H := hP
  have hD : va_D A [(mo, .inr (23, [.int 1, .ref b0, .ref b1, .ref b2, .ref b3, .int 0, .int 0, .long 0])), (b2, .inr (5, [.int 0, .ref dz, .int 0]))] := hD
  have hK : va_K D vwCl [] s := hK
  subst hw
  refine lv_if_eq (tgt := 11) hx hb dX17_put_6 (by decide) (fun c => absurd c (by decide)) (fun _ => ?_)
  refine lv_iconst (v := 0) hx hb dX17_put_9 (by decide) ?_
  have hP9 := hP.sub (ws' := [(mo, .inr (23, [.int 1, .ref b0, .ref b1, .ref b2, .ref b3, .int 0, .int 0, .long 0])), (b2, .inr (5, [.int 0, .ref dz, .int 0]))]) [0, 1] rfl
  have hD9 := hD.sub (ws' := [(mo, .inr (23, [.int 1, .ref b0, .ref b1, .ref b2, .ref b3, .int 0, .int 0, .long 0])), (b2, .inr (5, [.int 0, .ref dz, .int 0]))]) [0, 1] (by decide) rfl
  have hK9 := hK.sub (tys' := []) [] rfl
  rw [← hAe] at hD9
  refine W.widen (k := 0) (n := 0) (by omega) (by omega) ?_
  subst hAe
  exact W.iret (v := 0) hx hb hr (fun t ht9 hW => ⟨⟨0, (), rfl, rfl, ⟨by rw [ht9]; exact hP9, va_K.moved hW.alike hK9, hD9⟩⟩, hS.F ht9⟩) hS.2.2 dX17_put_10

def zX17_rankOf_ws : List Cond := .code yX17_rankOf cX17_rankOf 4 (some .int) :: ([.methodLink RX17 95 yX17_noPair, .instanceMethod yX17_noPair, .selects RX17 yX17_noPair yX17_noPair, .initialized RX17] ++ (zX17_noPair_ws ++ ([])))
theorem zX17_rankOf_ws_good : zX17_rankOf_ws.all goodWord = true := by decide +kernel
set_option maxHeartbeats 4000000 in
set_option maxRecDepth 100000 in
/-- the reference refuses rankOf -/
theorem cm_rankOf (l : Launch) (hst : l.stackTraces = false) (D : va_G) (sz : Nat) (mo b0 b1 b2 b3 dz : Nat) (th : Int32) (x1 x2 : Int32) : Met l yX17_rankOf zX17_rankOf_ws (zR 4 0 0) (zPre [.ref mo, .int x1, .int x2] D [(mo, .inr (23, [.int th, .ref b0, .ref b1, .ref b2, .ref b3, .int 0, .int 0, .long 0])), (b2, .inr (5, [.int 0, .ref dz, .int 0]))] [] (va_A [(mo, .inr (23, [.int th, .ref b0, .ref b1, .ref b2, .ref b3, .int 0, .int 0, .long 0])), (b2, .inr (5, [.int 0, .ref dz, .int 0]))] sz) sz) (va_Qi (S := Unit) (fun r _ => r = 0) (fun _ t => zAt D [(mo, .inr (23, [.int 1, .ref b0, .ref b1, .ref b2, .ref b3, .int 0, .int 0, .long 0])), (b2, .inr (5, [.int 0, .ref dz, .int 0]))] [] (va_A [(mo, .inr (23, [.int th, .ref b0, .ref b1, .ref b2, .ref b3, .int 0, .int 0, .long 0])), (b2, .inr (5, [.int 0, .ref dz, .int 0]))] sz) t) (va_A [(mo, .inr (23, [.int th, .ref b0, .ref b1, .ref b2, .ref b3, .int 0, .int 0, .long 0])), (b2, .inr (5, [.int 0, .ref dz, .int 0]))] sz)) 0 0 (va_A [(mo, .inr (23, [.int th, .ref b0, .ref b1, .ref b2, .ref b3, .int 0, .int 0, .long 0])), (b2, .inr (5, [.int 0, .ref dz, .int 0]))] sz) := by
  refine Met.ofW (cc := cX17_rankOf) (maxL := 4) (ret := (some .int)) (by decide) rfl ?_
  intro p e s m args below meth c s₁ B hml hv
  obtain ⟨rfl, hsz, hP, hK, hD0, hz⟩ := hv
  have hx := B.exec
  have hb := B.bytes
  have hr := B.returns
  have hts := atoms_spec (ws := zX17_rankOf_ws) B.pre
  have hown : s.vm.findClass RX17 = some m.cls := findClass_of_methodNamed B.named
  have hlocks := B.notSynchronized
  subst hsz
  have hD := hD0.self (sz := s.heap.size)
  generalize hAe : va_A [(mo, .inr (23, [.int th, .ref b0, .ref b1, .ref b2, .ref b3, .int 0, .int 0, .long 0])), (b2, .inr (5, [.int 0, .ref dz, .int 0]))] s.heap.size = A at hD hz ⊢
  have hA : ∀ q : Nat, s.heap.size ≤ q → A q := fun q h => by rw [← hAe]; exact Or.inr h
  have hS : va_S A s.heap s.heap [] := va_S.rf
  have hP : va_P D vwCl [(mo, .inr (23, [.int th, .ref b0, .ref b1, .ref b2, .ref b3, .int 0, .int 0, .long 0])), (b2, .inr (5, [.int 0, .ref dz, .int 0]))] s.heap := hP
  have hl := lv_entry ([.ref mo, .int x1, .int x2]) (n := 4) (Nat.le_of_ble_eq_true rfl)
  rw [lg_entry_eq]
  generalize (lg_sl ([.ref mo, .int x1, .int x2]) ++ List.replicate (4 - (lg_sl ([.ref mo, .int x1, .int x2])).length) Slot.unset).toArray = ls at hl ⊢
  have hl : lv_has ls 4 [(0, .ref mo), (1, .int x1), (2, .int x2)] := hl
  refine lv_aload_n hx hb dX17_rankOf_0 rfl (lv_at hl 0 rfl) ?_
  refine lv_iload_n hx hb dX17_rankOf_1 rfl (lv_at hl 1 rfl) ?_
  refine lv_iload_n hx hb dX17_rankOf_2 rfl (lv_at hl 2 rfl) ?_
  have hPc := hP.sub (ws' := [(mo, .inr (23, [.int th, .ref b0, .ref b1, .ref b2, .ref b3, .int 0, .int 0, .long 0])), (b2, .inr (5, [.int 0, .ref dz, .int 0]))]) [0, 1] rfl
  have hDc := hD.sub (ws' := [(mo, .inr (23, [.int th, .ref b0, .ref b1, .ref b2, .ref b3, .int 0, .int 0, .long 0])), (b2, .inr (5, [.int 0, .ref dz, .int 0]))]) [0, 1] (by decide) rfl
  have hKc := hK.sub (tys' := []) [] rfl
  have hFc := va_free (wc := [(mo, .inr (23, [.int th, .ref b0, .ref b1, .ref b2, .ref b3, .int 0, .int 0, .long 0])), (b2, .inr (5, [.int 0, .ref dz, .int 0]))]) hD hS hA [0, 1] rfl
  refine va_calli (va_runV (As := [.int x1, .int x2]) (rest := []) ⟨hx, hb, hml, hown, hts⟩ (cm_noPair l hst D s.heap.size mo b0 b1 b2 b3 dz th x1 x2) (cwV 2 hts (goodIn_app (goodIn_of _ (by decide +kernel)) (goodIn_sub (fun _ h => List.mem_cons_of_mem _ (List.mem_append_right _ (List.mem_append_left _ h))) zX17_noPair_ws_good)) rfl rfl rfl (by decide +kernel) ⟨Nat.le_of_ble_eq_true rfl, Nat.le_of_ble_eq_true rfl⟩) ⟨zPre.blind, va_recv hKc hPc (ci := 23) (q0 := 0) rfl rfl, zPre.mk hPc hKc hDc hz hS (fun q h => hFc q h)⟩ rfl rfl hl.1 rfl (lv_room (Nat.le_of_ble_eq_true rfl)) dX17_rankOf_3 ⟨Nat.le_of_ble_eq_true rfl, Nat.le_of_ble_eq_true rfl⟩) hS (fun q _ h => hFc q h) (fun q h => hFc q h) (fun r9 u t H1 locs ht9 hvm hw hB hz1 hk1 hS => ?_)
  refine W.widen (k := 0) (n := 0) (by omega) (by omega) ?_
  obtain ⟨hP1, hK1, hD1⟩ := hB
  rw [ht9] at hP1
  have hK1 := va_K.moved hvm.symm hK1
  obtain ⟨hP, hD⟩ := va_join (wr := []) (w1 := [(mo, .inr (23, [.int 1, .ref b0, .ref b1, .ref b2, .ref b3, .int 0, .int 0, .long 0])), (b2, .inr (5, [.int 0, .ref dz, .int 0]))]) hP hD [0, 1] [] rfl rfl (by decide) (by decide) hk1 hFc hP1 hD1
  have hK := (hK.sub (tys' := []) [] rfl).app hK1
  generalize H1 = H at hP hS ⊢
  have hP : va_P D vwCl [(mo, .inr (23, [.int 1, .ref b0, .ref b1, .ref b2, .ref b3, .int 0, .int 0, .long 0])), (b2, .inr (5, [.int 0, .ref dz, .int 0]))] H := hP
  have hD : va_D A [(mo, .inr (23, [.int 1, .ref b0, .ref b1, .ref b2, .ref b3, .int 0, .int 0, .long 0])), (b2, .inr (5, [.int 0, .ref dz, .int 0]))] := hD
  have hK : va_K D vwCl [] s := hK
  subst hw
  refine lv_if_eq (tgt := 11) hx hb dX17_rankOf_6 (by decide) (fun c => absurd c (by decide)) (fun _ => ?_)
  refine lv_iconst (v := 0) hx hb dX17_rankOf_9 (by decide) ?_
  have hP9 := hP.sub (ws' := [(mo, .inr (23, [.int 1, .ref b0, .ref b1, .ref b2, .ref b3, .int 0, .int 0, .long 0])), (b2, .inr (5, [.int 0, .ref dz, .int 0]))]) [0, 1] rfl
  have hD9 := hD.sub (ws' := [(mo, .inr (23, [.int 1, .ref b0, .ref b1, .ref b2, .ref b3, .int 0, .int 0, .long 0])), (b2, .inr (5, [.int 0, .ref dz, .int 0]))]) [0, 1] (by decide) rfl
  have hK9 := hK.sub (tys' := []) [] rfl
  rw [← hAe] at hD9
  refine W.widen (k := 0) (n := 0) (by omega) (by omega) ?_
  subst hAe
  exact W.iret (v := 0) hx hb hr (fun t ht9 hW => ⟨⟨0, (), rfl, rfl, ⟨by rw [ht9]; exact hP9, va_K.moved hW.alike hK9, hD9⟩⟩, hS.F ht9⟩) hS.2.2 dX17_rankOf_10

def zX17_resultOf_ws : List Cond := .code yX17_resultOf cX17_resultOf 5 (some .int) :: ([.methodLink RX17 95 yX17_noPair, .instanceMethod yX17_noPair, .selects RX17 yX17_noPair yX17_noPair, .initialized RX17] ++ (zX17_noPair_ws ++ ([])))
theorem zX17_resultOf_ws_good : zX17_resultOf_ws.all goodWord = true := by decide +kernel
set_option maxHeartbeats 4000000 in
set_option maxRecDepth 100000 in
/-- the reference refuses resultOf -/
theorem cm_resultOf (l : Launch) (hst : l.stackTraces = false) (D : va_G) (sz : Nat) (mo b0 b1 b2 b3 dz : Nat) (th : Int32) (x1 x2 : Int32) : Met l yX17_resultOf zX17_resultOf_ws (zR 4 0 0) (zPre [.ref mo, .int x1, .int x2] D [(mo, .inr (23, [.int th, .ref b0, .ref b1, .ref b2, .ref b3, .int 0, .int 0, .long 0])), (b2, .inr (5, [.int 0, .ref dz, .int 0]))] [] (va_A [(mo, .inr (23, [.int th, .ref b0, .ref b1, .ref b2, .ref b3, .int 0, .int 0, .long 0])), (b2, .inr (5, [.int 0, .ref dz, .int 0]))] sz) sz) (va_Qi (S := Unit) (fun r _ => r = 0) (fun _ t => zAt D [(mo, .inr (23, [.int 1, .ref b0, .ref b1, .ref b2, .ref b3, .int 0, .int 0, .long 0])), (b2, .inr (5, [.int 0, .ref dz, .int 0]))] [] (va_A [(mo, .inr (23, [.int th, .ref b0, .ref b1, .ref b2, .ref b3, .int 0, .int 0, .long 0])), (b2, .inr (5, [.int 0, .ref dz, .int 0]))] sz) t) (va_A [(mo, .inr (23, [.int th, .ref b0, .ref b1, .ref b2, .ref b3, .int 0, .int 0, .long 0])), (b2, .inr (5, [.int 0, .ref dz, .int 0]))] sz)) 0 0 (va_A [(mo, .inr (23, [.int th, .ref b0, .ref b1, .ref b2, .ref b3, .int 0, .int 0, .long 0])), (b2, .inr (5, [.int 0, .ref dz, .int 0]))] sz) := by
  refine Met.ofW (cc := cX17_resultOf) (maxL := 5) (ret := (some .int)) (by decide) rfl ?_
  intro p e s m args below meth c s₁ B hml hv
  obtain ⟨rfl, hsz, hP, hK, hD0, hz⟩ := hv
  have hx := B.exec
  have hb := B.bytes
  have hr := B.returns
  have hts := atoms_spec (ws := zX17_resultOf_ws) B.pre
  have hown : s.vm.findClass RX17 = some m.cls := findClass_of_methodNamed B.named
  have hlocks := B.notSynchronized
  subst hsz
  have hD := hD0.self (sz := s.heap.size)
  generalize hAe : va_A [(mo, .inr (23, [.int th, .ref b0, .ref b1, .ref b2, .ref b3, .int 0, .int 0, .long 0])), (b2, .inr (5, [.int 0, .ref dz, .int 0]))] s.heap.size = A at hD hz ⊢
  have hA : ∀ q : Nat, s.heap.size ≤ q → A q := fun q h => by rw [← hAe]; exact Or.inr h
  have hS : va_S A s.heap s.heap [] := va_S.rf
  have hP : va_P D vwCl [(mo, .inr (23, [.int th, .ref b0, .ref b1, .ref b2, .ref b3, .int 0, .int 0, .long 0])), (b2, .inr (5, [.int 0, .ref dz, .int 0]))] s.heap := hP
  have hl := lv_entry ([.ref mo, .int x1, .int x2]) (n := 5) (Nat.le_of_ble_eq_true rfl)
  rw [lg_entry_eq]
  generalize (lg_sl ([.ref mo, .int x1, .int x2]) ++ List.replicate (5 - (lg_sl ([.ref mo, .int x1, .int x2])).length) Slot.unset).toArray = ls at hl ⊢
  have hl : lv_has ls 5 [(0, .ref mo), (1, .int x1), (2, .int x2)] := hl
  refine lv_aload_n hx hb dX17_resultOf_0 rfl (lv_at hl 0 rfl) ?_
  refine lv_iload_n hx hb dX17_resultOf_1 rfl (lv_at hl 1 rfl) ?_
  refine lv_iload_n hx hb dX17_resultOf_2 rfl (lv_at hl 2 rfl) ?_
  have hPc := hP.sub (ws' := [(mo, .inr (23, [.int th, .ref b0, .ref b1, .ref b2, .ref b3, .int 0, .int 0, .long 0])), (b2, .inr (5, [.int 0, .ref dz, .int 0]))]) [0, 1] rfl
  have hDc := hD.sub (ws' := [(mo, .inr (23, [.int th, .ref b0, .ref b1, .ref b2, .ref b3, .int 0, .int 0, .long 0])), (b2, .inr (5, [.int 0, .ref dz, .int 0]))]) [0, 1] (by decide) rfl
  have hKc := hK.sub (tys' := []) [] rfl
  have hFc := va_free (wc := [(mo, .inr (23, [.int th, .ref b0, .ref b1, .ref b2, .ref b3, .int 0, .int 0, .long 0])), (b2, .inr (5, [.int 0, .ref dz, .int 0]))]) hD hS hA [0, 1] rfl
  refine va_calli (va_runV (As := [.int x1, .int x2]) (rest := []) ⟨hx, hb, hml, hown, hts⟩ (cm_noPair l hst D s.heap.size mo b0 b1 b2 b3 dz th x1 x2) (cwV 2 hts (goodIn_app (goodIn_of _ (by decide +kernel)) (goodIn_sub (fun _ h => List.mem_cons_of_mem _ (List.mem_append_right _ (List.mem_append_left _ h))) zX17_noPair_ws_good)) rfl rfl rfl (by decide +kernel) ⟨Nat.le_of_ble_eq_true rfl, Nat.le_of_ble_eq_true rfl⟩) ⟨zPre.blind, va_recv hKc hPc (ci := 23) (q0 := 0) rfl rfl, zPre.mk hPc hKc hDc hz hS (fun q h => hFc q h)⟩ rfl rfl hl.1 rfl (lv_room (Nat.le_of_ble_eq_true rfl)) dX17_resultOf_3 ⟨Nat.le_of_ble_eq_true rfl, Nat.le_of_ble_eq_true rfl⟩) hS (fun q _ h => hFc q h) (fun q h => hFc q h) (fun r9 u t H1 locs ht9 hvm hw hB hz1 hk1 hS => ?_)
  refine W.widen (k := 0) (n := 0) (by omega) (by omega) ?_
  obtain ⟨hP1, hK1, hD1⟩ := hB
  rw [ht9] at hP1
  have hK1 := va_K.moved hvm.symm hK1
  obtain ⟨hP, hD⟩ := va_join (wr := []) (w1 := [(mo, .inr (23, [.int 1, .ref b0, .ref b1, .ref b2, .ref b3, .int 0, .int 0, .long 0])), (b2, .inr (5, [.int 0, .ref dz, .int 0]))]) hP hD [0, 1] [] rfl rfl (by decide) (by decide) hk1 hFc hP1 hD1
  have hK := (hK.sub (tys' := []) [] rfl).app hK1
  generalize H1 = H at hP hS ⊢
  have hP : va_P D vwCl [(mo, .inr (23, [.int 1, .ref b0, .ref b1, .ref b2, .ref b3, .int 0, .int 0, .long 0])), (b2, .inr (5, [.int 0, .ref dz, .int 0]))] H := hP
  have hD : va_D A [(mo, .inr (23, [.int 1, .ref b0, .ref b1, .ref b2, .ref b3, .int 0, .int 0, .long 0])), (b2, .inr (5, [.int 0, .ref dz, .int 0]))] := hD
  have hK : va_K D vwCl [] s := hK
  subst hw
  refine lv_if_eq (tgt := 11) hx hb dX17_resultOf_6 (by decide) (fun c => absurd c (by decide)) (fun _ => ?_)
  refine lv_iconst (v := 0) hx hb dX17_resultOf_9 (by decide) ?_
  have hP9 := hP.sub (ws' := [(mo, .inr (23, [.int 1, .ref b0, .ref b1, .ref b2, .ref b3, .int 0, .int 0, .long 0])), (b2, .inr (5, [.int 0, .ref dz, .int 0]))]) [0, 1] rfl
  have hD9 := hD.sub (ws' := [(mo, .inr (23, [.int 1, .ref b0, .ref b1, .ref b2, .ref b3, .int 0, .int 0, .long 0])), (b2, .inr (5, [.int 0, .ref dz, .int 0]))]) [0, 1] (by decide) rfl
  have hK9 := hK.sub (tys' := []) [] rfl
  rw [← hAe] at hD9
  refine W.widen (k := 0) (n := 0) (by omega) (by omega) ?_
  subst hAe
  exact W.iret (v := 0) hx hb hr (fun t ht9 hW => ⟨⟨0, (), rfl, rfl, ⟨by rw [ht9]; exact hP9, va_K.moved hW.alike hK9, hD9⟩⟩, hS.F ht9⟩) hS.2.2 dX17_resultOf_10

def zX17_protest_ws : List Cond := .code yX17_protest cX17_protest 6 (some .int) :: ([.methodLink RX17 210 yX17_race, .instanceMethod yX17_race, .selects RX17 yX17_race yX17_race, .initialized RX17] ++ (zX17_race_ws ++ ([])))
theorem zX17_protest_ws_good : zX17_protest_ws.all goodWord = true := by decide +kernel
set_option maxHeartbeats 4000000 in
set_option maxRecDepth 100000 in
/-- the reference refuses protest -/
theorem cm_protest (l : Launch) (hst : l.stackTraces = false) (D : va_G) (sz : Nat) (mo b0 b1 b2 b3 dz : Nat) (th : Int32) (x1 x2 x3 : Int32) : Met l yX17_protest zX17_protest_ws (zR 4 0 0) (zPre [.ref mo, .int x1, .int x2, .int x3] D [(mo, .inr (23, [.int th, .ref b0, .ref b1, .ref b2, .ref b3, .int 0, .int 0, .long 0])), (b2, .inr (5, [.int 0, .ref dz, .int 0]))] [] (va_A [(mo, .inr (23, [.int th, .ref b0, .ref b1, .ref b2, .ref b3, .int 0, .int 0, .long 0])), (b2, .inr (5, [.int 0, .ref dz, .int 0]))] sz) sz) (va_Qi (S := Unit) (fun r _ => r = 0) (fun _ t => zAt D [(mo, .inr (23, [.int 1, .ref b0, .ref b1, .ref b2, .ref b3, .int 0, .int 0, .long 0])), (b2, .inr (5, [.int 0, .ref dz, .int 0]))] [] (va_A [(mo, .inr (23, [.int th, .ref b0, .ref b1, .ref b2, .ref b3, .int 0, .int 0, .long 0])), (b2, .inr (5, [.int 0, .ref dz, .int 0]))] sz) t) (va_A [(mo, .inr (23, [.int th, .ref b0, .ref b1, .ref b2, .ref b3, .int 0, .int 0, .long 0])), (b2, .inr (5, [.int 0, .ref dz, .int 0]))] sz)) 0 0 (va_A [(mo, .inr (23, [.int th, .ref b0, .ref b1, .ref b2, .ref b3, .int 0, .int 0, .long 0])), (b2, .inr (5, [.int 0, .ref dz, .int 0]))] sz) := by
  refine Met.ofW (cc := cX17_protest) (maxL := 6) (ret := (some .int)) (by decide) rfl ?_
  intro p e s m args below meth c s₁ B hml hv
  obtain ⟨rfl, hsz, hP, hK, hD0, hz⟩ := hv
  have hx := B.exec
  have hb := B.bytes
  have hr := B.returns
  have hts := atoms_spec (ws := zX17_protest_ws) B.pre
  have hown : s.vm.findClass RX17 = some m.cls := findClass_of_methodNamed B.named
  have hlocks := B.notSynchronized
  subst hsz
  have hD := hD0.self (sz := s.heap.size)
  generalize hAe : va_A [(mo, .inr (23, [.int th, .ref b0, .ref b1, .ref b2, .ref b3, .int 0, .int 0, .long 0])), (b2, .inr (5, [.int 0, .ref dz, .int 0]))] s.heap.size = A at hD hz ⊢
  have hA : ∀ q : Nat, s.heap.size ≤ q → A q := fun q h => by rw [← hAe]; exact Or.inr h
  have hS : va_S A s.heap s.heap [] := va_S.rf
  have hP : va_P D vwCl [(mo, .inr (23, [.int th, .ref b0, .ref b1, .ref b2, .ref b3, .int 0, .int 0, .long 0])), (b2, .inr (5, [.int 0, .ref dz, .int 0]))] s.heap := hP
  have hl := lv_entry ([.ref mo, .int x1, .int x2, .int x3]) (n := 6) (Nat.le_of_ble_eq_true rfl)
  rw [lg_entry_eq]
  generalize (lg_sl ([.ref mo, .int x1, .int x2, .int x3]) ++ List.replicate (6 - (lg_sl ([.ref mo, .int x1, .int x2, .int x3])).length) Slot.unset).toArray = ls at hl ⊢
  have hl : lv_has ls 6 [(0, .ref mo), (1, .int x1), (2, .int x2), (3, .int x3)] := hl
  refine lv_aload_n hx hb dX17_protest_0 rfl (lv_at hl 0 rfl) ?_
  refine lv_iload_n hx hb dX17_protest_1 rfl (lv_at hl 1 rfl) ?_
  refine lv_iload_n hx hb dX17_protest_2 rfl (lv_at hl 3 rfl) ?_
  refine lv_iload_n hx hb dX17_protest_3 rfl (lv_at hl 2 rfl) ?_
  have hPc := hP.sub (ws' := [(mo, .inr (23, [.int th, .ref b0, .ref b1, .ref b2, .ref b3, .int 0, .int 0, .long 0])), (b2, .inr (5, [.int 0, .ref dz, .int 0]))]) [0, 1] rfl
  have hDc := hD.sub (ws' := [(mo, .inr (23, [.int th, .ref b0, .ref b1, .ref b2, .ref b3, .int 0, .int 0, .long 0])), (b2, .inr (5, [.int 0, .ref dz, .int 0]))]) [0, 1] (by decide) rfl
  have hKc := hK.sub (tys' := []) [] rfl
  have hFc := va_free (wc := [(mo, .inr (23, [.int th, .ref b0, .ref b1, .ref b2, .ref b3, .int 0, .int 0, .long 0])), (b2, .inr (5, [.int 0, .ref dz, .int 0]))]) hD hS hA [0, 1] rfl
  refine va_callq (va_runV (As := [.int x1, .int x3, .int x2]) (rest := []) ⟨hx, hb, hml, hown, hts⟩ (cm_race l hst D s.heap.size mo b0 b1 b2 b3 dz th x1 x3 x2) (cwV 3 hts (goodIn_app (goodIn_of _ (by decide +kernel)) (goodIn_sub (fun _ h => List.mem_cons_of_mem _ (List.mem_append_right _ (List.mem_append_left _ h))) zX17_race_ws_good)) rfl rfl rfl (by decide +kernel) ⟨Nat.le_of_ble_eq_true rfl, Nat.le_of_ble_eq_true rfl⟩) ⟨zPre.blind, va_recv hKc hPc (ci := 23) (q0 := 0) rfl rfl, zPre.mk hPc hKc hDc hz hS (fun q h => hFc q h)⟩ rfl rfl hl.1 rfl (lv_room (Nat.le_of_ble_eq_true rfl)) dX17_protest_4 ⟨Nat.le_of_ble_eq_true rfl, Nat.le_of_ble_eq_true rfl⟩) hS (fun q _ h => hFc q h) (fun q h => hFc q h) (fun r9 u t H1 locs ht9 hvm hw hB hz1 hk1 hS => ?_)
  refine W.widen (k := 0) (n := 0) (by omega) (by omega) ?_
  obtain ⟨hP1, hK1, hD1⟩ := hB
  rw [ht9] at hP1
  have hK1 := va_K.moved hvm.symm hK1
  obtain ⟨hP, hD⟩ := va_join (wr := []) (w1 := [(mo, .inr (23, [.int 1, .ref b0, .ref b1, .ref b2, .ref b3, .int 0, .int 0, .long 0])), (b2, .inr (5, [.int 0, .ref dz, .int 0]))]) hP hD [0, 1] [] rfl rfl (by decide) (by decide) hk1 hFc hP1 hD1
  have hK := (hK.sub (tys' := []) [] rfl).app hK1
  generalize H1 = H at hP hS ⊢
  have hP : va_P D vwCl [(mo, .inr (23, [.int 1, .ref b0, .ref b1, .ref b2, .ref b3, .int 0, .int 0, .long 0])), (b2, .inr (5, [.int 0, .ref dz, .int 0]))] H := hP
  have hD : va_D A [(mo, .inr (23, [.int 1, .ref b0, .ref b1, .ref b2, .ref b3, .int 0, .int 0, .long 0])), (b2, .inr (5, [.int 0, .ref dz, .int 0]))] := hD
  have hK : va_K D vwCl [] s := hK
  subst hw
  refine lv_astoreN (lv' := [(4, .null), (0, .ref mo), (1, .int x1), (2, .int x2), (3, .int x3)]) hx hb dX17_protest_7 hl (by decide) rfl (fun ls hl => ?_)
  refine lv_aloadN hx hb dX17_protest_9 (lv_at hl 0 rfl) ?_
  refine lv_ifnonnullN hx hb dX17_protest_11 ?_
  refine lv_iconst (v := 0) hx hb dX17_protest_14 (by decide) ?_
  have hP9 := hP.sub (ws' := [(mo, .inr (23, [.int 1, .ref b0, .ref b1, .ref b2, .ref b3, .int 0, .int 0, .long 0])), (b2, .inr (5, [.int 0, .ref dz, .int 0]))]) [0, 1] rfl
  have hD9 := hD.sub (ws' := [(mo, .inr (23, [.int 1, .ref b0, .ref b1, .ref b2, .ref b3, .int 0, .int 0, .long 0])), (b2, .inr (5, [.int 0, .ref dz, .int 0]))]) [0, 1] (by decide) rfl
  have hK9 := hK.sub (tys' := []) [] rfl
  rw [← hAe] at hD9
  refine W.widen (k := 0) (n := 0) (by omega) (by omega) ?_
  subst hAe
  exact W.iret (v := 0) hx hb hr (fun t ht9 hW => ⟨⟨0, (), rfl, rfl, ⟨by rw [ht9]; exact hP9, va_K.moved hW.alike hK9, hD9⟩⟩, hS.F ht9⟩) hS.2.2 dX17_protest_15

def zX17_close_ws : List Cond := .code yX17_close cX17_close 4 (some .boolean) :: ([.methodLink RX17 146 yX17_noEvent, .instanceMethod yX17_noEvent, .selects RX17 yX17_noEvent yX17_noEvent, .initialized RX17] ++ (zX17_noEvent_ws ++ ([])))
theorem zX17_close_ws_good : zX17_close_ws.all goodWord = true := by decide +kernel
set_option maxHeartbeats 4000000 in
set_option maxRecDepth 100000 in
/-- the reference refuses close -/
theorem cm_close (l : Launch) (hst : l.stackTraces = false) (D : va_G) (sz : Nat) (mo b0 b1 b2 b3 dz : Nat) (th : Int32) (x1 x2 : Int32) : Met l yX17_close zX17_close_ws (zR 4 0 0) (zPre [.ref mo, .int x1, .int x2] D [(mo, .inr (23, [.int th, .ref b0, .ref b1, .ref b2, .ref b3, .int 0, .int 0, .long 0])), (b2, .inr (5, [.int 0, .ref dz, .int 0]))] [] (va_A [(mo, .inr (23, [.int th, .ref b0, .ref b1, .ref b2, .ref b3, .int 0, .int 0, .long 0])), (b2, .inr (5, [.int 0, .ref dz, .int 0]))] sz) sz) (va_Qi (S := Unit) (fun r _ => r = 0) (fun _ t => zAt D [(mo, .inr (23, [.int 1, .ref b0, .ref b1, .ref b2, .ref b3, .int 0, .int 0, .long 0])), (b2, .inr (5, [.int 0, .ref dz, .int 0]))] [] (va_A [(mo, .inr (23, [.int th, .ref b0, .ref b1, .ref b2, .ref b3, .int 0, .int 0, .long 0])), (b2, .inr (5, [.int 0, .ref dz, .int 0]))] sz) t) (va_A [(mo, .inr (23, [.int th, .ref b0, .ref b1, .ref b2, .ref b3, .int 0, .int 0, .long 0])), (b2, .inr (5, [.int 0, .ref dz, .int 0]))] sz)) 0 0 (va_A [(mo, .inr (23, [.int th, .ref b0, .ref b1, .ref b2, .ref b3, .int 0, .int 0, .long 0])), (b2, .inr (5, [.int 0, .ref dz, .int 0]))] sz) := by
  refine Met.ofW (cc := cX17_close) (maxL := 4) (ret := (some .boolean)) (by decide) rfl ?_
  intro p e s m args below meth c s₁ B hml hv
  obtain ⟨rfl, hsz, hP, hK, hD0, hz⟩ := hv
  have hx := B.exec
  have hb := B.bytes
  have hr := B.returns
  have hts := atoms_spec (ws := zX17_close_ws) B.pre
  have hown : s.vm.findClass RX17 = some m.cls := findClass_of_methodNamed B.named
  have hlocks := B.notSynchronized
  subst hsz
  have hD := hD0.self (sz := s.heap.size)
  generalize hAe : va_A [(mo, .inr (23, [.int th, .ref b0, .ref b1, .ref b2, .ref b3, .int 0, .int 0, .long 0])), (b2, .inr (5, [.int 0, .ref dz, .int 0]))] s.heap.size = A at hD hz ⊢
  have hA : ∀ q : Nat, s.heap.size ≤ q → A q := fun q h => by rw [← hAe]; exact Or.inr h
  have hS : va_S A s.heap s.heap [] := va_S.rf
  have hP : va_P D vwCl [(mo, .inr (23, [.int th, .ref b0, .ref b1, .ref b2, .ref b3, .int 0, .int 0, .long 0])), (b2, .inr (5, [.int 0, .ref dz, .int 0]))] s.heap := hP
  have hl := lv_entry ([.ref mo, .int x1, .int x2]) (n := 4) (Nat.le_of_ble_eq_true rfl)
  rw [lg_entry_eq]
  generalize (lg_sl ([.ref mo, .int x1, .int x2]) ++ List.replicate (4 - (lg_sl ([.ref mo, .int x1, .int x2])).length) Slot.unset).toArray = ls at hl ⊢
  have hl : lv_has ls 4 [(0, .ref mo), (1, .int x1), (2, .int x2)] := hl
  refine lv_aload_n hx hb dX17_close_0 rfl (lv_at hl 0 rfl) ?_
  refine lv_iload_n hx hb dX17_close_1 rfl (lv_at hl 1 rfl) ?_
  have hPc := hP.sub (ws' := [(mo, .inr (23, [.int th, .ref b0, .ref b1, .ref b2, .ref b3, .int 0, .int 0, .long 0])), (b2, .inr (5, [.int 0, .ref dz, .int 0]))]) [0, 1] rfl
  have hDc := hD.sub (ws' := [(mo, .inr (23, [.int th, .ref b0, .ref b1, .ref b2, .ref b3, .int 0, .int 0, .long 0])), (b2, .inr (5, [.int 0, .ref dz, .int 0]))]) [0, 1] (by decide) rfl
  have hKc := hK.sub (tys' := []) [] rfl
  have hFc := va_free (wc := [(mo, .inr (23, [.int th, .ref b0, .ref b1, .ref b2, .ref b3, .int 0, .int 0, .long 0])), (b2, .inr (5, [.int 0, .ref dz, .int 0]))]) hD hS hA [0, 1] rfl
  refine va_calli (va_runV (As := [.int x1]) (rest := []) ⟨hx, hb, hml, hown, hts⟩ (cm_noEvent l hst D s.heap.size mo b0 b1 b2 b3 dz th x1) (cwV 1 hts (goodIn_app (goodIn_of _ (by decide +kernel)) (goodIn_sub (fun _ h => List.mem_cons_of_mem _ (List.mem_append_right _ (List.mem_append_left _ h))) zX17_noEvent_ws_good)) rfl rfl rfl (by decide +kernel) ⟨Nat.le_of_ble_eq_true rfl, Nat.le_of_ble_eq_true rfl⟩) ⟨zPre.blind, va_recv hKc hPc (ci := 23) (q0 := 0) rfl rfl, zPre.mk hPc hKc hDc hz hS (fun q h => hFc q h)⟩ rfl rfl hl.1 rfl (lv_room (Nat.le_of_ble_eq_true rfl)) dX17_close_2 ⟨Nat.le_of_ble_eq_true rfl, Nat.le_of_ble_eq_true rfl⟩) hS (fun q _ h => hFc q h) (fun q h => hFc q h) (fun r9 u t H1 locs ht9 hvm hw hB hz1 hk1 hS => ?_)
  refine W.widen (k := 0) (n := 0) (by omega) (by omega) ?_
  obtain ⟨hP1, hK1, hD1⟩ := hB
  rw [ht9] at hP1
  have hK1 := va_K.moved hvm.symm hK1
  obtain ⟨hP, hD⟩ := va_join (wr := []) (w1 := [(mo, .inr (23, [.int 1, .ref b0, .ref b1, .ref b2, .ref b3, .int 0, .int 0, .long 0])), (b2, .inr (5, [.int 0, .ref dz, .int 0]))]) hP hD [0, 1] [] rfl rfl (by decide) (by decide) hk1 hFc hP1 hD1
  have hK := (hK.sub (tys' := []) [] rfl).app hK1
  generalize H1 = H at hP hS ⊢
  have hP : va_P D vwCl [(mo, .inr (23, [.int 1, .ref b0, .ref b1, .ref b2, .ref b3, .int 0, .int 0, .long 0])), (b2, .inr (5, [.int 0, .ref dz, .int 0]))] H := hP
  have hD : va_D A [(mo, .inr (23, [.int 1, .ref b0, .ref b1, .ref b2, .ref b3, .int 0, .int 0, .long 0])), (b2, .inr (5, [.int 0, .ref dz, .int 0]))] := hD
  have hK : va_K D vwCl [] s := hK
  subst hw
  refine lv_if_eq (tgt := 10) hx hb dX17_close_5 (by decide) (fun c => absurd c (by decide)) (fun _ => ?_)
  refine lv_iconst (v := 0) hx hb dX17_close_8 (by decide) ?_
  have hP9 := hP.sub (ws' := [(mo, .inr (23, [.int 1, .ref b0, .ref b1, .ref b2, .ref b3, .int 0, .int 0, .long 0])), (b2, .inr (5, [.int 0, .ref dz, .int 0]))]) [0, 1] rfl
  have hD9 := hD.sub (ws' := [(mo, .inr (23, [.int 1, .ref b0, .ref b1, .ref b2, .ref b3, .int 0, .int 0, .long 0])), (b2, .inr (5, [.int 0, .ref dz, .int 0]))]) [0, 1] (by decide) rfl
  have hK9 := hK.sub (tys' := []) [] rfl
  rw [← hAe] at hD9
  refine W.widen (k := 0) (n := 0) (by omega) (by omega) ?_
  subst hAe
  exact W.zret (v := 0) hx hb hr rfl (fun t ht9 hW => ⟨⟨0, (), rfl, rfl, ⟨by rw [ht9]; exact hP9, va_K.moved hW.alike hK9, hD9⟩⟩, hS.F ht9⟩) hS.2.2 dX17_close_9

def zX17_record_ws : List Cond := .code yX17_record cX17_record 4 (some .int) :: ([.methodLink RX17 146 yX17_noEvent, .instanceMethod yX17_noEvent, .selects RX17 yX17_noEvent yX17_noEvent, .initialized RX17] ++ (zX17_noEvent_ws ++ ([])))
theorem zX17_record_ws_good : zX17_record_ws.all goodWord = true := by decide +kernel
set_option maxHeartbeats 4000000 in
set_option maxRecDepth 100000 in
/-- the reference refuses record -/
theorem cm_record (l : Launch) (hst : l.stackTraces = false) (D : va_G) (sz : Nat) (mo b0 b1 b2 b3 dz : Nat) (th : Int32) (x1 : Int32) : Met l yX17_record zX17_record_ws (zR 4 0 0) (zPre [.ref mo, .int x1] D [(mo, .inr (23, [.int th, .ref b0, .ref b1, .ref b2, .ref b3, .int 0, .int 0, .long 0])), (b2, .inr (5, [.int 0, .ref dz, .int 0]))] [] (va_A [(mo, .inr (23, [.int th, .ref b0, .ref b1, .ref b2, .ref b3, .int 0, .int 0, .long 0])), (b2, .inr (5, [.int 0, .ref dz, .int 0]))] sz) sz) (va_Qi (S := Unit) (fun r _ => r = 0) (fun _ t => zAt D [(mo, .inr (23, [.int 1, .ref b0, .ref b1, .ref b2, .ref b3, .int 0, .int 0, .long 0])), (b2, .inr (5, [.int 0, .ref dz, .int 0]))] [] (va_A [(mo, .inr (23, [.int th, .ref b0, .ref b1, .ref b2, .ref b3, .int 0, .int 0, .long 0])), (b2, .inr (5, [.int 0, .ref dz, .int 0]))] sz) t) (va_A [(mo, .inr (23, [.int th, .ref b0, .ref b1, .ref b2, .ref b3, .int 0, .int 0, .long 0])), (b2, .inr (5, [.int 0, .ref dz, .int 0]))] sz)) 0 0 (va_A [(mo, .inr (23, [.int th, .ref b0, .ref b1, .ref b2, .ref b3, .int 0, .int 0, .long 0])), (b2, .inr (5, [.int 0, .ref dz, .int 0]))] sz) := by
  refine Met.ofW (cc := cX17_record) (maxL := 4) (ret := (some .int)) (by decide) rfl ?_
  intro p e s m args below meth c s₁ B hml hv
  obtain ⟨rfl, hsz, hP, hK, hD0, hz⟩ := hv
  have hx := B.exec
  have hb := B.bytes
  have hr := B.returns
  have hts := atoms_spec (ws := zX17_record_ws) B.pre
  have hown : s.vm.findClass RX17 = some m.cls := findClass_of_methodNamed B.named
  have hlocks := B.notSynchronized
  subst hsz
  have hD := hD0.self (sz := s.heap.size)
  generalize hAe : va_A [(mo, .inr (23, [.int th, .ref b0, .ref b1, .ref b2, .ref b3, .int 0, .int 0, .long 0])), (b2, .inr (5, [.int 0, .ref dz, .int 0]))] s.heap.size = A at hD hz ⊢
  have hA : ∀ q : Nat, s.heap.size ≤ q → A q := fun q h => by rw [← hAe]; exact Or.inr h
  have hS : va_S A s.heap s.heap [] := va_S.rf
  have hP : va_P D vwCl [(mo, .inr (23, [.int th, .ref b0, .ref b1, .ref b2, .ref b3, .int 0, .int 0, .long 0])), (b2, .inr (5, [.int 0, .ref dz, .int 0]))] s.heap := hP
  have hl := lv_entry ([.ref mo, .int x1]) (n := 4) (Nat.le_of_ble_eq_true rfl)
  rw [lg_entry_eq]
  generalize (lg_sl ([.ref mo, .int x1]) ++ List.replicate (4 - (lg_sl ([.ref mo, .int x1])).length) Slot.unset).toArray = ls at hl ⊢
  have hl : lv_has ls 4 [(0, .ref mo), (1, .int x1)] := hl
  refine lv_aload_n hx hb dX17_record_0 rfl (lv_at hl 0 rfl) ?_
  refine lv_iload_n hx hb dX17_record_1 rfl (lv_at hl 1 rfl) ?_
  have hPc := hP.sub (ws' := [(mo, .inr (23, [.int th, .ref b0, .ref b1, .ref b2, .ref b3, .int 0, .int 0, .long 0])), (b2, .inr (5, [.int 0, .ref dz, .int 0]))]) [0, 1] rfl
  have hDc := hD.sub (ws' := [(mo, .inr (23, [.int th, .ref b0, .ref b1, .ref b2, .ref b3, .int 0, .int 0, .long 0])), (b2, .inr (5, [.int 0, .ref dz, .int 0]))]) [0, 1] (by decide) rfl
  have hKc := hK.sub (tys' := []) [] rfl
  have hFc := va_free (wc := [(mo, .inr (23, [.int th, .ref b0, .ref b1, .ref b2, .ref b3, .int 0, .int 0, .long 0])), (b2, .inr (5, [.int 0, .ref dz, .int 0]))]) hD hS hA [0, 1] rfl
  refine va_calli (va_runV (As := [.int x1]) (rest := []) ⟨hx, hb, hml, hown, hts⟩ (cm_noEvent l hst D s.heap.size mo b0 b1 b2 b3 dz th x1) (cwV 1 hts (goodIn_app (goodIn_of _ (by decide +kernel)) (goodIn_sub (fun _ h => List.mem_cons_of_mem _ (List.mem_append_right _ (List.mem_append_left _ h))) zX17_noEvent_ws_good)) rfl rfl rfl (by decide +kernel) ⟨Nat.le_of_ble_eq_true rfl, Nat.le_of_ble_eq_true rfl⟩) ⟨zPre.blind, va_recv hKc hPc (ci := 23) (q0 := 0) rfl rfl, zPre.mk hPc hKc hDc hz hS (fun q h => hFc q h)⟩ rfl rfl hl.1 rfl (lv_room (Nat.le_of_ble_eq_true rfl)) dX17_record_2 ⟨Nat.le_of_ble_eq_true rfl, Nat.le_of_ble_eq_true rfl⟩) hS (fun q _ h => hFc q h) (fun q h => hFc q h) (fun r9 u t H1 locs ht9 hvm hw hB hz1 hk1 hS => ?_)
  refine W.widen (k := 0) (n := 0) (by omega) (by omega) ?_
  obtain ⟨hP1, hK1, hD1⟩ := hB
  rw [ht9] at hP1
  have hK1 := va_K.moved hvm.symm hK1
  obtain ⟨hP, hD⟩ := va_join (wr := []) (w1 := [(mo, .inr (23, [.int 1, .ref b0, .ref b1, .ref b2, .ref b3, .int 0, .int 0, .long 0])), (b2, .inr (5, [.int 0, .ref dz, .int 0]))]) hP hD [0, 1] [] rfl rfl (by decide) (by decide) hk1 hFc hP1 hD1
  have hK := (hK.sub (tys' := []) [] rfl).app hK1
  generalize H1 = H at hP hS ⊢
  have hP : va_P D vwCl [(mo, .inr (23, [.int 1, .ref b0, .ref b1, .ref b2, .ref b3, .int 0, .int 0, .long 0])), (b2, .inr (5, [.int 0, .ref dz, .int 0]))] H := hP
  have hD : va_D A [(mo, .inr (23, [.int 1, .ref b0, .ref b1, .ref b2, .ref b3, .int 0, .int 0, .long 0])), (b2, .inr (5, [.int 0, .ref dz, .int 0]))] := hD
  have hK : va_K D vwCl [] s := hK
  subst hw
  refine lv_if_eq (tgt := 10) hx hb dX17_record_5 (by decide) (fun c => absurd c (by decide)) (fun _ => ?_)
  refine lv_iconst (v := 0) hx hb dX17_record_8 (by decide) ?_
  have hP9 := hP.sub (ws' := [(mo, .inr (23, [.int 1, .ref b0, .ref b1, .ref b2, .ref b3, .int 0, .int 0, .long 0])), (b2, .inr (5, [.int 0, .ref dz, .int 0]))]) [0, 1] rfl
  have hD9 := hD.sub (ws' := [(mo, .inr (23, [.int 1, .ref b0, .ref b1, .ref b2, .ref b3, .int 0, .int 0, .long 0])), (b2, .inr (5, [.int 0, .ref dz, .int 0]))]) [0, 1] (by decide) rfl
  have hK9 := hK.sub (tys' := []) [] rfl
  rw [← hAe] at hD9
  refine W.widen (k := 0) (n := 0) (by omega) (by omega) ?_
  subst hAe
  exact W.iret (v := 0) hx hb hr (fun t ht9 hW => ⟨⟨0, (), rfl, rfl, ⟨by rw [ht9]; exact hP9, va_K.moved hW.alike hK9, hD9⟩⟩, hS.F ht9⟩) hS.2.2 dX17_record_9

def zX17_holder_ws : List Cond := .code yX17_holder cX17_holder 4 (some .int) :: ([.methodLink RX17 146 yX17_noEvent, .instanceMethod yX17_noEvent, .selects RX17 yX17_noEvent yX17_noEvent, .initialized RX17] ++ (zX17_noEvent_ws ++ ([])))
theorem zX17_holder_ws_good : zX17_holder_ws.all goodWord = true := by decide +kernel
set_option maxHeartbeats 4000000 in
set_option maxRecDepth 100000 in
/-- the reference refuses holder -/
theorem cm_holder (l : Launch) (hst : l.stackTraces = false) (D : va_G) (sz : Nat) (mo b0 b1 b2 b3 dz : Nat) (th : Int32) (x1 : Int32) : Met l yX17_holder zX17_holder_ws (zR 4 0 0) (zPre [.ref mo, .int x1] D [(mo, .inr (23, [.int th, .ref b0, .ref b1, .ref b2, .ref b3, .int 0, .int 0, .long 0])), (b2, .inr (5, [.int 0, .ref dz, .int 0]))] [] (va_A [(mo, .inr (23, [.int th, .ref b0, .ref b1, .ref b2, .ref b3, .int 0, .int 0, .long 0])), (b2, .inr (5, [.int 0, .ref dz, .int 0]))] sz) sz) (va_Qi (S := Unit) (fun r _ => r = 0) (fun _ t => zAt D [(mo, .inr (23, [.int 1, .ref b0, .ref b1, .ref b2, .ref b3, .int 0, .int 0, .long 0])), (b2, .inr (5, [.int 0, .ref dz, .int 0]))] [] (va_A [(mo, .inr (23, [.int th, .ref b0, .ref b1, .ref b2, .ref b3, .int 0, .int 0, .long 0])), (b2, .inr (5, [.int 0, .ref dz, .int 0]))] sz) t) (va_A [(mo, .inr (23, [.int th, .ref b0, .ref b1, .ref b2, .ref b3, .int 0, .int 0, .long 0])), (b2, .inr (5, [.int 0, .ref dz, .int 0]))] sz)) 0 0 (va_A [(mo, .inr (23, [.int th, .ref b0, .ref b1, .ref b2, .ref b3, .int 0, .int 0, .long 0])), (b2, .inr (5, [.int 0, .ref dz, .int 0]))] sz) := by
  refine Met.ofW (cc := cX17_holder) (maxL := 4) (ret := (some .int)) (by decide) rfl ?_
  intro p e s m args below meth c s₁ B hml hv
  obtain ⟨rfl, hsz, hP, hK, hD0, hz⟩ := hv
  have hx := B.exec
  have hb := B.bytes
  have hr := B.returns
  have hts := atoms_spec (ws := zX17_holder_ws) B.pre
  have hown : s.vm.findClass RX17 = some m.cls := findClass_of_methodNamed B.named
  have hlocks := B.notSynchronized
  subst hsz
  have hD := hD0.self (sz := s.heap.size)
  generalize hAe : va_A [(mo, .inr (23, [.int th, .ref b0, .ref b1, .ref b2, .ref b3, .int 0, .int 0, .long 0])), (b2, .inr (5, [.int 0, .ref dz, .int 0]))] s.heap.size = A at hD hz ⊢
  have hA : ∀ q : Nat, s.heap.size ≤ q → A q := fun q h => by rw [← hAe]; exact Or.inr h
  have hS : va_S A s.heap s.heap [] := va_S.rf
  have hP : va_P D vwCl [(mo, .inr (23, [.int th, .ref b0, .ref b1, .ref b2, .ref b3, .int 0, .int 0, .long 0])), (b2, .inr (5, [.int 0, .ref dz, .int 0]))] s.heap := hP
  have hl := lv_entry ([.ref mo, .int x1]) (n := 4) (Nat.le_of_ble_eq_true rfl)
  rw [lg_entry_eq]
  generalize (lg_sl ([.ref mo, .int x1]) ++ List.replicate (4 - (lg_sl ([.ref mo, .int x1])).length) Slot.unset).toArray = ls at hl ⊢
  have hl : lv_has ls 4 [(0, .ref mo), (1, .int x1)] := hl
  refine lv_aload_n hx hb dX17_holder_0 rfl (lv_at hl 0 rfl) ?_
  refine lv_iload_n hx hb dX17_holder_1 rfl (lv_at hl 1 rfl) ?_
  have hPc := hP.sub (ws' := [(mo, .inr (23, [.int th, .ref b0, .ref b1, .ref b2, .ref b3, .int 0, .int 0, .long 0])), (b2, .inr (5, [.int 0, .ref dz, .int 0]))]) [0, 1] rfl
  have hDc := hD.sub (ws' := [(mo, .inr (23, [.int th, .ref b0, .ref b1, .ref b2, .ref b3, .int 0, .int 0, .long 0])), (b2, .inr (5, [.int 0, .ref dz, .int 0]))]) [0, 1] (by decide) rfl
  have hKc := hK.sub (tys' := []) [] rfl
  have hFc := va_free (wc := [(mo, .inr (23, [.int th, .ref b0, .ref b1, .ref b2, .ref b3, .int 0, .int 0, .long 0])), (b2, .inr (5, [.int 0, .ref dz, .int 0]))]) hD hS hA [0, 1] rfl
  refine va_calli (va_runV (As := [.int x1]) (rest := []) ⟨hx, hb, hml, hown, hts⟩ (cm_noEvent l hst D s.heap.size mo b0 b1 b2 b3 dz th x1) (cwV 1 hts (goodIn_app (goodIn_of _ (by decide +kernel)) (goodIn_sub (fun _ h => List.mem_cons_of_mem _ (List.mem_append_right _ (List.mem_append_left _ h))) zX17_noEvent_ws_good)) rfl rfl rfl (by decide +kernel) ⟨Nat.le_of_ble_eq_true rfl, Nat.le_of_ble_eq_true rfl⟩) ⟨zPre.blind, va_recv hKc hPc (ci := 23) (q0 := 0) rfl rfl, zPre.mk hPc hKc hDc hz hS (fun q h => hFc q h)⟩ rfl rfl hl.1 rfl (lv_room (Nat.le_of_ble_eq_true rfl)) dX17_holder_2 ⟨Nat.le_of_ble_eq_true rfl, Nat.le_of_ble_eq_true rfl⟩) hS (fun q _ h => hFc q h) (fun q h => hFc q h) (fun r9 u t H1 locs ht9 hvm hw hB hz1 hk1 hS => ?_)
  refine W.widen (k := 0) (n := 0) (by omega) (by omega) ?_
  obtain ⟨hP1, hK1, hD1⟩ := hB
  rw [ht9] at hP1
  have hK1 := va_K.moved hvm.symm hK1
  obtain ⟨hP, hD⟩ := va_join (wr := []) (w1 := [(mo, .inr (23, [.int 1, .ref b0, .ref b1, .ref b2, .ref b3, .int 0, .int 0, .long 0])), (b2, .inr (5, [.int 0, .ref dz, .int 0]))]) hP hD [0, 1] [] rfl rfl (by decide) (by decide) hk1 hFc hP1 hD1
  have hK := (hK.sub (tys' := []) [] rfl).app hK1
  generalize H1 = H at hP hS ⊢
  have hP : va_P D vwCl [(mo, .inr (23, [.int 1, .ref b0, .ref b1, .ref b2, .ref b3, .int 0, .int 0, .long 0])), (b2, .inr (5, [.int 0, .ref dz, .int 0]))] H := hP
  have hD : va_D A [(mo, .inr (23, [.int 1, .ref b0, .ref b1, .ref b2, .ref b3, .int 0, .int 0, .long 0])), (b2, .inr (5, [.int 0, .ref dz, .int 0]))] := hD
  have hK : va_K D vwCl [] s := hK
  subst hw
  refine lv_if_eq (tgt := 10) hx hb dX17_holder_5 (by decide) (fun c => absurd c (by decide)) (fun _ => ?_)
  refine lv_iconst (v := 0) hx hb dX17_holder_8 (by decide) ?_
  have hP9 := hP.sub (ws' := [(mo, .inr (23, [.int 1, .ref b0, .ref b1, .ref b2, .ref b3, .int 0, .int 0, .long 0])), (b2, .inr (5, [.int 0, .ref dz, .int 0]))]) [0, 1] rfl
  have hD9 := hD.sub (ws' := [(mo, .inr (23, [.int 1, .ref b0, .ref b1, .ref b2, .ref b3, .int 0, .int 0, .long 0])), (b2, .inr (5, [.int 0, .ref dz, .int 0]))]) [0, 1] (by decide) rfl
  have hK9 := hK.sub (tys' := []) [] rfl
  rw [← hAe] at hD9
  refine W.widen (k := 0) (n := 0) (by omega) (by omega) ?_
  subst hAe
  exact W.iret (v := 0) hx hb hr (fun t ht9 hW => ⟨⟨0, (), rfl, rfl, ⟨by rw [ht9]; exact hP9, va_K.moved hW.alike hK9, hD9⟩⟩, hS.F ht9⟩) hS.2.2 dX17_holder_9

def zX17_sharers_ws : List Cond := .code yX17_sharers cX17_sharers 7 (some .int) :: ([.methodLink RX17 146 yX17_noEvent, .instanceMethod yX17_noEvent, .selects RX17 yX17_noEvent yX17_noEvent, .initialized RX17] ++ (zX17_noEvent_ws ++ ([])))
theorem zX17_sharers_ws_good : zX17_sharers_ws.all goodWord = true := by decide +kernel
set_option maxHeartbeats 4000000 in
set_option maxRecDepth 100000 in
/-- the reference refuses sharers -/
theorem cm_sharers (l : Launch) (hst : l.stackTraces = false) (D : va_G) (sz : Nat) (mo b0 b1 b2 b3 dz : Nat) (th : Int32) (x1 : Int32) : Met l yX17_sharers zX17_sharers_ws (zR 4 0 0) (zPre [.ref mo, .int x1] D [(mo, .inr (23, [.int th, .ref b0, .ref b1, .ref b2, .ref b3, .int 0, .int 0, .long 0])), (b2, .inr (5, [.int 0, .ref dz, .int 0]))] [] (va_A [(mo, .inr (23, [.int th, .ref b0, .ref b1, .ref b2, .ref b3, .int 0, .int 0, .long 0])), (b2, .inr (5, [.int 0, .ref dz, .int 0]))] sz) sz) (va_Qi (S := Unit) (fun r _ => r = 0) (fun _ t => zAt D [(mo, .inr (23, [.int 1, .ref b0, .ref b1, .ref b2, .ref b3, .int 0, .int 0, .long 0])), (b2, .inr (5, [.int 0, .ref dz, .int 0]))] [] (va_A [(mo, .inr (23, [.int th, .ref b0, .ref b1, .ref b2, .ref b3, .int 0, .int 0, .long 0])), (b2, .inr (5, [.int 0, .ref dz, .int 0]))] sz) t) (va_A [(mo, .inr (23, [.int th, .ref b0, .ref b1, .ref b2, .ref b3, .int 0, .int 0, .long 0])), (b2, .inr (5, [.int 0, .ref dz, .int 0]))] sz)) 0 0 (va_A [(mo, .inr (23, [.int th, .ref b0, .ref b1, .ref b2, .ref b3, .int 0, .int 0, .long 0])), (b2, .inr (5, [.int 0, .ref dz, .int 0]))] sz) := by
  refine Met.ofW (cc := cX17_sharers) (maxL := 7) (ret := (some .int)) (by decide) rfl ?_
  intro p e s m args below meth c s₁ B hml hv
  obtain ⟨rfl, hsz, hP, hK, hD0, hz⟩ := hv
  have hx := B.exec
  have hb := B.bytes
  have hr := B.returns
  have hts := atoms_spec (ws := zX17_sharers_ws) B.pre
  have hown : s.vm.findClass RX17 = some m.cls := findClass_of_methodNamed B.named
  have hlocks := B.notSynchronized
  subst hsz
  have hD := hD0.self (sz := s.heap.size)
  generalize hAe : va_A [(mo, .inr (23, [.int th, .ref b0, .ref b1, .ref b2, .ref b3, .int 0, .int 0, .long 0])), (b2, .inr (5, [.int 0, .ref dz, .int 0]))] s.heap.size = A at hD hz ⊢
  have hA : ∀ q : Nat, s.heap.size ≤ q → A q := fun q h => by rw [← hAe]; exact Or.inr h
  have hS : va_S A s.heap s.heap [] := va_S.rf
  have hP : va_P D vwCl [(mo, .inr (23, [.int th, .ref b0, .ref b1, .ref b2, .ref b3, .int 0, .int 0, .long 0])), (b2, .inr (5, [.int 0, .ref dz, .int 0]))] s.heap := hP
  have hl := lv_entry ([.ref mo, .int x1]) (n := 7) (Nat.le_of_ble_eq_true rfl)
  rw [lg_entry_eq]
  generalize (lg_sl ([.ref mo, .int x1]) ++ List.replicate (7 - (lg_sl ([.ref mo, .int x1])).length) Slot.unset).toArray = ls at hl ⊢
  have hl : lv_has ls 7 [(0, .ref mo), (1, .int x1)] := hl
  refine lv_aload_n hx hb dX17_sharers_0 rfl (lv_at hl 0 rfl) ?_
  refine lv_iload_n hx hb dX17_sharers_1 rfl (lv_at hl 1 rfl) ?_
  have hPc := hP.sub (ws' := [(mo, .inr (23, [.int th, .ref b0, .ref b1, .ref b2, .ref b3, .int 0, .int 0, .long 0])), (b2, .inr (5, [.int 0, .ref dz, .int 0]))]) [0, 1] rfl
  have hDc := hD.sub (ws' := [(mo, .inr (23, [.int th, .ref b0, .ref b1, .ref b2, .ref b3, .int 0, .int 0, .long 0])), (b2, .inr (5, [.int 0, .ref dz, .int 0]))]) [0, 1] (by decide) rfl
  have hKc := hK.sub (tys' := []) [] rfl
  have hFc := va_free (wc := [(mo, .inr (23, [.int th, .ref b0, .ref b1, .ref b2, .ref b3, .int 0, .int 0, .long 0])), (b2, .inr (5, [.int 0, .ref dz, .int 0]))]) hD hS hA [0, 1] rfl
  refine va_calli (va_runV (As := [.int x1]) (rest := []) ⟨hx, hb, hml, hown, hts⟩ (cm_noEvent l hst D s.heap.size mo b0 b1 b2 b3 dz th x1) (cwV 1 hts (goodIn_app (goodIn_of _ (by decide +kernel)) (goodIn_sub (fun _ h => List.mem_cons_of_mem _ (List.mem_append_right _ (List.mem_append_left _ h))) zX17_noEvent_ws_good)) rfl rfl rfl (by decide +kernel) ⟨Nat.le_of_ble_eq_true rfl, Nat.le_of_ble_eq_true rfl⟩) ⟨zPre.blind, va_recv hKc hPc (ci := 23) (q0 := 0) rfl rfl, zPre.mk hPc hKc hDc hz hS (fun q h => hFc q h)⟩ rfl rfl hl.1 rfl (lv_room (Nat.le_of_ble_eq_true rfl)) dX17_sharers_2 ⟨Nat.le_of_ble_eq_true rfl, Nat.le_of_ble_eq_true rfl⟩) hS (fun q _ h => hFc q h) (fun q h => hFc q h) (fun r9 u t H1 locs ht9 hvm hw hB hz1 hk1 hS => ?_)
  refine W.widen (k := 0) (n := 0) (by omega) (by omega) ?_
  obtain ⟨hP1, hK1, hD1⟩ := hB
  rw [ht9] at hP1
  have hK1 := va_K.moved hvm.symm hK1
  obtain ⟨hP, hD⟩ := va_join (wr := []) (w1 := [(mo, .inr (23, [.int 1, .ref b0, .ref b1, .ref b2, .ref b3, .int 0, .int 0, .long 0])), (b2, .inr (5, [.int 0, .ref dz, .int 0]))]) hP hD [0, 1] [] rfl rfl (by decide) (by decide) hk1 hFc hP1 hD1
  have hK := (hK.sub (tys' := []) [] rfl).app hK1
  generalize H1 = H at hP hS ⊢
  have hP : va_P D vwCl [(mo, .inr (23, [.int 1, .ref b0, .ref b1, .ref b2, .ref b3, .int 0, .int 0, .long 0])), (b2, .inr (5, [.int 0, .ref dz, .int 0]))] H := hP
  have hD : va_D A [(mo, .inr (23, [.int 1, .ref b0, .ref b1, .ref b2, .ref b3, .int 0, .int 0, .long 0])), (b2, .inr (5, [.int 0, .ref dz, .int 0]))] := hD
  have hK : va_K D vwCl [] s := hK
  subst hw
  refine lv_if_eq (tgt := 10) hx hb dX17_sharers_5 (by decide) (fun c => absurd c (by decide)) (fun _ => ?_)
  refine lv_iconst (v := 0) hx hb dX17_sharers_8 (by decide) ?_
  have hP9 := hP.sub (ws' := [(mo, .inr (23, [.int 1, .ref b0, .ref b1, .ref b2, .ref b3, .int 0, .int 0, .long 0])), (b2, .inr (5, [.int 0, .ref dz, .int 0]))]) [0, 1] rfl
  have hD9 := hD.sub (ws' := [(mo, .inr (23, [.int 1, .ref b0, .ref b1, .ref b2, .ref b3, .int 0, .int 0, .long 0])), (b2, .inr (5, [.int 0, .ref dz, .int 0]))]) [0, 1] (by decide) rfl
  have hK9 := hK.sub (tys' := []) [] rfl
  rw [← hAe] at hD9
  refine W.widen (k := 0) (n := 0) (by omega) (by omega) ?_
  subst hAe
  exact W.iret (v := 0) hx hb hr (fun t ht9 hW => ⟨⟨0, (), rfl, rfl, ⟨by rw [ht9]; exact hP9, va_K.moved hW.alike hK9, hD9⟩⟩, hS.F ht9⟩) hS.2.2 dX17_sharers_9

def zX17_dope_ws : List Cond := .code yX17_dope cX17_dope 3 (some .boolean) :: ([.methodLink RX17 70 yX17_isAthlete, .instanceMethod yX17_isAthlete, .selects RX17 yX17_isAthlete yX17_isAthlete, .initialized RX17, .fieldLink RX17 25 "HeatStadiumModel" "thrown" "I"] ++ (zX17_isAthlete_ws ++ (wsX170 ++ ([]))))
theorem zX17_dope_ws_good : zX17_dope_ws.all goodWord = true := by decide +kernel
set_option maxHeartbeats 4000000 in
set_option maxRecDepth 100000 in
/-- the reference refuses dope -/
theorem cm_dope (l : Launch) (hst : l.stackTraces = false) (D : va_G) (sz : Nat) (mo b0 b1 b2 b3 dz : Nat) (th : Int32) (x1 x2 : Int32) : Met l yX17_dope zX17_dope_ws (zR 4 0 0) (zPre [.ref mo, .int x1, .int x2] D [(mo, .inr (23, [.int th, .ref b0, .ref b1, .ref b2, .ref b3, .int 0, .int 0, .long 0])), (b0, .inr (5, [.int 0, .ref dz, .int 0]))] [] (va_A [(mo, .inr (23, [.int th, .ref b0, .ref b1, .ref b2, .ref b3, .int 0, .int 0, .long 0])), (b0, .inr (5, [.int 0, .ref dz, .int 0]))] sz) sz) (va_Qi (S := Unit) (fun r _ => r = 0) (fun _ t => zAt D [(mo, .inr (23, [.int 1, .ref b0, .ref b1, .ref b2, .ref b3, .int 0, .int 0, .long 0])), (b0, .inr (5, [.int 0, .ref dz, .int 0]))] [] (va_A [(mo, .inr (23, [.int th, .ref b0, .ref b1, .ref b2, .ref b3, .int 0, .int 0, .long 0])), (b0, .inr (5, [.int 0, .ref dz, .int 0]))] sz) t) (va_A [(mo, .inr (23, [.int th, .ref b0, .ref b1, .ref b2, .ref b3, .int 0, .int 0, .long 0])), (b0, .inr (5, [.int 0, .ref dz, .int 0]))] sz)) 0 0 (va_A [(mo, .inr (23, [.int th, .ref b0, .ref b1, .ref b2, .ref b3, .int 0, .int 0, .long 0])), (b0, .inr (5, [.int 0, .ref dz, .int 0]))] sz) := by
  refine Met.ofW (cc := cX17_dope) (maxL := 3) (ret := (some .boolean)) (by decide) rfl ?_
  intro p e s m args below meth c s₁ B hml hv
  obtain ⟨rfl, hsz, hP, hK, hD0, hz⟩ := hv
  have hx := B.exec
  have hb := B.bytes
  have hr := B.returns
  have hts := atoms_spec (ws := zX17_dope_ws) B.pre
  have hown : s.vm.findClass RX17 = some m.cls := findClass_of_methodNamed B.named
  have hlocks := B.notSynchronized
  subst hsz
  have hD := hD0.self (sz := s.heap.size)
  generalize hAe : va_A [(mo, .inr (23, [.int th, .ref b0, .ref b1, .ref b2, .ref b3, .int 0, .int 0, .long 0])), (b0, .inr (5, [.int 0, .ref dz, .int 0]))] s.heap.size = A at hD hz ⊢
  have hA : ∀ q : Nat, s.heap.size ≤ q → A q := fun q h => by rw [← hAe]; exact Or.inr h
  have hS : va_S A s.heap s.heap [] := va_S.rf
  have hP : va_P D vwCl [(mo, .inr (23, [.int th, .ref b0, .ref b1, .ref b2, .ref b3, .int 0, .int 0, .long 0])), (b0, .inr (5, [.int 0, .ref dz, .int 0]))] s.heap := hP
  have hl := lv_entry ([.ref mo, .int x1, .int x2]) (n := 3) (Nat.le_of_ble_eq_true rfl)
  rw [lg_entry_eq]
  generalize (lg_sl ([.ref mo, .int x1, .int x2]) ++ List.replicate (3 - (lg_sl ([.ref mo, .int x1, .int x2])).length) Slot.unset).toArray = ls at hl ⊢
  have hl : lv_has ls 3 [(0, .ref mo), (1, .int x1), (2, .int x2)] := hl
  refine lv_aload_n hx hb dX17_dope_0 rfl (lv_at hl 0 rfl) ?_
  refine lv_aload_n hx hb dX17_dope_1 rfl (lv_at hl 0 rfl) ?_
  refine lv_iload_n hx hb dX17_dope_2 rfl (lv_at hl 1 rfl) ?_
  have hPc := hP.sub (ws' := [(mo, .inr (23, [.int th, .ref b0, .ref b1, .ref b2, .ref b3, .int 0, .int 0, .long 0])), (b0, .inr (5, [.int 0, .ref dz, .int 0]))]) [0, 1] rfl
  have hDc := hD.sub (ws' := [(mo, .inr (23, [.int th, .ref b0, .ref b1, .ref b2, .ref b3, .int 0, .int 0, .long 0])), (b0, .inr (5, [.int 0, .ref dz, .int 0]))]) [0, 1] (by decide) rfl
  have hKc := hK.sub (tys' := []) [] rfl
  have hFc : ∀ q : Nat, s.heap.size ≤ q → A q := fun q h => hA q (Nat.le_trans hS.1 h)
  refine va_calli (va_runV (As := [.int x1]) (rest := [.ref mo]) ⟨hx, hb, hml, hown, hts⟩ (cm_isAthlete l hst D s.heap.size mo b0 b1 b2 b3 dz th x1) (cwV 1 hts (goodIn_app (goodIn_of _ (by decide +kernel)) (goodIn_sub (fun _ h => List.mem_cons_of_mem _ (List.mem_append_right _ (List.mem_append_left _ h))) zX17_isAthlete_ws_good)) rfl rfl rfl (by decide +kernel) ⟨Nat.le_of_ble_eq_true rfl, Nat.le_of_ble_eq_true rfl⟩) ⟨zPre.blind, va_recv hKc hPc (ci := 23) (q0 := 0) rfl rfl, zPre.mk hPc hKc hDc hz hS (fun q h => hFc q h)⟩ rfl rfl hl.1 rfl (lv_room (Nat.le_of_ble_eq_true rfl)) dX17_dope_3 ⟨Nat.le_of_ble_eq_true rfl, Nat.le_of_ble_eq_true rfl⟩) hS (fun q _ h => hFc q h) (fun q h => hFc q h) (fun r9 u t H1 locs ht9 hvm hw hB hz1 hk1 hS => ?_)
  refine W.widen (k := 0) (n := 0) (by omega) (by omega) ?_
  have hP := zKeep hP hk1
  generalize H1 = H at hP hS ⊢
  have hP : va_P D vwCl [(mo, .inr (23, [.int th, .ref b0, .ref b1, .ref b2, .ref b3, .int 0, .int 0, .long 0])), (b0, .inr (5, [.int 0, .ref dz, .int 0]))] H := hP
  subst hw
  refine lv_if_eq (tgt := 13) hx hb dX17_dope_6 (by decide) (fun _ => ?_) (fun c => absurd (by decide) c)
  refine lv_iconst (v := 1) hx hb dX17_dope_13 (by decide) ?_
  refine va_put (D := D) (ci := 23) (v := .int 1) (ty := .int) (C := RX17) (T := TX17) (N := 8) hx hb hts (by decide +kernel) tyX17 tyX17_ok nmX17 hown hK hP hD hS 0 rfl rfl 0 (by decide) (hts (.fieldLink RX17 25 "HeatStadiumModel" "thrown" "I") (by decide +kernel)) (fun _ h9 => h9) rfl (by decide +kernel) rfl rfl (Nat.le_of_ble_eq_true rfl) dX17_dope_14 (fun H locs hP hD hS => ?_)
  have hP : va_P D vwCl [(mo, .inr (23, [.int 1, .ref b0, .ref b1, .ref b2, .ref b3, .int 0, .int 0, .long 0])), (b0, .inr (5, [.int 0, .ref dz, .int 0]))] H := hP
  have hD : va_D A [(mo, .inr (23, [.int 1, .ref b0, .ref b1, .ref b2, .ref b3, .int 0, .int 0, .long 0])), (b0, .inr (5, [.int 0, .ref dz, .int 0]))] := hD
  refine lv_aload_n hx hb dX17_dope_17 rfl (lv_at hl 0 rfl) ?_
  refine va_get (D := D) (ci := 23) (v := .int 1) (C := RX17) (T := TX17) (N := 8) hx hb hts (by decide +kernel) hown hK hP 0 rfl rfl 0 (by decide) (hts (.fieldLink RX17 25 "HeatStadiumModel" "thrown" "I") (by decide +kernel)) (fun _ h9 => h9) rfl dX17_dope_18 ?_
  refine lv_if_ne (tgt := 49) hx hb dX17_dope_21 (by decide) (fun _ => ?_) (fun c => absurd c (by decide))
  refine lv_iconst (v := 0) hx hb dX17_dope_49 (by decide) ?_
  have hP9 := hP.sub (ws' := [(mo, .inr (23, [.int 1, .ref b0, .ref b1, .ref b2, .ref b3, .int 0, .int 0, .long 0])), (b0, .inr (5, [.int 0, .ref dz, .int 0]))]) [0, 1] rfl
  have hD9 := hD.sub (ws' := [(mo, .inr (23, [.int 1, .ref b0, .ref b1, .ref b2, .ref b3, .int 0, .int 0, .long 0])), (b0, .inr (5, [.int 0, .ref dz, .int 0]))]) [0, 1] (by decide) rfl
  have hK9 := hK.sub (tys' := []) [] rfl
  rw [← hAe] at hD9
  refine W.widen (k := 0) (n := 0) (by omega) (by omega) ?_
  subst hAe
  exact W.zret (v := 0) hx hb hr rfl (fun t ht9 hW => ⟨⟨0, (), rfl, rfl, ⟨by rw [ht9]; exact hP9, va_K.moved hW.alike hK9, hD9⟩⟩, hS.F ht9⟩) hS.2.2 dX17_dope_50

def zX17_decide_ws : List Cond := .code yX17_decide cX17_decide 4 (some .long) :: ([.fieldLink RX17 22 "HeatStadiumModel" "protests" "Ljava/util/ArrayList;", .methodLink RX17 33 yJx4a65c_size_8abf5, .instanceMethod yJx4a65c_size_8abf5, .selects RJx4a65c yJx4a65c_size_8abf5 yJx4a65c_size_8abf5, .initialized RJx4a65c, .methodLink RX17 29 yX17_in, .static yX17_in, .initialized RX17, .fieldLink RX17 25 "HeatStadiumModel" "thrown" "I"] ++ (wsX170 ++ (zJx4a65c_size_8abf5_ws ++ (zX17_in_ws ++ ([])))))
theorem zX17_decide_ws_good : zX17_decide_ws.all goodWord = true := by decide +kernel
set_option maxHeartbeats 4000000 in
set_option maxRecDepth 100000 in
/-- the reference refuses decide -/
theorem cm_decide (l : Launch) (hst : l.stackTraces = false) (D : va_G) (sz : Nat) (mo b0 b1 b2 b3 dz : Nat) (th : Int32) (x1 x2 : Int32) : Met l yX17_decide zX17_decide_ws (zR 4 0 0) (zPre [.ref mo, .int x1, .int x2] D [(mo, .inr (23, [.int th, .ref b0, .ref b1, .ref b2, .ref b3, .int 0, .int 0, .long 0])), (b3, .inr (5, [.int 0, .ref dz, .int 0]))] [] (va_A [(mo, .inr (23, [.int th, .ref b0, .ref b1, .ref b2, .ref b3, .int 0, .int 0, .long 0])), (b3, .inr (5, [.int 0, .ref dz, .int 0]))] sz) sz) (va_Ql (S := Unit) (fun r _ => r = 0) (fun _ t => zAt D [(mo, .inr (23, [.int 1, .ref b0, .ref b1, .ref b2, .ref b3, .int 0, .int 0, .long 0])), (b3, .inr (5, [.int 0, .ref dz, .int 0]))] [] (va_A [(mo, .inr (23, [.int th, .ref b0, .ref b1, .ref b2, .ref b3, .int 0, .int 0, .long 0])), (b3, .inr (5, [.int 0, .ref dz, .int 0]))] sz) t) (va_A [(mo, .inr (23, [.int th, .ref b0, .ref b1, .ref b2, .ref b3, .int 0, .int 0, .long 0])), (b3, .inr (5, [.int 0, .ref dz, .int 0]))] sz)) 0 0 (va_A [(mo, .inr (23, [.int th, .ref b0, .ref b1, .ref b2, .ref b3, .int 0, .int 0, .long 0])), (b3, .inr (5, [.int 0, .ref dz, .int 0]))] sz) := by
  refine Met.ofW (cc := cX17_decide) (maxL := 4) (ret := (some .long)) (by decide) rfl ?_
  intro p e s m args below meth c s₁ B hml hv
  obtain ⟨rfl, hsz, hP, hK, hD0, hz⟩ := hv
  have hx := B.exec
  have hb := B.bytes
  have hr := B.returns
  have hts := atoms_spec (ws := zX17_decide_ws) B.pre
  have hown : s.vm.findClass RX17 = some m.cls := findClass_of_methodNamed B.named
  have hlocks := B.notSynchronized
  subst hsz
  have hD := hD0.self (sz := s.heap.size)
  generalize hAe : va_A [(mo, .inr (23, [.int th, .ref b0, .ref b1, .ref b2, .ref b3, .int 0, .int 0, .long 0])), (b3, .inr (5, [.int 0, .ref dz, .int 0]))] s.heap.size = A at hD hz ⊢
  have hA : ∀ q : Nat, s.heap.size ≤ q → A q := fun q h => by rw [← hAe]; exact Or.inr h
  have hS : va_S A s.heap s.heap [] := va_S.rf
  have hP : va_P D vwCl [(mo, .inr (23, [.int th, .ref b0, .ref b1, .ref b2, .ref b3, .int 0, .int 0, .long 0])), (b3, .inr (5, [.int 0, .ref dz, .int 0]))] s.heap := hP
  have hl := lv_entry ([.ref mo, .int x1, .int x2]) (n := 4) (Nat.le_of_ble_eq_true rfl)
  rw [lg_entry_eq]
  generalize (lg_sl ([.ref mo, .int x1, .int x2]) ++ List.replicate (4 - (lg_sl ([.ref mo, .int x1, .int x2])).length) Slot.unset).toArray = ls at hl ⊢
  have hl : lv_has ls 4 [(0, .ref mo), (1, .int x1), (2, .int x2)] := hl
  refine lv_aload_n hx hb dX17_decide_0 rfl (lv_at hl 0 rfl) ?_
  refine lv_iload_n hx hb dX17_decide_1 rfl (lv_at hl 1 rfl) ?_
  refine lv_iconst (v := 0) hx hb dX17_decide_2 (by decide) ?_
  refine lv_aload_n hx hb dX17_decide_3 rfl (lv_at hl 0 rfl) ?_
  refine va_get (D := D) (ci := 23) (v := .ref b3) (C := RX17) (T := TX17) (N := 8) hx hb hts (by decide +kernel) hown hK hP 0 rfl rfl 4 (by decide) (hts (.fieldLink RX17 22 "HeatStadiumModel" "protests" "Ljava/util/ArrayList;") (by decide +kernel)) (fun _ h9 => h9) rfl dX17_decide_4 ?_
  have hPc := hP.sub (ws' := [(b3, .inr (5, [.int 0, .ref dz, .int 0]))]) [1] rfl
  have hDc := hD.sub (ws' := [(b3, .inr (5, [.int 0, .ref dz, .int 0]))]) [1] (by decide) rfl
  have hKc := hK.sub (tys' := []) [] rfl
  have hFc : ∀ q : Nat, s.heap.size ≤ q → A q := fun q h => hA q (Nat.le_trans hS.1 h)
  refine va_calli (va_runV (As := []) (rest := [.int 0, .int x1, .ref mo]) ⟨hx, hb, hml, hown, hts⟩ (c_size l hst D s.heap.size b3 dz 0 0) (cwV 0 hts (goodIn_app (goodIn_of _ (by decide +kernel)) (goodIn_sub (fun _ h => List.mem_cons_of_mem _ (List.mem_append_right _ (List.mem_append_right _ (List.mem_append_left _ h)))) zJx4a65c_size_8abf5_ws_good)) rfl rfl rfl (by decide +kernel) ⟨Nat.le_of_ble_eq_true rfl, Nat.le_of_ble_eq_true rfl⟩) ⟨zPre.blind, va_recv hKc hPc (ci := 5) (q0 := 0) rfl rfl, zPre.mk hPc hKc hDc hz hS (fun q h => hFc q h)⟩ rfl rfl hl.1 rfl (lv_room (Nat.le_of_ble_eq_true rfl)) dX17_decide_7 ⟨Nat.le_of_ble_eq_true rfl, Nat.le_of_ble_eq_true rfl⟩) hS (fun q _ h => hFc q h) (fun q h => hFc q h) (fun r9 u t H1 locs ht9 hvm hw hB hz1 hk1 hS => ?_)
  refine W.widen (k := 0) (n := 0) (by omega) (by omega) ?_
  have hP := zKeep hP hk1
  generalize H1 = H at hP hS ⊢
  have hP : va_P D vwCl [(mo, .inr (23, [.int th, .ref b0, .ref b1, .ref b2, .ref b3, .int 0, .int 0, .long 0])), (b3, .inr (5, [.int 0, .ref dz, .int 0]))] H := hP
  subst hw
  refine lv_iconst (v := 1) hx hb dX17_decide_10 (by decide) ?_
  refine lv_isub hx hb dX17_decide_11 ?_
  refine lv_topi (fun z1 ez1 => ?_)
  obtain rfl : z1 = (-1) := ez1.trans (by decide)
  have hPc := hP.sub (ws' := []) [] rfl
  have hDc := hD.sub (ws' := []) [] (by decide) rfl
  have hKc := hK.sub (tys' := []) [] rfl
  have hFc : ∀ q : Nat, H.size ≤ q → A q := fun q h => hA q (Nat.le_trans hS.1 h)
  refine va_calli (va_runS (As := [.int x1, .int 0, .int (-1)]) (rest := [.ref mo]) ⟨hx, hb, hml, hown, hts⟩ (c_in l hst D H.size x1 0 (-1)) (cwS 3 hts (goodIn_app (goodIn_of _ (by decide +kernel)) (goodIn_sub (fun _ h => List.mem_cons_of_mem _ (List.mem_append_right _ (List.mem_append_right _ (List.mem_append_right _ (List.mem_append_left _ h))))) zX17_in_ws_good)) rfl rfl rfl (by decide +kernel) ⟨Nat.le_of_ble_eq_true rfl, Nat.le_of_ble_eq_true rfl⟩) ⟨zPre.blind, zPre.mk hPc hKc hDc hz hS (fun q h => hFc q h)⟩ rfl rfl hl.1 rfl (lv_room (Nat.le_of_ble_eq_true rfl)) dX17_decide_12 ⟨Nat.le_of_ble_eq_true rfl, Nat.le_of_ble_eq_true rfl⟩) hS (fun q _ h => hFc q h) (fun q h => hFc q h) (fun r9 u t H1 locs ht9 hvm hw hB hz1 hk1 hS => ?_)
  refine W.widen (k := 0) (n := 0) (by omega) (by omega) ?_
  have hP := zKeep hP hk1
  generalize H1 = H at hP hS ⊢
  have hP : va_P D vwCl [(mo, .inr (23, [.int th, .ref b0, .ref b1, .ref b2, .ref b3, .int 0, .int 0, .long 0])), (b3, .inr (5, [.int 0, .ref dz, .int 0]))] H := hP
  obtain rfl : r9 = 0 := hw.trans (zin_none x1)
  refine lv_if_ne (tgt := 22) hx hb dX17_decide_15 (by decide) (fun c => absurd (by decide) c) (fun _ => ?_)
  refine lv_iconst (v := 1) hx hb dX17_decide_18 (by decide) ?_
  refine lv_goto (tgt := 44) hx hb dX17_decide_19 (by decide) ?_
  refine va_put (D := D) (ci := 23) (v := .int 1) (ty := .int) (C := RX17) (T := TX17) (N := 8) hx hb hts (by decide +kernel) tyX17 tyX17_ok nmX17 hown hK hP hD hS 0 rfl rfl 0 (by decide) (hts (.fieldLink RX17 25 "HeatStadiumModel" "thrown" "I") (by decide +kernel)) (fun _ h9 => h9) rfl (by decide +kernel) rfl rfl (Nat.le_of_ble_eq_true rfl) dX17_decide_44 (fun H locs hP hD hS => ?_)
  have hP : va_P D vwCl [(mo, .inr (23, [.int 1, .ref b0, .ref b1, .ref b2, .ref b3, .int 0, .int 0, .long 0])), (b3, .inr (5, [.int 0, .ref dz, .int 0]))] H := hP
  have hD : va_D A [(mo, .inr (23, [.int 1, .ref b0, .ref b1, .ref b2, .ref b3, .int 0, .int 0, .long 0])), (b3, .inr (5, [.int 0, .ref dz, .int 0]))] := hD
  refine lv_aload_n hx hb dX17_decide_47 rfl (lv_at hl 0 rfl) ?_
  refine va_get (D := D) (ci := 23) (v := .int 1) (C := RX17) (T := TX17) (N := 8) hx hb hts (by decide +kernel) hown hK hP 0 rfl rfl 0 (by decide) (hts (.fieldLink RX17 25 "HeatStadiumModel" "thrown" "I") (by decide +kernel)) (fun _ h9 => h9) rfl dX17_decide_48 ?_
  refine lv_if_le (tgt := 56) hx hb dX17_decide_51 (by decide) (fun c => absurd c (by decide)) (fun _ => ?_)
  refine lv_lconst (v := 0) hx hb dX17_decide_54 (by decide) ?_
  have hP9 := hP.sub (ws' := [(mo, .inr (23, [.int 1, .ref b0, .ref b1, .ref b2, .ref b3, .int 0, .int 0, .long 0])), (b3, .inr (5, [.int 0, .ref dz, .int 0]))]) [0, 1] rfl
  have hD9 := hD.sub (ws' := [(mo, .inr (23, [.int 1, .ref b0, .ref b1, .ref b2, .ref b3, .int 0, .int 0, .long 0])), (b3, .inr (5, [.int 0, .ref dz, .int 0]))]) [0, 1] (by decide) rfl
  have hK9 := hK.sub (tys' := []) [] rfl
  rw [← hAe] at hD9
  refine W.widen (k := 0) (n := 0) (by omega) (by omega) ?_
  subst hAe
  exact W.lret (v := 0) hx hb hr (fun t ht9 hW => ⟨⟨0, (), rfl, rfl, ⟨by rw [ht9]; exact hP9, va_K.moved hW.alike hK9, hD9⟩⟩, hS.F ht9⟩) hS.2.2 dX17_decide_55
end
section
/-! printed rows that this part uses -/
theorem dX11_athlete_0 : decode cX11_athlete 0 = .ok (.iload_n 1, 1) := by decide +kernel
theorem dX11_athlete_1 : decode cX11_athlete 1 = .ok (.invokestatic 74, 3) := by decide +kernel
theorem dX11_pass_0 : decode cX11_pass 0 = .ok (.iload_n 1, 1) := by decide +kernel
theorem dX11_pass_1 : decode cX11_pass 1 = .ok (.iconst 1, 1) := by decide +kernel
theorem dX11_pass_2 : decode cX11_pass 2 = .ok (.sipush 9999, 3) := by decide +kernel
theorem dX11_pass_5 : decode cX11_pass 5 = .ok (.invokestatic 98, 3) := by decide +kernel
theorem dX11_pass_8 : decode cX11_pass 8 = .ok (.aload_n 0, 1) := by decide +kernel
theorem dX11_pass_9 : decode cX11_pass 9 = .ok (.dup, 1) := by decide +kernel
theorem dX11_pass_10 : decode cX11_pass 10 = .ok (.getfield 68, 3) := by decide +kernel
theorem dX11_pass_13 : decode cX11_pass 13 = .ok (.iload_n 1, 1) := by decide +kernel
theorem dX11_pass_14 : decode cX11_pass 14 = .ok (.iadd, 1) := by decide +kernel
theorem dX11_pass_15 : decode cX11_pass 15 = .ok (.putfield 68, 3) := by decide +kernel
theorem dX11_pass_18 : decode cX11_pass 18 = .ok (.aload_n 0, 1) := by decide +kernel
theorem dX11_pass_19 : decode cX11_pass 19 = .ok (.getfield 68, 3) := by decide +kernel
theorem dX11_pass_22 : decode cX11_pass 22 = .ok (.ireturn, 1) := by decide +kernel
theorem dX11_medals_0 : decode cX11_medals 0 = .ok (.iload_n 1, 1) := by decide +kernel
theorem dX11_medals_1 : decode cX11_medals 1 = .ok (.invokestatic 74, 3) := by decide +kernel
theorem dX11_medals_4 : decode cX11_medals 4 = .ok (.iload_n 2, 1) := by decide +kernel
theorem dX11_medals_5 : decode cX11_medals 5 = .ok (.iconst 0, 1) := by decide +kernel
theorem dX11_medals_6 : decode cX11_medals 6 = .ok (.iconst 3, 1) := by decide +kernel
theorem dX11_medals_7 : decode cX11_medals 7 = .ok (.invokestatic 98, 3) := by decide +kernel
theorem dX11_inTable_0 : decode cX11_inTable 0 = .ok (.iload_n 1, 1) := by decide +kernel
theorem dX11_inTable_1 : decode cX11_inTable 1 = .ok (.iconst 0, 1) := by decide +kernel
theorem dX11_inTable_2 : decode cX11_inTable 2 = .ok (.bipush 7, 2) := by decide +kernel
theorem dX11_inTable_4 : decode cX11_inTable 4 = .ok (.invokestatic 98, 3) := by decide +kernel
theorem dX11_points_0 : decode cX11_points 0 = .ok (.iload_n 1, 1) := by decide +kernel
theorem dX11_points_1 : decode cX11_points 1 = .ok (.invokestatic 74, 3) := by decide +kernel
theorem dX11_points_4 : decode cX11_points 4 = .ok (.dconst 0, 1) := by decide +kernel
theorem dX11_points_5 : decode cX11_points 5 = .ok (.dstore_n 2, 1) := by decide +kernel
theorem dX11_points_6 : decode cX11_points 6 = .ok (.iconst 0, 1) := by decide +kernel
theorem dX11_points_7 : decode cX11_points 7 = .ok (.istore 4, 2) := by decide +kernel
theorem dX11_points_9 : decode cX11_points 9 = .ok (.iload 4, 2) := by decide +kernel
theorem dX11_points_11 : decode cX11_points 11 = .ok (.aload_n 0, 1) := by decide +kernel
theorem dX11_points_12 : decode cX11_points 12 = .ok (.getfield 64, 3) := by decide +kernel
theorem dX11_points_15 : decode cX11_points 15 = .ok (.if_icmp .ge 100, 3) := by decide +kernel
theorem dX11_points_115 : decode cX11_points 115 = .ok (.dload_n 2, 1) := by decide +kernel
theorem dX11_points_116 : decode cX11_points 116 = .ok (.dreturn, 1) := by decide +kernel
theorem dX11_shareBits_0 : decode cX11_shareBits 0 = .ok (.iload_n 1, 1) := by decide +kernel
theorem dX11_shareBits_1 : decode cX11_shareBits 1 = .ok (.invokestatic 74, 3) := by decide +kernel
theorem dX11_requireNation_0 : decode cX11_requireNation 0 = .ok (.iload_n 0, 1) := by decide +kernel
theorem dX11_requireNation_1 : decode cX11_requireNation 1 = .ok (.ifCond .lt 9, 3) := by decide +kernel
theorem dX11_requireNation_4 : decode cX11_requireNation 4 = .ok (.iload_n 0, 1) := by decide +kernel
theorem dX11_requireNation_5 : decode cX11_requireNation 5 = .ok (.bipush 8, 2) := by decide +kernel
theorem dX11_requireNation_7 : decode cX11_requireNation 7 = .ok (.if_icmp .lt 14, 3) := by decide +kernel
theorem dX11_requireNation_10 : decode cX11_requireNation 10 = .ok (.new 92, 3) := by decide +kernel
theorem dX11_requireNation_13 : decode cX11_requireNation 13 = .ok (.dup, 1) := by decide +kernel
theorem dX11_requireNation_14 : decode cX11_requireNation 14 = .ok (.ldc_w 386, 3) := by decide +kernel
theorem dX11_requireNation_17 : decode cX11_requireNation 17 = .ok (.invokespecial 96, 3) := by decide +kernel
theorem dX11_requireNation_20 : decode cX11_requireNation 20 = .ok (.athrow, 1) := by decide +kernel
theorem dX11_requireNation_21 : decode cX11_requireNation 21 = .ok (.return_, 1) := by decide +kernel
theorem dX11_requireRange_0 : decode cX11_requireRange 0 = .ok (.iload_n 0, 1) := by decide +kernel
theorem dX11_requireRange_1 : decode cX11_requireRange 1 = .ok (.iload_n 1, 1) := by decide +kernel
theorem dX11_requireRange_2 : decode cX11_requireRange 2 = .ok (.if_icmp .lt 8, 3) := by decide +kernel
theorem dX11_requireRange_5 : decode cX11_requireRange 5 = .ok (.iload_n 0, 1) := by decide +kernel
theorem dX11_requireRange_6 : decode cX11_requireRange 6 = .ok (.iload_n 2, 1) := by decide +kernel
theorem dX11_requireRange_7 : decode cX11_requireRange 7 = .ok (.if_icmp .le 14, 3) := by decide +kernel
theorem dX11_requireRange_10 : decode cX11_requireRange 10 = .ok (.new 92, 3) := by decide +kernel
theorem dX11_requireRange_13 : decode cX11_requireRange 13 = .ok (.dup, 1) := by decide +kernel
theorem dX11_requireRange_14 : decode cX11_requireRange 14 = .ok (.ldc_w 388, 3) := by decide +kernel
theorem dX11_requireRange_17 : decode cX11_requireRange 17 = .ok (.invokespecial 96, 3) := by decide +kernel
theorem dX11_requireRange_20 : decode cX11_requireRange 20 = .ok (.athrow, 1) := by decide +kernel
theorem dX11_requireRange_21 : decode cX11_requireRange 21 = .ok (.return_, 1) := by decide +kernel
theorem zin_1 {v low high : Int32} (h : zin v low high = 1) : low ≤ v ∧ v ≤ high := by
  rcases Decidable.em (low ≤ v ∧ v ≤ high) with q | q
  · exact q
  · rw [zin, if_neg q] at h; exact absurd h (by decide)
theorem zin_0 {v low high : Int32} (h : zin v low high = 0) : ¬ (low ≤ v ∧ v ≤ high) := by
  intro q
  rw [zin, if_pos q] at h; exact absurd h (by decide)
theorem zin_or (v low high : Int32) : zin v low high = 0 ∨ zin v low high = 1 := by
  rcases Decidable.em (low ≤ v ∧ v ≤ high) with q | q
  · exact Or.inr (if_pos q)
  · exact Or.inl (if_neg q)
theorem z87 {x : Int32} : x < 8 ↔ x ≤ 7 := by
  rw [Int32.lt_iff_toInt_lt, Int32.le_iff_toInt_le]
  have h8 : (8 : Int32).toInt = 8 := by decide
  have h7 : (7 : Int32).toInt = 7 := by decide
  rw [h8, h7]; omega
def zrr1 : List Cond := .code yX11_requireRange cX11_requireRange 3 none :: ([] ++ [])
theorem zrr1_good : zrr1.all goodWord = true := by decide +kernel
set_option maxHeartbeats 4000000 in
set_option maxRecDepth 100000 in
/-- requireRange, in range -/
theorem c_requireRange_ok (l : Launch) (hst : l.stackTraces = false) (D : va_G) (sz : Nat) (x1 x2 x3 : Int32) (h : zin x1 x2 x3 = 1) : Met l yX11_requireRange zrr1 (zR 0 0 0) (zPre [.int x1, .int x2, .int x3] D [] [] (fun q : Nat => sz ≤ q) sz) (va_Qv (S := Unit) (fun _ => True) (fun _ _ => True) (fun q : Nat => sz ≤ q)) 0 0 (fun q : Nat => sz ≤ q) := by
  refine Met.ofW (cc := cX11_requireRange) (maxL := 3) (ret := none) (by decide) rfl ?_
  intro p e s m args below meth c s₁ B hml hv
  obtain ⟨rfl, hsz, hP, hK, hD0, hz⟩ := hv
  have hx := B.exec
  have hb := B.bytes
  have hr := B.returns
  have hts := atoms_spec (ws := zrr1) B.pre
  have hown : s.vm.findClass RX11 = some m.cls := findClass_of_methodNamed B.named
  have hlocks := B.notSynchronized
  subst hsz
  obtain ⟨A, hAe⟩ : ∃ A : Nat → Prop, A = (fun q : Nat => s.heap.size ≤ q) := ⟨_, rfl⟩
  rw [← hAe] at hz ⊢
  have hA : ∀ q : Nat, s.heap.size ≤ q → A q := fun q h => by rw [hAe]; exact h
  have hD := hD0
  have hS : va_S A s.heap s.heap [] := va_S.rf
  have hP : va_P D vwCl [] s.heap := hP
  have hl := lv_entry ([.int x1, .int x2, .int x3]) (n := 3) (Nat.le_of_ble_eq_true rfl)
  rw [lg_entry_eq]
  generalize (lg_sl ([.int x1, .int x2, .int x3]) ++ List.replicate (3 - (lg_sl ([.int x1, .int x2, .int x3])).length) Slot.unset).toArray = ls at hl ⊢
  have hl : lv_has ls 3 [(0, .int x1), (1, .int x2), (2, .int x3)] := hl
  refine lv_iload_n hx hb dX11_requireRange_0 rfl (lv_at hl 0 rfl) ?_
  refine lv_iload_n hx hb dX11_requireRange_1 rfl (lv_at hl 1 rfl) ?_
  refine lv_icmp_lt (tgt := 10) hx hb dX11_requireRange_2 (by decide) (fun c9 => absurd c9 (Int32.not_lt.mpr (zin_1 h).1)) (fun _ => ?_)
  refine lv_iload_n hx hb dX11_requireRange_5 rfl (lv_at hl 0 rfl) ?_
  refine lv_iload_n hx hb dX11_requireRange_6 rfl (lv_at hl 2 rfl) ?_
  refine lv_icmp_le (tgt := 21) hx hb dX11_requireRange_7 (by decide) (fun _ => ?_) (fun c9 => absurd (zin_1 h).2 c9)
  refine W.widen (k := 0) (n := 0) (by omega) (by omega) ?_
  exact W.vret hx hb hr (fun t ht9 hW => ⟨⟨(), rfl, trivial, trivial⟩, hS.F ht9⟩) hS.2.2 dX11_requireRange_21

def zrr2 : List Cond := .code yX11_requireRange cX11_requireRange 3 none :: ([.classLink RX11 92 "java/lang/IllegalArgumentException", .initialized "java/lang/IllegalArgumentException"] ++ (((vx_atS RX11 96 "java/lang/IllegalArgumentException" ["java/lang/RuntimeException", "java/lang/Exception"]).filter goodWord) ++ ([])))
theorem zrr2_good : zrr2.all goodWord = true := by decide +kernel
set_option maxHeartbeats 4000000 in
set_option maxRecDepth 100000 in
/-- requireRange, out of range: throws -/
theorem c_requireRange_no (l : Launch) (hst : l.stackTraces = false) (D : va_G) (sz : Nat) (x1 x2 x3 : Int32) (h : zin x1 x2 x3 = 0) : vx_Met l yX11_requireRange zrr2 (zR 0 1 6) (zPre [.int x1, .int x2, .int x3] D [] [] (fun q : Nat => sz ≤ q) sz) (va_Qv (S := Unit) (fun _ => False) (fun _ _ => True) (fun q : Nat => sz ≤ q)) (zThr "java/lang/IllegalArgumentException" (fun q : Nat => sz ≤ q)) 1 6 (fun q : Nat => sz ≤ q) := by
  refine vx_ofW (cc := cX11_requireRange) (maxL := 3) (ret := none) (by decide) rfl ?_
  intro p e s m args below meth c s₁ B hml ht hv
  obtain ⟨rfl, hsz, hP, hK, hD0, hz⟩ := hv
  have hx := B.exec
  have hb := B.bytes
  have hr := B.returns
  have hts := atoms_spec (ws := zrr2) B.pre
  have hown : s.vm.findClass RX11 = some m.cls := findClass_of_methodNamed B.named
  have hlocks := B.notSynchronized
  subst hsz
  obtain ⟨A, hAe⟩ : ∃ A : Nat → Prop, A = (fun q : Nat => s.heap.size ≤ q) := ⟨_, rfl⟩
  rw [← hAe] at hz ⊢
  have hA : ∀ q : Nat, s.heap.size ≤ q → A q := fun q h => by rw [hAe]; exact h
  have hD := hD0
  have hS : va_S A s.heap s.heap [] := va_S.rf
  have hP : va_P D vwCl [] s.heap := hP
  have hl := lv_entry ([.int x1, .int x2, .int x3]) (n := 3) (Nat.le_of_ble_eq_true rfl)
  rw [lg_entry_eq]
  generalize (lg_sl ([.int x1, .int x2, .int x3]) ++ List.replicate (3 - (lg_sl ([.int x1, .int x2, .int x3])).length) Slot.unset).toArray = ls at hl ⊢
  have hl : lv_has ls 3 [(0, .int x1), (1, .int x2), (2, .int x3)] := hl
  refine lv_iload_n hx hb dX11_requireRange_0 rfl (lv_at hl 0 rfl) ?_
  refine lv_iload_n hx hb dX11_requireRange_1 rfl (lv_at hl 1 rfl) ?_
  refine lv_icmp_lt (tgt := 10) hx hb dX11_requireRange_2 (by decide) (fun c1 => ?_) (fun c1 => ?_)
  · obtain ⟨sa, hstr⟩ := hz.2.1 (RX11, 388, "out of range") (by decide +kernel)
    exact vx_throwSW (names := ["java/lang/RuntimeException", "java/lang/Exception"]) hx hb hst hown (by decide +kernel) (by decide +kernel) (hts (.classLink RX11 92 "java/lang/IllegalArgumentException") (by decide +kernel)) (hts (.initialized "java/lang/IllegalArgumentException") (by decide +kernel)) hstr (vx_hat (B := zWords) (fun w hw => hts w (List.mem_cons_of_mem _ (List.mem_append_right _ (List.mem_append_left _ hw)))) (by decide +kernel) (fun w hw => hz.w w hw)) (List.all_eq_true.mp (by decide +kernel)) hz.1.1 hz.1.2 hS (hml ▸ hl.1) dX11_requireRange_10 dX11_requireRange_13 dX11_requireRange_14 dX11_requireRange_17 dX11_requireRange_20 (fun x hx => (ht x hx).elim) (Nat.le_of_ble_eq_true rfl) (Nat.le_of_ble_eq_true rfl) (Nat.le_of_ble_eq_true rfl) (Nat.le_of_ble_eq_true rfl) hlocks (fun t _ h1 h2 => ⟨(), trivial, rfl, zF hS h1 h2⟩) hS.2.2 (Nat.le_of_ble_eq_true rfl) (Nat.le_of_ble_eq_true rfl)
  · refine lv_iload_n hx hb dX11_requireRange_5 rfl (lv_at hl 0 rfl) ?_
    refine lv_iload_n hx hb dX11_requireRange_6 rfl (lv_at hl 2 rfl) ?_
    refine lv_icmp_le (tgt := 21) hx hb dX11_requireRange_7 (by decide) (fun c9 => absurd ⟨Int32.not_lt.mp c1, c9⟩ (zin_0 h)) (fun _ => ?_)
    obtain ⟨sa, hstr⟩ := hz.2.1 (RX11, 388, "out of range") (by decide +kernel)
    exact vx_throwSW (names := ["java/lang/RuntimeException", "java/lang/Exception"]) hx hb hst hown (by decide +kernel) (by decide +kernel) (hts (.classLink RX11 92 "java/lang/IllegalArgumentException") (by decide +kernel)) (hts (.initialized "java/lang/IllegalArgumentException") (by decide +kernel)) hstr (vx_hat (B := zWords) (fun w hw => hts w (List.mem_cons_of_mem _ (List.mem_append_right _ (List.mem_append_left _ hw)))) (by decide +kernel) (fun w hw => hz.w w hw)) (List.all_eq_true.mp (by decide +kernel)) hz.1.1 hz.1.2 hS (hml ▸ hl.1) dX11_requireRange_10 dX11_requireRange_13 dX11_requireRange_14 dX11_requireRange_17 dX11_requireRange_20 (fun x hx => (ht x hx).elim) (Nat.le_of_ble_eq_true rfl) (Nat.le_of_ble_eq_true rfl) (Nat.le_of_ble_eq_true rfl) (Nat.le_of_ble_eq_true rfl) hlocks (fun t _ h1 h2 => ⟨(), trivial, rfl, zF hS h1 h2⟩) hS.2.2 (Nat.le_of_ble_eq_true rfl) (Nat.le_of_ble_eq_true rfl)

def zrn1 : List Cond := .code yX11_requireNation cX11_requireNation 1 none :: ([] ++ [])
theorem zrn1_good : zrn1.all goodWord = true := by decide +kernel
set_option maxHeartbeats 4000000 in
set_option maxRecDepth 100000 in
/-- requireNation of a nation -/
theorem c_requireNation_ok (l : Launch) (hst : l.stackTraces = false) (D : va_G) (sz : Nat) (x1 : Int32) (h : zin x1 0 7 = 1) : Met l yX11_requireNation zrn1 (zR 0 0 0) (zPre [.int x1] D [] [] (fun q : Nat => sz ≤ q) sz) (va_Qv (S := Unit) (fun _ => True) (fun _ _ => True) (fun q : Nat => sz ≤ q)) 0 0 (fun q : Nat => sz ≤ q) := by
  refine Met.ofW (cc := cX11_requireNation) (maxL := 1) (ret := none) (by decide) rfl ?_
  intro p e s m args below meth c s₁ B hml hv
  obtain ⟨rfl, hsz, hP, hK, hD0, hz⟩ := hv
  have hx := B.exec
  have hb := B.bytes
  have hr := B.returns
  have hts := atoms_spec (ws := zrn1) B.pre
  have hown : s.vm.findClass RX11 = some m.cls := findClass_of_methodNamed B.named
  have hlocks := B.notSynchronized
  subst hsz
  obtain ⟨A, hAe⟩ : ∃ A : Nat → Prop, A = (fun q : Nat => s.heap.size ≤ q) := ⟨_, rfl⟩
  rw [← hAe] at hz ⊢
  have hA : ∀ q : Nat, s.heap.size ≤ q → A q := fun q h => by rw [hAe]; exact h
  have hD := hD0
  have hS : va_S A s.heap s.heap [] := va_S.rf
  have hP : va_P D vwCl [] s.heap := hP
  have hl := lv_entry ([.int x1]) (n := 1) (Nat.le_of_ble_eq_true rfl)
  rw [lg_entry_eq]
  generalize (lg_sl ([.int x1]) ++ List.replicate (1 - (lg_sl ([.int x1])).length) Slot.unset).toArray = ls at hl ⊢
  have hl : lv_has ls 1 [(0, .int x1)] := hl
  refine lv_iload_n hx hb dX11_requireNation_0 rfl (lv_at hl 0 rfl) ?_
  refine lv_if_lt (tgt := 10) hx hb dX11_requireNation_1 (by decide) (fun c9 => absurd c9 (Int32.not_lt.mpr (zin_1 h).1)) (fun _ => ?_)
  refine lv_iload_n hx hb dX11_requireNation_4 rfl (lv_at hl 0 rfl) ?_
  refine lv_bipush (v := 8) hx hb dX11_requireNation_5 (by decide) ?_
  refine lv_icmp_lt (tgt := 21) hx hb dX11_requireNation_7 (by decide) (fun _ => ?_) (fun c9 => absurd (z87.mpr (zin_1 h).2) c9)
  refine W.widen (k := 0) (n := 0) (by omega) (by omega) ?_
  exact W.vret hx hb hr (fun t ht9 hW => ⟨⟨(), rfl, trivial, trivial⟩, hS.F ht9⟩) hS.2.2 dX11_requireNation_21

def zrn2 : List Cond := .code yX11_requireNation cX11_requireNation 1 none :: ([.classLink RX11 92 "java/lang/IllegalArgumentException", .initialized "java/lang/IllegalArgumentException"] ++ (((vx_atS RX11 96 "java/lang/IllegalArgumentException" ["java/lang/RuntimeException", "java/lang/Exception"]).filter goodWord) ++ ([])))
theorem zrn2_good : zrn2.all goodWord = true := by decide +kernel
set_option maxHeartbeats 4000000 in
set_option maxRecDepth 100000 in
/-- requireNation of none: throws -/
theorem c_requireNation_no (l : Launch) (hst : l.stackTraces = false) (D : va_G) (sz : Nat) (x1 : Int32) (h : zin x1 0 7 = 0) : vx_Met l yX11_requireNation zrn2 (zR 0 1 6) (zPre [.int x1] D [] [] (fun q : Nat => sz ≤ q) sz) (va_Qv (S := Unit) (fun _ => False) (fun _ _ => True) (fun q : Nat => sz ≤ q)) (zThr "java/lang/IllegalArgumentException" (fun q : Nat => sz ≤ q)) 1 6 (fun q : Nat => sz ≤ q) := by
  refine vx_ofW (cc := cX11_requireNation) (maxL := 1) (ret := none) (by decide) rfl ?_
  intro p e s m args below meth c s₁ B hml ht hv
  obtain ⟨rfl, hsz, hP, hK, hD0, hz⟩ := hv
  have hx := B.exec
  have hb := B.bytes
  have hr := B.returns
  have hts := atoms_spec (ws := zrn2) B.pre
  have hown : s.vm.findClass RX11 = some m.cls := findClass_of_methodNamed B.named
  have hlocks := B.notSynchronized
  subst hsz
  obtain ⟨A, hAe⟩ : ∃ A : Nat → Prop, A = (fun q : Nat => s.heap.size ≤ q) := ⟨_, rfl⟩
  rw [← hAe] at hz ⊢
  have hA : ∀ q : Nat, s.heap.size ≤ q → A q := fun q h => by rw [hAe]; exact h
  have hD := hD0
  have hS : va_S A s.heap s.heap [] := va_S.rf
  have hP : va_P D vwCl [] s.heap := hP
  have hl := lv_entry ([.int x1]) (n := 1) (Nat.le_of_ble_eq_true rfl)
  rw [lg_entry_eq]
  generalize (lg_sl ([.int x1]) ++ List.replicate (1 - (lg_sl ([.int x1])).length) Slot.unset).toArray = ls at hl ⊢
  have hl : lv_has ls 1 [(0, .int x1)] := hl
  refine lv_iload_n hx hb dX11_requireNation_0 rfl (lv_at hl 0 rfl) ?_
  refine lv_if_lt (tgt := 10) hx hb dX11_requireNation_1 (by decide) (fun c1 => ?_) (fun c1 => ?_)
  · obtain ⟨sa, hstr⟩ := hz.2.1 (RX11, 386, "no such nation") (by decide +kernel)
    exact vx_throwSW (names := ["java/lang/RuntimeException", "java/lang/Exception"]) hx hb hst hown (by decide +kernel) (by decide +kernel) (hts (.classLink RX11 92 "java/lang/IllegalArgumentException") (by decide +kernel)) (hts (.initialized "java/lang/IllegalArgumentException") (by decide +kernel)) hstr (vx_hat (B := zWords) (fun w hw => hts w (List.mem_cons_of_mem _ (List.mem_append_right _ (List.mem_append_left _ hw)))) (by decide +kernel) (fun w hw => hz.w w hw)) (List.all_eq_true.mp (by decide +kernel)) hz.1.1 hz.1.2 hS (hml ▸ hl.1) dX11_requireNation_10 dX11_requireNation_13 dX11_requireNation_14 dX11_requireNation_17 dX11_requireNation_20 (fun x hx => (ht x hx).elim) (Nat.le_of_ble_eq_true rfl) (Nat.le_of_ble_eq_true rfl) (Nat.le_of_ble_eq_true rfl) (Nat.le_of_ble_eq_true rfl) hlocks (fun t _ h1 h2 => ⟨(), trivial, rfl, zF hS h1 h2⟩) hS.2.2 (Nat.le_of_ble_eq_true rfl) (Nat.le_of_ble_eq_true rfl)
  · refine lv_iload_n hx hb dX11_requireNation_4 rfl (lv_at hl 0 rfl) ?_
    refine lv_bipush (v := 8) hx hb dX11_requireNation_5 (by decide) ?_
    refine lv_icmp_lt (tgt := 21) hx hb dX11_requireNation_7 (by decide) (fun c9 => absurd ⟨Int32.not_lt.mp c1, z87.mp c9⟩ (zin_0 h)) (fun _ => ?_)
    obtain ⟨sa, hstr⟩ := hz.2.1 (RX11, 386, "no such nation") (by decide +kernel)
    exact vx_throwSW (names := ["java/lang/RuntimeException", "java/lang/Exception"]) hx hb hst hown (by decide +kernel) (by decide +kernel) (hts (.classLink RX11 92 "java/lang/IllegalArgumentException") (by decide +kernel)) (hts (.initialized "java/lang/IllegalArgumentException") (by decide +kernel)) hstr (vx_hat (B := zWords) (fun w hw => hts w (List.mem_cons_of_mem _ (List.mem_append_right _ (List.mem_append_left _ hw)))) (by decide +kernel) (fun w hw => hz.w w hw)) (List.all_eq_true.mp (by decide +kernel)) hz.1.1 hz.1.2 hS (hml ▸ hl.1) dX11_requireNation_10 dX11_requireNation_13 dX11_requireNation_14 dX11_requireNation_17 dX11_requireNation_20 (fun x hx => (ht x hx).elim) (Nat.le_of_ble_eq_true rfl) (Nat.le_of_ble_eq_true rfl) (Nat.le_of_ble_eq_true rfl) (Nat.le_of_ble_eq_true rfl) hlocks (fun t _ h1 h2 => ⟨(), trivial, rfl, zF hS h1 h2⟩) hS.2.2 (Nat.le_of_ble_eq_true rfl) (Nat.le_of_ble_eq_true rfl)

def zno_pass_no : List Cond := .code yX11_pass cX11_pass 2 (some .int) :: ([.methodLink RX11 98 yX11_requireRange, .static yX11_requireRange, .initialized RX11] ++ (zrr2 ++ ([])))
theorem zno_pass_no_good : zno_pass_no.all goodWord = true := by decide +kernel
set_option maxHeartbeats 4000000 in
set_option maxRecDepth 100000 in
/-- pass: out of range: throws -/
theorem c_pass_no (l : Launch) (hst : l.stackTraces = false) (D : va_G) (sz : Nat) (h0 : Nat) (a : Nat → Nat) (x1 : Int32) (h : zin x1 1 9999 = 0) : vx_Met l yX11_pass zno_pass_no (zR 3 1 6) (zPre [.ref h0, .int x1] D [(h0, .inr (17, zHS a))] [] (fun q : Nat => sz ≤ q) sz) (va_Qi (S := Unit) (fun _ _ => False) (fun _ _ => True) (fun q : Nat => sz ≤ q)) (zThr "java/lang/IllegalArgumentException" (fun q : Nat => sz ≤ q)) 1 6 (fun q : Nat => sz ≤ q) := by
  refine vx_ofW (cc := cX11_pass) (maxL := 2) (ret := (some .int)) (by decide) rfl ?_
  intro p e s m args below meth c s₁ B hml ht hv
  obtain ⟨rfl, hsz, hP, hK, hD0, hz⟩ := hv
  have hx := B.exec
  have hb := B.bytes
  have hr := B.returns
  have hts := atoms_spec (ws := zno_pass_no) B.pre
  have hown : s.vm.findClass RX11 = some m.cls := findClass_of_methodNamed B.named
  have hlocks := B.notSynchronized
  subst hsz
  obtain ⟨A, hAe⟩ : ∃ A : Nat → Prop, A = (fun q : Nat => s.heap.size ≤ q) := ⟨_, rfl⟩
  rw [← hAe] at hz ⊢
  have hA : ∀ q : Nat, s.heap.size ≤ q → A q := fun q h => by rw [hAe]; exact h
  have hD := hD0
  have hS : va_S A s.heap s.heap [] := va_S.rf
  have hP : va_P D vwCl [(h0, .inr (17, zHS a))] s.heap := hP
  have hl := lv_entry ([.ref h0, .int x1]) (n := 2) (Nat.le_of_ble_eq_true rfl)
  rw [lg_entry_eq]
  generalize (lg_sl ([.ref h0, .int x1]) ++ List.replicate (2 - (lg_sl ([.ref h0, .int x1])).length) Slot.unset).toArray = ls at hl ⊢
  have hl : lv_has ls 2 [(0, .ref h0), (1, .int x1)] := hl
  refine lv_iload_n hx hb dX11_pass_0 rfl (lv_at hl 1 rfl) ?_
  refine lv_iconst (v := 1) hx hb dX11_pass_1 (by decide) ?_
  refine lv_sipush (v := 9999) hx hb dX11_pass_2 (by decide) ?_
  have hPc := hP.sub (ws' := []) [] rfl
  have hDc := hD.sub (ws' := []) [] (by decide) rfl
  have hKc := hK.sub (tys' := []) [] rfl
  have hFc : ∀ q : Nat, s.heap.size ≤ q → A q := fun q h => hA q (Nat.le_trans hS.1 h)
  refine vx_callv (vx_runS (As := [.int x1, .int 1, .int 9999]) (rest := []) ⟨hx, hb, hml, hown, hts⟩ (c_requireRange_no l hst D s.heap.size x1 1 9999 h) (cwS 3 hts (goodIn_app (goodIn_of _ (by decide +kernel)) (goodIn_sub (fun _ h => List.mem_cons_of_mem _ (List.mem_append_right _ (List.mem_append_left _ h))) zrr2_good)) rfl rfl rfl (by decide +kernel) ⟨Nat.le_of_ble_eq_true rfl, Nat.le_of_ble_eq_true rfl⟩) ⟨zPre.blind, zPre.mk hPc hKc hDc hz hS (fun q h => hFc q h)⟩ rfl rfl hl.1 rfl (lv_room (Nat.le_of_ble_eq_true rfl)) dX11_pass_5 ⟨Nat.le_of_ble_eq_true rfl, Nat.le_of_ble_eq_true rfl⟩) hS (fun q _ h => hFc q h) (fun q h => hFc q h) (fun q _ h => hFc q h) (fun E9 ce q9 u t H1 locs ht9 hvm hpx hBX hz1 hk1 hS hcell hv9 hcl => ?_) (fun _ t H1 locs _ _ hw _ _ _ _ => hw.elim)
  · cases hBX
    exact vx_out (fun x hx => (ht x hx).elim) hlocks hcell hv9 hcl (fun t9 ht9 _ => ⟨(), trivial, rfl, hS.F ht9⟩) hS.2.2 (Nat.le_of_ble_eq_true rfl) (Nat.le_of_ble_eq_true rfl)

def zno_athlete_no : List Cond := .code yX11_athlete cX11_athlete 3 (some .int) :: ([.methodLink RX11 74 yX11_requireNation, .static yX11_requireNation, .initialized RX11] ++ (zrn2 ++ ([])))
theorem zno_athlete_no_good : zno_athlete_no.all goodWord = true := by decide +kernel
set_option maxHeartbeats 4000000 in
set_option maxRecDepth 100000 in
/-- athlete: out of range: throws -/
theorem c_athlete_no (l : Launch) (hst : l.stackTraces = false) (D : va_G) (sz : Nat) (h0 : Nat) (a : Nat → Nat) (x1 : Int32) (h : zin x1 0 7 = 0) : vx_Met l yX11_athlete zno_athlete_no (zR 3 1 6) (zPre [.ref h0, .int x1] D [(h0, .inr (17, zHS a))] [] (fun q : Nat => sz ≤ q) sz) (va_Qi (S := Unit) (fun _ _ => False) (fun _ _ => True) (fun q : Nat => sz ≤ q)) (zThr "java/lang/IllegalArgumentException" (fun q : Nat => sz ≤ q)) 1 6 (fun q : Nat => sz ≤ q) := by
  refine vx_ofW (cc := cX11_athlete) (maxL := 3) (ret := (some .int)) (by decide) rfl ?_
  intro p e s m args below meth c s₁ B hml ht hv
  obtain ⟨rfl, hsz, hP, hK, hD0, hz⟩ := hv
  have hx := B.exec
  have hb := B.bytes
  have hr := B.returns
  have hts := atoms_spec (ws := zno_athlete_no) B.pre
  have hown : s.vm.findClass RX11 = some m.cls := findClass_of_methodNamed B.named
  have hlocks := B.notSynchronized
  subst hsz
  obtain ⟨A, hAe⟩ : ∃ A : Nat → Prop, A = (fun q : Nat => s.heap.size ≤ q) := ⟨_, rfl⟩
  rw [← hAe] at hz ⊢
  have hA : ∀ q : Nat, s.heap.size ≤ q → A q := fun q h => by rw [hAe]; exact h
  have hD := hD0
  have hS : va_S A s.heap s.heap [] := va_S.rf
  have hP : va_P D vwCl [(h0, .inr (17, zHS a))] s.heap := hP
  have hl := lv_entry ([.ref h0, .int x1]) (n := 3) (Nat.le_of_ble_eq_true rfl)
  rw [lg_entry_eq]
  generalize (lg_sl ([.ref h0, .int x1]) ++ List.replicate (3 - (lg_sl ([.ref h0, .int x1])).length) Slot.unset).toArray = ls at hl ⊢
  have hl : lv_has ls 3 [(0, .ref h0), (1, .int x1)] := hl
  refine lv_iload_n hx hb dX11_athlete_0 rfl (lv_at hl 1 rfl) ?_
  have hPc := hP.sub (ws' := []) [] rfl
  have hDc := hD.sub (ws' := []) [] (by decide) rfl
  have hKc := hK.sub (tys' := []) [] rfl
  have hFc : ∀ q : Nat, s.heap.size ≤ q → A q := fun q h => hA q (Nat.le_trans hS.1 h)
  refine vx_callv (vx_runS (As := [.int x1]) (rest := []) ⟨hx, hb, hml, hown, hts⟩ (c_requireNation_no l hst D s.heap.size x1 h) (cwS 1 hts (goodIn_app (goodIn_of _ (by decide +kernel)) (goodIn_sub (fun _ h => List.mem_cons_of_mem _ (List.mem_append_right _ (List.mem_append_left _ h))) zrn2_good)) rfl rfl rfl (by decide +kernel) ⟨Nat.le_of_ble_eq_true rfl, Nat.le_of_ble_eq_true rfl⟩) ⟨zPre.blind, zPre.mk hPc hKc hDc hz hS (fun q h => hFc q h)⟩ rfl rfl hl.1 rfl (lv_room (Nat.le_of_ble_eq_true rfl)) dX11_athlete_1 ⟨Nat.le_of_ble_eq_true rfl, Nat.le_of_ble_eq_true rfl⟩) hS (fun q _ h => hFc q h) (fun q h => hFc q h) (fun q _ h => hFc q h) (fun E9 ce q9 u t H1 locs ht9 hvm hpx hBX hz1 hk1 hS hcell hv9 hcl => ?_) (fun _ t H1 locs _ _ hw _ _ _ _ => hw.elim)
  · cases hBX
    exact vx_out (fun x hx => (ht x hx).elim) hlocks hcell hv9 hcl (fun t9 ht9 _ => ⟨(), trivial, rfl, hS.F ht9⟩) hS.2.2 (Nat.le_of_ble_eq_true rfl) (Nat.le_of_ble_eq_true rfl)

def zno_points_no : List Cond := .code yX11_points cX11_points 7 (some .double) :: ([.methodLink RX11 74 yX11_requireNation, .static yX11_requireNation, .initialized RX11] ++ (zrn2 ++ ([])))
theorem zno_points_no_good : zno_points_no.all goodWord = true := by decide +kernel
set_option maxHeartbeats 4000000 in
set_option maxRecDepth 100000 in
/-- points: out of range: throws -/
theorem c_points_no (l : Launch) (hst : l.stackTraces = false) (D : va_G) (sz : Nat) (h0 : Nat) (a : Nat → Nat) (x1 : Int32) (h : zin x1 0 7 = 0) : vx_Met l yX11_points zno_points_no (zR 3 1 6) (zPre [.ref h0, .int x1] D [(h0, .inr (17, zHS a))] [] (fun q : Nat => sz ≤ q) sz) (va_Qd (S := Unit) (fun _ _ => False) (fun _ _ => True) (fun q : Nat => sz ≤ q)) (zThr "java/lang/IllegalArgumentException" (fun q : Nat => sz ≤ q)) 1 6 (fun q : Nat => sz ≤ q) := by
  refine vx_ofW (cc := cX11_points) (maxL := 7) (ret := (some .double)) (by decide) rfl ?_
  intro p e s m args below meth c s₁ B hml ht hv
  obtain ⟨rfl, hsz, hP, hK, hD0, hz⟩ := hv
  have hx := B.exec
  have hb := B.bytes
  have hr := B.returns
  have hts := atoms_spec (ws := zno_points_no) B.pre
  have hown : s.vm.findClass RX11 = some m.cls := findClass_of_methodNamed B.named
  have hlocks := B.notSynchronized
  subst hsz
  obtain ⟨A, hAe⟩ : ∃ A : Nat → Prop, A = (fun q : Nat => s.heap.size ≤ q) := ⟨_, rfl⟩
  rw [← hAe] at hz ⊢
  have hA : ∀ q : Nat, s.heap.size ≤ q → A q := fun q h => by rw [hAe]; exact h
  have hD := hD0
  have hS : va_S A s.heap s.heap [] := va_S.rf
  have hP : va_P D vwCl [(h0, .inr (17, zHS a))] s.heap := hP
  have hl := lv_entry ([.ref h0, .int x1]) (n := 7) (Nat.le_of_ble_eq_true rfl)
  rw [lg_entry_eq]
  generalize (lg_sl ([.ref h0, .int x1]) ++ List.replicate (7 - (lg_sl ([.ref h0, .int x1])).length) Slot.unset).toArray = ls at hl ⊢
  have hl : lv_has ls 7 [(0, .ref h0), (1, .int x1)] := hl
  refine lv_iload_n hx hb dX11_points_0 rfl (lv_at hl 1 rfl) ?_
  have hPc := hP.sub (ws' := []) [] rfl
  have hDc := hD.sub (ws' := []) [] (by decide) rfl
  have hKc := hK.sub (tys' := []) [] rfl
  have hFc : ∀ q : Nat, s.heap.size ≤ q → A q := fun q h => hA q (Nat.le_trans hS.1 h)
  refine vx_callv (vx_runS (As := [.int x1]) (rest := []) ⟨hx, hb, hml, hown, hts⟩ (c_requireNation_no l hst D s.heap.size x1 h) (cwS 1 hts (goodIn_app (goodIn_of _ (by decide +kernel)) (goodIn_sub (fun _ h => List.mem_cons_of_mem _ (List.mem_append_right _ (List.mem_append_left _ h))) zrn2_good)) rfl rfl rfl (by decide +kernel) ⟨Nat.le_of_ble_eq_true rfl, Nat.le_of_ble_eq_true rfl⟩) ⟨zPre.blind, zPre.mk hPc hKc hDc hz hS (fun q h => hFc q h)⟩ rfl rfl hl.1 rfl (lv_room (Nat.le_of_ble_eq_true rfl)) dX11_points_1 ⟨Nat.le_of_ble_eq_true rfl, Nat.le_of_ble_eq_true rfl⟩) hS (fun q _ h => hFc q h) (fun q h => hFc q h) (fun q _ h => hFc q h) (fun E9 ce q9 u t H1 locs ht9 hvm hpx hBX hz1 hk1 hS hcell hv9 hcl => ?_) (fun _ t H1 locs _ _ hw _ _ _ _ => hw.elim)
  · cases hBX
    exact vx_out (fun x hx => (ht x hx).elim) hlocks hcell hv9 hcl (fun t9 ht9 _ => ⟨(), trivial, rfl, hS.F ht9⟩) hS.2.2 (Nat.le_of_ble_eq_true rfl) (Nat.le_of_ble_eq_true rfl)

def zno_shareBits_no : List Cond := .code yX11_shareBits cX11_shareBits 2 (some .int) :: ([.methodLink RX11 74 yX11_requireNation, .static yX11_requireNation, .initialized RX11] ++ (zrn2 ++ ([])))
theorem zno_shareBits_no_good : zno_shareBits_no.all goodWord = true := by decide +kernel
set_option maxHeartbeats 4000000 in
set_option maxRecDepth 100000 in
/-- shareBits: out of range: throws -/
theorem c_shareBits_no (l : Launch) (hst : l.stackTraces = false) (D : va_G) (sz : Nat) (h0 : Nat) (a : Nat → Nat) (x1 : Int32) (h : zin x1 0 7 = 0) : vx_Met l yX11_shareBits zno_shareBits_no (zR 3 1 6) (zPre [.ref h0, .int x1] D [(h0, .inr (17, zHS a))] [] (fun q : Nat => sz ≤ q) sz) (va_Qi (S := Unit) (fun _ _ => False) (fun _ _ => True) (fun q : Nat => sz ≤ q)) (zThr "java/lang/IllegalArgumentException" (fun q : Nat => sz ≤ q)) 1 6 (fun q : Nat => sz ≤ q) := by
  refine vx_ofW (cc := cX11_shareBits) (maxL := 2) (ret := (some .int)) (by decide) rfl ?_
  intro p e s m args below meth c s₁ B hml ht hv
  obtain ⟨rfl, hsz, hP, hK, hD0, hz⟩ := hv
  have hx := B.exec
  have hb := B.bytes
  have hr := B.returns
  have hts := atoms_spec (ws := zno_shareBits_no) B.pre
  have hown : s.vm.findClass RX11 = some m.cls := findClass_of_methodNamed B.named
  have hlocks := B.notSynchronized
  subst hsz
  obtain ⟨A, hAe⟩ : ∃ A : Nat → Prop, A = (fun q : Nat => s.heap.size ≤ q) := ⟨_, rfl⟩
  rw [← hAe] at hz ⊢
  have hA : ∀ q : Nat, s.heap.size ≤ q → A q := fun q h => by rw [hAe]; exact h
  have hD := hD0
  have hS : va_S A s.heap s.heap [] := va_S.rf
  have hP : va_P D vwCl [(h0, .inr (17, zHS a))] s.heap := hP
  have hl := lv_entry ([.ref h0, .int x1]) (n := 2) (Nat.le_of_ble_eq_true rfl)
  rw [lg_entry_eq]
  generalize (lg_sl ([.ref h0, .int x1]) ++ List.replicate (2 - (lg_sl ([.ref h0, .int x1])).length) Slot.unset).toArray = ls at hl ⊢
  have hl : lv_has ls 2 [(0, .ref h0), (1, .int x1)] := hl
  refine lv_iload_n hx hb dX11_shareBits_0 rfl (lv_at hl 1 rfl) ?_
  have hPc := hP.sub (ws' := []) [] rfl
  have hDc := hD.sub (ws' := []) [] (by decide) rfl
  have hKc := hK.sub (tys' := []) [] rfl
  have hFc : ∀ q : Nat, s.heap.size ≤ q → A q := fun q h => hA q (Nat.le_trans hS.1 h)
  refine vx_callv (vx_runS (As := [.int x1]) (rest := []) ⟨hx, hb, hml, hown, hts⟩ (c_requireNation_no l hst D s.heap.size x1 h) (cwS 1 hts (goodIn_app (goodIn_of _ (by decide +kernel)) (goodIn_sub (fun _ h => List.mem_cons_of_mem _ (List.mem_append_right _ (List.mem_append_left _ h))) zrn2_good)) rfl rfl rfl (by decide +kernel) ⟨Nat.le_of_ble_eq_true rfl, Nat.le_of_ble_eq_true rfl⟩) ⟨zPre.blind, zPre.mk hPc hKc hDc hz hS (fun q h => hFc q h)⟩ rfl rfl hl.1 rfl (lv_room (Nat.le_of_ble_eq_true rfl)) dX11_shareBits_1 ⟨Nat.le_of_ble_eq_true rfl, Nat.le_of_ble_eq_true rfl⟩) hS (fun q _ h => hFc q h) (fun q h => hFc q h) (fun q _ h => hFc q h) (fun E9 ce q9 u t H1 locs ht9 hvm hpx hBX hz1 hk1 hS hcell hv9 hcl => ?_) (fun _ t H1 locs _ _ hw _ _ _ _ => hw.elim)
  · cases hBX
    exact vx_out (fun x hx => (ht x hx).elim) hlocks hcell hv9 hcl (fun t9 ht9 _ => ⟨(), trivial, rfl, hS.F ht9⟩) hS.2.2 (Nat.le_of_ble_eq_true rfl) (Nat.le_of_ble_eq_true rfl)

def zno_medals_no : List Cond := .code yX11_medals cX11_medals 3 (some .int) :: ([.methodLink RX11 74 yX11_requireNation, .static yX11_requireNation, .initialized RX11] ++ (zrn2 ++ ([])))
theorem zno_medals_no_good : zno_medals_no.all goodWord = true := by decide +kernel
set_option maxHeartbeats 4000000 in
set_option maxRecDepth 100000 in
/-- medals: out of range: throws -/
theorem c_medals_no (l : Launch) (hst : l.stackTraces = false) (D : va_G) (sz : Nat) (h0 : Nat) (a : Nat → Nat) (x1 x2 : Int32) (h : zin x1 0 7 = 0) : vx_Met l yX11_medals zno_medals_no (zR 3 1 6) (zPre [.ref h0, .int x1, .int x2] D [(h0, .inr (17, zHS a))] [] (fun q : Nat => sz ≤ q) sz) (va_Qi (S := Unit) (fun _ _ => False) (fun _ _ => True) (fun q : Nat => sz ≤ q)) (zThr "java/lang/IllegalArgumentException" (fun q : Nat => sz ≤ q)) 1 6 (fun q : Nat => sz ≤ q) := by
  refine vx_ofW (cc := cX11_medals) (maxL := 3) (ret := (some .int)) (by decide) rfl ?_
  intro p e s m args below meth c s₁ B hml ht hv
  obtain ⟨rfl, hsz, hP, hK, hD0, hz⟩ := hv
  have hx := B.exec
  have hb := B.bytes
  have hr := B.returns
  have hts := atoms_spec (ws := zno_medals_no) B.pre
  have hown : s.vm.findClass RX11 = some m.cls := findClass_of_methodNamed B.named
  have hlocks := B.notSynchronized
  subst hsz
  obtain ⟨A, hAe⟩ : ∃ A : Nat → Prop, A = (fun q : Nat => s.heap.size ≤ q) := ⟨_, rfl⟩
  rw [← hAe] at hz ⊢
  have hA : ∀ q : Nat, s.heap.size ≤ q → A q := fun q h => by rw [hAe]; exact h
  have hD := hD0
  have hS : va_S A s.heap s.heap [] := va_S.rf
  have hP : va_P D vwCl [(h0, .inr (17, zHS a))] s.heap := hP
  have hl := lv_entry ([.ref h0, .int x1, .int x2]) (n := 3) (Nat.le_of_ble_eq_true rfl)
  rw [lg_entry_eq]
  generalize (lg_sl ([.ref h0, .int x1, .int x2]) ++ List.replicate (3 - (lg_sl ([.ref h0, .int x1, .int x2])).length) Slot.unset).toArray = ls at hl ⊢
  have hl : lv_has ls 3 [(0, .ref h0), (1, .int x1), (2, .int x2)] := hl
  refine lv_iload_n hx hb dX11_medals_0 rfl (lv_at hl 1 rfl) ?_
  have hPc := hP.sub (ws' := []) [] rfl
  have hDc := hD.sub (ws' := []) [] (by decide) rfl
  have hKc := hK.sub (tys' := []) [] rfl
  have hFc : ∀ q : Nat, s.heap.size ≤ q → A q := fun q h => hA q (Nat.le_trans hS.1 h)
  refine vx_callv (vx_runS (As := [.int x1]) (rest := []) ⟨hx, hb, hml, hown, hts⟩ (c_requireNation_no l hst D s.heap.size x1 h) (cwS 1 hts (goodIn_app (goodIn_of _ (by decide +kernel)) (goodIn_sub (fun _ h => List.mem_cons_of_mem _ (List.mem_append_right _ (List.mem_append_left _ h))) zrn2_good)) rfl rfl rfl (by decide +kernel) ⟨Nat.le_of_ble_eq_true rfl, Nat.le_of_ble_eq_true rfl⟩) ⟨zPre.blind, zPre.mk hPc hKc hDc hz hS (fun q h => hFc q h)⟩ rfl rfl hl.1 rfl (lv_room (Nat.le_of_ble_eq_true rfl)) dX11_medals_1 ⟨Nat.le_of_ble_eq_true rfl, Nat.le_of_ble_eq_true rfl⟩) hS (fun q _ h => hFc q h) (fun q h => hFc q h) (fun q _ h => hFc q h) (fun E9 ce q9 u t H1 locs ht9 hvm hpx hBX hz1 hk1 hS hcell hv9 hcl => ?_) (fun _ t H1 locs _ _ hw _ _ _ _ => hw.elim)
  · cases hBX
    exact vx_out (fun x hx => (ht x hx).elim) hlocks hcell hv9 hcl (fun t9 ht9 _ => ⟨(), trivial, rfl, hS.F ht9⟩) hS.2.2 (Nat.le_of_ble_eq_true rfl) (Nat.le_of_ble_eq_true rfl)

def zno_medals_no2 : List Cond := .code yX11_medals cX11_medals 3 (some .int) :: ([.methodLink RX11 74 yX11_requireNation, .static yX11_requireNation, .initialized RX11, .methodLink RX11 98 yX11_requireRange, .static yX11_requireRange] ++ (zrn1 ++ (zrr2 ++ ([]))))
theorem zno_medals_no2_good : zno_medals_no2.all goodWord = true := by decide +kernel
set_option maxHeartbeats 4000000 in
set_option maxRecDepth 100000 in
/-- medals: out of range: throws -/
theorem c_medals_no2 (l : Launch) (hst : l.stackTraces = false) (D : va_G) (sz : Nat) (h0 : Nat) (a : Nat → Nat) (x1 x2 : Int32) (h : zin x1 0 7 = 1) (h2 : zin x2 0 3 = 0) : vx_Met l yX11_medals zno_medals_no2 (zR 3 1 6) (zPre [.ref h0, .int x1, .int x2] D [(h0, .inr (17, zHS a))] [] (fun q : Nat => sz ≤ q) sz) (va_Qi (S := Unit) (fun _ _ => False) (fun _ _ => True) (fun q : Nat => sz ≤ q)) (zThr "java/lang/IllegalArgumentException" (fun q : Nat => sz ≤ q)) 1 6 (fun q : Nat => sz ≤ q) := by
  refine vx_ofW (cc := cX11_medals) (maxL := 3) (ret := (some .int)) (by decide) rfl ?_
  intro p e s m args below meth c s₁ B hml ht hv
  obtain ⟨rfl, hsz, hP, hK, hD0, hz⟩ := hv
  have hx := B.exec
  have hb := B.bytes
  have hr := B.returns
  have hts := atoms_spec (ws := zno_medals_no2) B.pre
  have hown : s.vm.findClass RX11 = some m.cls := findClass_of_methodNamed B.named
  have hlocks := B.notSynchronized
  subst hsz
  obtain ⟨A, hAe⟩ : ∃ A : Nat → Prop, A = (fun q : Nat => s.heap.size ≤ q) := ⟨_, rfl⟩
  rw [← hAe] at hz ⊢
  have hA : ∀ q : Nat, s.heap.size ≤ q → A q := fun q h => by rw [hAe]; exact h
  have hD := hD0
  have hS : va_S A s.heap s.heap [] := va_S.rf
  have hP : va_P D vwCl [(h0, .inr (17, zHS a))] s.heap := hP
  have hl := lv_entry ([.ref h0, .int x1, .int x2]) (n := 3) (Nat.le_of_ble_eq_true rfl)
  rw [lg_entry_eq]
  generalize (lg_sl ([.ref h0, .int x1, .int x2]) ++ List.replicate (3 - (lg_sl ([.ref h0, .int x1, .int x2])).length) Slot.unset).toArray = ls at hl ⊢
  have hl : lv_has ls 3 [(0, .ref h0), (1, .int x1), (2, .int x2)] := hl
  refine lv_iload_n hx hb dX11_medals_0 rfl (lv_at hl 1 rfl) ?_
  have hPc := hP.sub (ws' := []) [] rfl
  have hDc := hD.sub (ws' := []) [] (by decide) rfl
  have hKc := hK.sub (tys' := []) [] rfl
  have hFc : ∀ q : Nat, s.heap.size ≤ q → A q := fun q h => hA q (Nat.le_trans hS.1 h)
  refine va_callv (va_runS (As := [.int x1]) (rest := []) ⟨hx, hb, hml, hown, hts⟩ (c_requireNation_ok l hst D s.heap.size x1 h) (cwS 1 hts (goodIn_app (goodIn_of _ (by decide +kernel)) (goodIn_sub (fun _ h => List.mem_cons_of_mem _ (List.mem_append_right _ (List.mem_append_left _ h))) zrn1_good)) rfl rfl rfl (by decide +kernel) ⟨Nat.le_of_ble_eq_true rfl, Nat.le_of_ble_eq_true rfl⟩) ⟨zPre.blind, zPre.mk hPc hKc hDc hz hS (fun q h => hFc q h)⟩ rfl rfl hl.1 rfl (lv_room (Nat.le_of_ble_eq_true rfl)) dX11_medals_1 ⟨Nat.le_of_ble_eq_true rfl, Nat.le_of_ble_eq_true rfl⟩) hS (fun q _ h => hFc q h) (fun q h => hFc q h) (fun u t H1 locs ht9 hvm hw hB hz1 hk1 hS => ?_)
  refine W.widen (k := 0) (n := 0) (by omega) (by omega) ?_
  have hP := zKeep hP hk1
  generalize H1 = H at hP hS ⊢
  have hP : va_P D vwCl [(h0, .inr (17, zHS a))] H := hP
  refine lv_iload_n hx hb dX11_medals_4 rfl (lv_at hl 2 rfl) ?_
  refine lv_iconst (v := 0) hx hb dX11_medals_5 (by decide) ?_
  refine lv_iconst (v := 3) hx hb dX11_medals_6 (by decide) ?_
  have hPc := hP.sub (ws' := []) [] rfl
  have hDc := hD.sub (ws' := []) [] (by decide) rfl
  have hKc := hK.sub (tys' := []) [] rfl
  have hFc : ∀ q : Nat, H.size ≤ q → A q := fun q h => hA q (Nat.le_trans hS.1 h)
  refine vx_callv (vx_runS (As := [.int x2, .int 0, .int 3]) (rest := []) ⟨hx, hb, hml, hown, hts⟩ (c_requireRange_no l hst D H.size x2 0 3 h2) (cwS 3 hts (goodIn_app (goodIn_of _ (by decide +kernel)) (goodIn_sub (fun _ h => List.mem_cons_of_mem _ (List.mem_append_right _ (List.mem_append_right _ (List.mem_append_left _ h)))) zrr2_good)) rfl rfl rfl (by decide +kernel) ⟨Nat.le_of_ble_eq_true rfl, Nat.le_of_ble_eq_true rfl⟩) ⟨zPre.blind, zPre.mk hPc hKc hDc hz hS (fun q h => hFc q h)⟩ rfl rfl hl.1 rfl (lv_room (Nat.le_of_ble_eq_true rfl)) dX11_medals_7 ⟨Nat.le_of_ble_eq_true rfl, Nat.le_of_ble_eq_true rfl⟩) hS (fun q _ h => hFc q h) (fun q h => hFc q h) (fun q _ h => hFc q h) (fun E9 ce q9 u t H1 locs ht9 hvm hpx hBX hz1 hk1 hS hcell hv9 hcl => ?_) (fun _ t H1 locs _ _ hw _ _ _ _ => hw.elim)
  · cases hBX
    exact vx_out (fun x hx => (ht x hx).elim) hlocks hcell hv9 hcl (fun t9 ht9 _ => ⟨(), trivial, rfl, hS.F ht9⟩) hS.2.2 (Nat.le_of_ble_eq_true rfl) (Nat.le_of_ble_eq_true rfl)

def zno_inTable_no : List Cond := .code yX11_inTable cX11_inTable 3 (some .int) :: ([.methodLink RX11 98 yX11_requireRange, .static yX11_requireRange, .initialized RX11] ++ (zrr2 ++ ([])))
theorem zno_inTable_no_good : zno_inTable_no.all goodWord = true := by decide +kernel
set_option maxHeartbeats 4000000 in
set_option maxRecDepth 100000 in
/-- inTable: out of range: throws -/
theorem c_inTable_no (l : Launch) (hst : l.stackTraces = false) (D : va_G) (sz : Nat) (h0 : Nat) (a : Nat → Nat) (x1 x2 : Int32) (h : zin x1 0 7 = 0) : vx_Met l yX11_inTable zno_inTable_no (zR 3 1 6) (zPre [.ref h0, .int x1, .int x2] D [(h0, .inr (17, zHS a))] [] (fun q : Nat => sz ≤ q) sz) (va_Qi (S := Unit) (fun _ _ => False) (fun _ _ => True) (fun q : Nat => sz ≤ q)) (zThr "java/lang/IllegalArgumentException" (fun q : Nat => sz ≤ q)) 1 6 (fun q : Nat => sz ≤ q) := by
  refine vx_ofW (cc := cX11_inTable) (maxL := 3) (ret := (some .int)) (by decide) rfl ?_
  intro p e s m args below meth c s₁ B hml ht hv
  obtain ⟨rfl, hsz, hP, hK, hD0, hz⟩ := hv
  have hx := B.exec
  have hb := B.bytes
  have hr := B.returns
  have hts := atoms_spec (ws := zno_inTable_no) B.pre
  have hown : s.vm.findClass RX11 = some m.cls := findClass_of_methodNamed B.named
  have hlocks := B.notSynchronized
  subst hsz
  obtain ⟨A, hAe⟩ : ∃ A : Nat → Prop, A = (fun q : Nat => s.heap.size ≤ q) := ⟨_, rfl⟩
  rw [← hAe] at hz ⊢
  have hA : ∀ q : Nat, s.heap.size ≤ q → A q := fun q h => by rw [hAe]; exact h
  have hD := hD0
  have hS : va_S A s.heap s.heap [] := va_S.rf
  have hP : va_P D vwCl [(h0, .inr (17, zHS a))] s.heap := hP
  have hl := lv_entry ([.ref h0, .int x1, .int x2]) (n := 3) (Nat.le_of_ble_eq_true rfl)
  rw [lg_entry_eq]
  generalize (lg_sl ([.ref h0, .int x1, .int x2]) ++ List.replicate (3 - (lg_sl ([.ref h0, .int x1, .int x2])).length) Slot.unset).toArray = ls at hl ⊢
  have hl : lv_has ls 3 [(0, .ref h0), (1, .int x1), (2, .int x2)] := hl
  refine lv_iload_n hx hb dX11_inTable_0 rfl (lv_at hl 1 rfl) ?_
  refine lv_iconst (v := 0) hx hb dX11_inTable_1 (by decide) ?_
  refine lv_bipush (v := 7) hx hb dX11_inTable_2 (by decide) ?_
  have hPc := hP.sub (ws' := []) [] rfl
  have hDc := hD.sub (ws' := []) [] (by decide) rfl
  have hKc := hK.sub (tys' := []) [] rfl
  have hFc : ∀ q : Nat, s.heap.size ≤ q → A q := fun q h => hA q (Nat.le_trans hS.1 h)
  refine vx_callv (vx_runS (As := [.int x1, .int 0, .int 7]) (rest := []) ⟨hx, hb, hml, hown, hts⟩ (c_requireRange_no l hst D s.heap.size x1 0 7 h) (cwS 3 hts (goodIn_app (goodIn_of _ (by decide +kernel)) (goodIn_sub (fun _ h => List.mem_cons_of_mem _ (List.mem_append_right _ (List.mem_append_left _ h))) zrr2_good)) rfl rfl rfl (by decide +kernel) ⟨Nat.le_of_ble_eq_true rfl, Nat.le_of_ble_eq_true rfl⟩) ⟨zPre.blind, zPre.mk hPc hKc hDc hz hS (fun q h => hFc q h)⟩ rfl rfl hl.1 rfl (lv_room (Nat.le_of_ble_eq_true rfl)) dX11_inTable_4 ⟨Nat.le_of_ble_eq_true rfl, Nat.le_of_ble_eq_true rfl⟩) hS (fun q _ h => hFc q h) (fun q h => hFc q h) (fun q _ h => hFc q h) (fun E9 ce q9 u t H1 locs ht9 hvm hpx hBX hz1 hk1 hS hcell hv9 hcl => ?_) (fun _ t H1 locs _ _ hw _ _ _ _ => hw.elim)
  · cases hBX
    exact vx_out (fun x hx => (ht x hx).elim) hlocks hcell hv9 hcl (fun t9 ht9 _ => ⟨(), trivial, rfl, hS.F ht9⟩) hS.2.2 (Nat.le_of_ble_eq_true rfl) (Nat.le_of_ble_eq_true rfl)

def zX11_pass_ws : List Cond := .code yX11_pass cX11_pass 2 (some .int) :: ([.methodLink RX11 98 yX11_requireRange, .static yX11_requireRange, .initialized RX11, .fieldLink RX11 68 "HeatStadium" "minute" "I"] ++ (zrr1 ++ (wsX110 ++ ([]))))
theorem zX11_pass_ws_good : zX11_pass_ws.all goodWord = true := by decide +kernel
set_option maxHeartbeats 4000000 in
set_option maxRecDepth 100000 in
/-- pass of games at the minute 0 -/
theorem c_pass_ok (l : Launch) (hst : l.stackTraces = false) (D : va_G) (sz : Nat) (h0 : Nat) (a : Nat → Nat) (x1 : Int32) (h : zin x1 1 9999 = 1) : Met l yX11_pass zX11_pass_ws (zR 3 0 0) (zPre [.ref h0, .int x1] D [(h0, .inr (17, zHS a))] [] (va_A [(h0, .inr (17, zHS a))] sz) sz) (va_Qi (S := Unit) (fun r _ => r = 0 + x1) (fun _ t => zAt D [] [] (va_A [(h0, .inr (17, zHS a))] sz) t) (va_A [(h0, .inr (17, zHS a))] sz)) 0 0 (va_A [(h0, .inr (17, zHS a))] sz) := by
  refine Met.ofW (cc := cX11_pass) (maxL := 2) (ret := (some .int)) (by decide) rfl ?_
  intro p e s m args below meth c s₁ B hml hv
  obtain ⟨rfl, hsz, hP, hK, hD0, hz⟩ := hv
  have hx := B.exec
  have hb := B.bytes
  have hr := B.returns
  have hts := atoms_spec (ws := zX11_pass_ws) B.pre
  have hown : s.vm.findClass RX11 = some m.cls := findClass_of_methodNamed B.named
  have hlocks := B.notSynchronized
  subst hsz
  have hD := hD0.self (sz := s.heap.size)
  generalize hAe : va_A [(h0, .inr (17, zHS a))] s.heap.size = A at hD hz ⊢
  have hA : ∀ q : Nat, s.heap.size ≤ q → A q := fun q h => by rw [← hAe]; exact Or.inr h
  have hS : va_S A s.heap s.heap [] := va_S.rf
  have hP : va_P D vwCl [(h0, .inr (17, zHS a))] s.heap := hP
  have hl := lv_entry ([.ref h0, .int x1]) (n := 2) (Nat.le_of_ble_eq_true rfl)
  rw [lg_entry_eq]
  generalize (lg_sl ([.ref h0, .int x1]) ++ List.replicate (2 - (lg_sl ([.ref h0, .int x1])).length) Slot.unset).toArray = ls at hl ⊢
  have hl : lv_has ls 2 [(0, .ref h0), (1, .int x1)] := hl
  refine lv_iload_n hx hb dX11_pass_0 rfl (lv_at hl 1 rfl) ?_
  refine lv_iconst (v := 1) hx hb dX11_pass_1 (by decide) ?_
  refine lv_sipush (v := 9999) hx hb dX11_pass_2 (by decide) ?_
  have hPc := hP.sub (ws' := []) [] rfl
  have hDc := hD.sub (ws' := []) [] (by decide) rfl
  have hKc := hK.sub (tys' := []) [] rfl
  have hFc : ∀ q : Nat, s.heap.size ≤ q → A q := fun q h => hA q (Nat.le_trans hS.1 h)
  refine va_callv (va_runS (As := [.int x1, .int 1, .int 9999]) (rest := []) ⟨hx, hb, hml, hown, hts⟩ (c_requireRange_ok l hst D s.heap.size x1 1 9999 h) (cwS 3 hts (goodIn_app (goodIn_of _ (by decide +kernel)) (goodIn_sub (fun _ h => List.mem_cons_of_mem _ (List.mem_append_right _ (List.mem_append_left _ h))) zrr1_good)) rfl rfl rfl (by decide +kernel) ⟨Nat.le_of_ble_eq_true rfl, Nat.le_of_ble_eq_true rfl⟩) ⟨zPre.blind, zPre.mk hPc hKc hDc hz hS (fun q h => hFc q h)⟩ rfl rfl hl.1 rfl (lv_room (Nat.le_of_ble_eq_true rfl)) dX11_pass_5 ⟨Nat.le_of_ble_eq_true rfl, Nat.le_of_ble_eq_true rfl⟩) hS (fun q _ h => hFc q h) (fun q h => hFc q h) (fun u t H1 locs ht9 hvm hw hB hz1 hk1 hS => ?_)
  refine W.widen (k := 0) (n := 0) (by omega) (by omega) ?_
  have hP := zKeep hP hk1
  generalize H1 = H at hP hS ⊢
  have hP : va_P D vwCl [(h0, .inr (17, zHS a))] H := hP
  refine lv_aload_n hx hb dX11_pass_8 rfl (lv_at hl 0 rfl) ?_
  refine lv_dup hx hb dX11_pass_9 rfl ?_
  refine va_get (D := D) (ci := 17) (v := .int 0) (C := RX11) (T := TX11) (N := 11) hx hb hts (by decide +kernel) hown hK hP 0 rfl rfl 9 (by decide) (hts (.fieldLink RX11 68 "HeatStadium" "minute" "I") (by decide +kernel)) (fun _ h9 => h9) rfl dX11_pass_10 ?_
  refine lv_iload_n hx hb dX11_pass_13 rfl (lv_at hl 1 rfl) ?_
  refine lv_iadd hx hb dX11_pass_14 ?_
  refine va_put (D := D) (ci := 17) (v := .int (0 + x1)) (ty := .int) (C := RX11) (T := TX11) (N := 11) hx hb hts (by decide +kernel) tyX11 tyX11_ok nmX11 hown hK hP hD hS 0 rfl rfl 9 (by decide) (hts (.fieldLink RX11 68 "HeatStadium" "minute" "I") (by decide +kernel)) (fun _ h9 => h9) rfl (by decide +kernel) rfl rfl (Nat.le_of_ble_eq_true rfl) dX11_pass_15 (fun H locs hP hD hS => ?_)
  have hP : va_P D vwCl [(h0, .inr (17, [.ref (a 0), .ref (a 1), .ref (a 2), .ref (a 3), .ref (a 4), .ref (a 5), .ref (a 6), .ref (a 7), .int 0, .int (0 + x1), .int 0]))] H := hP
  have hD : va_D A [(h0, .inr (17, [.ref (a 0), .ref (a 1), .ref (a 2), .ref (a 3), .ref (a 4), .ref (a 5), .ref (a 6), .ref (a 7), .int 0, .int (0 + x1), .int 0]))] := hD
  refine lv_aload_n hx hb dX11_pass_18 rfl (lv_at hl 0 rfl) ?_
  refine va_get (D := D) (ci := 17) (v := .int (0 + x1)) (C := RX11) (T := TX11) (N := 11) hx hb hts (by decide +kernel) hown hK hP 0 rfl rfl 9 (by decide) (hts (.fieldLink RX11 68 "HeatStadium" "minute" "I") (by decide +kernel)) (fun _ h9 => h9) rfl dX11_pass_19 ?_
  have hP9 := hP.sub (ws' := []) [] rfl
  have hD9 := hD.sub (ws' := []) [] (by decide) rfl
  have hK9 := hK.sub (tys' := []) [] rfl
  rw [← hAe] at hD9
  refine W.widen (k := 0) (n := 0) (by omega) (by omega) ?_
  subst hAe
  exact W.iret (v := (0 + x1)) hx hb hr (fun t ht9 hW => ⟨⟨(0 + x1), (), rfl, rfl, ⟨by rw [ht9]; exact hP9, va_K.moved hW.alike hK9, hD9⟩⟩, hS.F ht9⟩) hS.2.2 dX11_pass_22

def zX11_points_ws : List Cond := .code yX11_points cX11_points 7 (some .double) :: ([.methodLink RX11 74 yX11_requireNation, .static yX11_requireNation, .initialized RX11, .fieldLink RX11 64 "HeatStadium" "eventCount" "I"] ++ (zrn1 ++ (wsX110 ++ ([]))))
theorem zX11_points_ws_good : zX11_points_ws.all goodWord = true := by decide +kernel
set_option maxHeartbeats 4000000 in
set_option maxRecDepth 100000 in
/-- points of games without events -/
theorem c_points_ok (l : Launch) (hst : l.stackTraces = false) (D : va_G) (sz : Nat) (h0 : Nat) (a : Nat → Nat) (x1 : Int32) (h : zin x1 0 7 = 1) : Met l yX11_points zX11_points_ws (zR 3 0 0) (zPre [.ref h0, .int x1] D [(h0, .inr (17, zHS a))] [] (fun q : Nat => sz ≤ q) sz) (va_Qd (S := Unit) (fun r _ => r = 0) (fun _ _ => True) (fun q : Nat => sz ≤ q)) 0 0 (fun q : Nat => sz ≤ q) := by
  refine Met.ofW (cc := cX11_points) (maxL := 7) (ret := (some .double)) (by decide) rfl ?_
  intro p e s m args below meth c s₁ B hml hv
  obtain ⟨rfl, hsz, hP, hK, hD0, hz⟩ := hv
  have hx := B.exec
  have hb := B.bytes
  have hr := B.returns
  have hts := atoms_spec (ws := zX11_points_ws) B.pre
  have hown : s.vm.findClass RX11 = some m.cls := findClass_of_methodNamed B.named
  have hlocks := B.notSynchronized
  subst hsz
  obtain ⟨A, hAe⟩ : ∃ A : Nat → Prop, A = (fun q : Nat => s.heap.size ≤ q) := ⟨_, rfl⟩
  rw [← hAe] at hz ⊢
  have hA : ∀ q : Nat, s.heap.size ≤ q → A q := fun q h => by rw [hAe]; exact h
  have hD := hD0
  have hS : va_S A s.heap s.heap [] := va_S.rf
  have hP : va_P D vwCl [(h0, .inr (17, zHS a))] s.heap := hP
  have hl := lv_entry ([.ref h0, .int x1]) (n := 7) (Nat.le_of_ble_eq_true rfl)
  rw [lg_entry_eq]
  generalize (lg_sl ([.ref h0, .int x1]) ++ List.replicate (7 - (lg_sl ([.ref h0, .int x1])).length) Slot.unset).toArray = ls at hl ⊢
  have hl : lv_has ls 7 [(0, .ref h0), (1, .int x1)] := hl
  refine lv_iload_n hx hb dX11_points_0 rfl (lv_at hl 1 rfl) ?_
  have hPc := hP.sub (ws' := []) [] rfl
  have hDc := hD.sub (ws' := []) [] (by decide) rfl
  have hKc := hK.sub (tys' := []) [] rfl
  have hFc : ∀ q : Nat, s.heap.size ≤ q → A q := fun q h => hA q (Nat.le_trans hS.1 h)
  refine va_callv (va_runS (As := [.int x1]) (rest := []) ⟨hx, hb, hml, hown, hts⟩ (c_requireNation_ok l hst D s.heap.size x1 h) (cwS 1 hts (goodIn_app (goodIn_of _ (by decide +kernel)) (goodIn_sub (fun _ h => List.mem_cons_of_mem _ (List.mem_append_right _ (List.mem_append_left _ h))) zrn1_good)) rfl rfl rfl (by decide +kernel) ⟨Nat.le_of_ble_eq_true rfl, Nat.le_of_ble_eq_true rfl⟩) ⟨zPre.blind, zPre.mk hPc hKc hDc hz hS (fun q h => hFc q h)⟩ rfl rfl hl.1 rfl (lv_room (Nat.le_of_ble_eq_true rfl)) dX11_points_1 ⟨Nat.le_of_ble_eq_true rfl, Nat.le_of_ble_eq_true rfl⟩) hS (fun q _ h => hFc q h) (fun q h => hFc q h) (fun u t H1 locs ht9 hvm hw hB hz1 hk1 hS => ?_)
  refine W.widen (k := 0) (n := 0) (by omega) (by omega) ?_
  have hP := zKeep hP hk1
  generalize H1 = H at hP hS ⊢
  have hP : va_P D vwCl [(h0, .inr (17, zHS a))] H := hP
  refine lv_dconst0 hx hb dX11_points_4 ?_
  refine lv_dstore_n (lv' := [(2, .double 0), (0, .ref h0), (1, .int x1)]) hx hb dX11_points_5 rfl hl (by decide) rfl (fun ls hl => ?_)
  refine lv_iconst (v := 0) hx hb dX11_points_6 (by decide) ?_
  refine lv_istore (lv' := [(4, .int 0), (2, .double 0), (0, .ref h0), (1, .int x1)]) hx hb dX11_points_7 hl (by decide) rfl (fun ls hl => ?_)
  refine lv_iload hx hb dX11_points_9 (lv_at hl 0 rfl) ?_
  refine lv_aload_n hx hb dX11_points_11 rfl (lv_at hl 2 rfl) ?_
  refine va_get (D := D) (ci := 17) (v := .int 0) (C := RX11) (T := TX11) (N := 11) hx hb hts (by decide +kernel) hown hK hP 0 rfl rfl 8 (by decide) (hts (.fieldLink RX11 64 "HeatStadium" "eventCount" "I") (by decide +kernel)) (fun _ h9 => h9) rfl dX11_points_12 ?_
  refine lv_icmp_ge (tgt := 115) hx hb dX11_points_15 (by decide) (fun _ => ?_) (fun c => absurd (by decide) c)
  refine lv_dload_n hx hb dX11_points_115 rfl (lv_at hl 1 rfl) ?_
  refine W.widen (k := 0) (n := 0) (by omega) (by omega) ?_
  exact W.dret (v := 0) hx hb hr (fun t ht9 hW => ⟨⟨0, (), rfl, rfl, trivial⟩, hS.F ht9⟩) hS.2.2 dX11_points_116
end
section
/-! printed rows that this part uses -/
theorem dX4_clear_0 : decode cX4_clear 0 = .ok (.aload_n 0, 1) := by decide +kernel
theorem dX4_clear_1 : decode cX4_clear 1 = .ok (.iconst 0, 1) := by decide +kernel
theorem dX4_clear_2 : decode cX4_clear 2 = .ok (.putfield 16, 3) := by decide +kernel
theorem dX4_clear_5 : decode cX4_clear 5 = .ok (.iconst 0, 1) := by decide +kernel
theorem dX4_clear_6 : decode cX4_clear 6 = .ok (.istore_n 1, 1) := by decide +kernel
theorem dX4_clear_7 : decode cX4_clear 7 = .ok (.iload_n 1, 1) := by decide +kernel
theorem dX4_clear_8 : decode cX4_clear 8 = .ok (.bipush 8, 2) := by decide +kernel
theorem dX4_clear_10 : decode cX4_clear 10 = .ok (.if_icmp .ge 31, 3) := by decide +kernel
theorem dX4_clear_13 : decode cX4_clear 13 = .ok (.iconst 0, 1) := by decide +kernel
theorem dX4_clear_14 : decode cX4_clear 14 = .ok (.istore_n 2, 1) := by decide +kernel
theorem dX4_clear_15 : decode cX4_clear 15 = .ok (.iload_n 2, 1) := by decide +kernel
theorem dX4_clear_16 : decode cX4_clear 16 = .ok (.iconst 4, 1) := by decide +kernel
theorem dX4_clear_17 : decode cX4_clear 17 = .ok (.if_icmp .ge 18, 3) := by decide +kernel
theorem dX4_clear_20 : decode cX4_clear 20 = .ok (.aload_n 0, 1) := by decide +kernel
theorem dX4_clear_21 : decode cX4_clear 21 = .ok (.getfield 11, 3) := by decide +kernel
theorem dX4_clear_24 : decode cX4_clear 24 = .ok (.iload_n 1, 1) := by decide +kernel
theorem dX4_clear_25 : decode cX4_clear 25 = .ok (.aaload, 1) := by decide +kernel
theorem dX4_clear_26 : decode cX4_clear 26 = .ok (.iload_n 2, 1) := by decide +kernel
theorem dX4_clear_27 : decode cX4_clear 27 = .ok (.iconst 0, 1) := by decide +kernel
theorem dX4_clear_28 : decode cX4_clear 28 = .ok (.iastore, 1) := by decide +kernel
theorem dX4_clear_29 : decode cX4_clear 29 = .ok (.iinc 2 1, 3) := by decide +kernel
theorem dX4_clear_32 : decode cX4_clear 32 = .ok (.goto (-17), 3) := by decide +kernel
theorem dX4_clear_35 : decode cX4_clear 35 = .ok (.iinc 1 1, 3) := by decide +kernel
theorem dX4_clear_38 : decode cX4_clear 38 = .ok (.goto (-31), 3) := by decide +kernel
theorem dX4_clear_41 : decode cX4_clear 41 = .ok (.return_, 1) := by decide +kernel
theorem dX4_nationAt_0 : decode cX4_nationAt 0 = .ok (.iconst 0, 1) := by decide +kernel
theorem dX4_nationAt_1 : decode cX4_nationAt 1 = .ok (.istore_n 3, 1) := by decide +kernel
theorem dX4_nationAt_2 : decode cX4_nationAt 2 = .ok (.iload_n 3, 1) := by decide +kernel
theorem dX4_nationAt_3 : decode cX4_nationAt 3 = .ok (.bipush 8, 2) := by decide +kernel
theorem dX4_nationAt_5 : decode cX4_nationAt 5 = .ok (.if_icmp .ge 50, 3) := by decide +kernel
theorem dX4_nationAt_8 : decode cX4_nationAt 8 = .ok (.iconst 0, 1) := by decide +kernel
theorem dX4_nationAt_9 : decode cX4_nationAt 9 = .ok (.istore 4, 2) := by decide +kernel
theorem dX4_nationAt_11 : decode cX4_nationAt 11 = .ok (.iconst 0, 1) := by decide +kernel
theorem dX4_nationAt_12 : decode cX4_nationAt 12 = .ok (.istore 5, 2) := by decide +kernel
theorem dX4_nationAt_14 : decode cX4_nationAt 14 = .ok (.iload 5, 2) := by decide +kernel
theorem dX4_nationAt_16 : decode cX4_nationAt 16 = .ok (.bipush 8, 2) := by decide +kernel
theorem dX4_nationAt_18 : decode cX4_nationAt 18 = .ok (.if_icmp .ge 23, 3) := by decide +kernel
theorem dX4_nationAt_21 : decode cX4_nationAt 21 = .ok (.aload_n 0, 1) := by decide +kernel
theorem dX4_nationAt_22 : decode cX4_nationAt 22 = .ok (.iload 5, 2) := by decide +kernel
theorem dX4_nationAt_24 : decode cX4_nationAt 24 = .ok (.iload_n 3, 1) := by decide +kernel
theorem dX4_nationAt_25 : decode cX4_nationAt 25 = .ok (.iload_n 2, 1) := by decide +kernel
theorem dX4_nationAt_26 : decode cX4_nationAt 26 = .ok (.invokevirtual 20, 3) := by decide +kernel
theorem dX4_nationAt_29 : decode cX4_nationAt 29 = .ok (.ifCond .eq 6, 3) := by decide +kernel
theorem dX4_nationAt_32 : decode cX4_nationAt 32 = .ok (.iinc 4 1, 3) := by decide +kernel
theorem dX4_nationAt_35 : decode cX4_nationAt 35 = .ok (.iinc 5 1, 3) := by decide +kernel
theorem dX4_nationAt_38 : decode cX4_nationAt 38 = .ok (.goto (-24), 3) := by decide +kernel
theorem dX4_nationAt_41 : decode cX4_nationAt 41 = .ok (.iload 4, 2) := by decide +kernel
theorem dX4_nationAt_43 : decode cX4_nationAt 43 = .ok (.iload_n 1, 1) := by decide +kernel
theorem dX4_nationAt_44 : decode cX4_nationAt 44 = .ok (.if_icmp .ne 5, 3) := by decide +kernel
theorem dX4_nationAt_47 : decode cX4_nationAt 47 = .ok (.iload_n 3, 1) := by decide +kernel
theorem dX4_nationAt_48 : decode cX4_nationAt 48 = .ok (.ireturn, 1) := by decide +kernel
theorem dX4_nationAt_49 : decode cX4_nationAt 49 = .ok (.iinc 3 1, 3) := by decide +kernel
theorem dX4_nationAt_52 : decode cX4_nationAt 52 = .ok (.goto (-50), 3) := by decide +kernel
theorem dX4_isAhead_0 : decode cX4_isAhead 0 = .ok (.iload_n 3, 1) := by decide +kernel
theorem dX4_isAhead_1 : decode cX4_isAhead 1 = .ok (.ifCond .eq 7, 3) := by decide +kernel
theorem dX4_isAhead_4 : decode cX4_isAhead 4 = .ok (.iconst 0, 1) := by decide +kernel
theorem dX4_isAhead_5 : decode cX4_isAhead 5 = .ok (.goto 4, 3) := by decide +kernel
theorem dX4_isAhead_8 : decode cX4_isAhead 8 = .ok (.iconst 1, 1) := by decide +kernel
theorem dX4_isAhead_9 : decode cX4_isAhead 9 = .ok (.istore 4, 2) := by decide +kernel
theorem dX4_isAhead_11 : decode cX4_isAhead 11 = .ok (.iload 4, 2) := by decide +kernel
theorem dX4_isAhead_13 : decode cX4_isAhead 13 = .ok (.iconst 4, 1) := by decide +kernel
theorem dX4_isAhead_14 : decode cX4_isAhead 14 = .ok (.if_icmp .ge 57, 3) := by decide +kernel
theorem dX4_isAhead_17 : decode cX4_isAhead 17 = .ok (.aload_n 0, 1) := by decide +kernel
theorem dX4_isAhead_18 : decode cX4_isAhead 18 = .ok (.getfield 11, 3) := by decide +kernel
theorem dX4_isAhead_21 : decode cX4_isAhead 21 = .ok (.iload_n 1, 1) := by decide +kernel
theorem dX4_isAhead_22 : decode cX4_isAhead 22 = .ok (.aaload, 1) := by decide +kernel
theorem dX4_isAhead_23 : decode cX4_isAhead 23 = .ok (.iload 4, 2) := by decide +kernel
theorem dX4_isAhead_25 : decode cX4_isAhead 25 = .ok (.iaload, 1) := by decide +kernel
theorem dX4_isAhead_26 : decode cX4_isAhead 26 = .ok (.aload_n 0, 1) := by decide +kernel
theorem dX4_isAhead_27 : decode cX4_isAhead 27 = .ok (.getfield 11, 3) := by decide +kernel
theorem dX4_isAhead_30 : decode cX4_isAhead 30 = .ok (.iload_n 2, 1) := by decide +kernel
theorem dX4_isAhead_31 : decode cX4_isAhead 31 = .ok (.aaload, 1) := by decide +kernel
theorem dX4_isAhead_32 : decode cX4_isAhead 32 = .ok (.iload 4, 2) := by decide +kernel
theorem dX4_isAhead_34 : decode cX4_isAhead 34 = .ok (.iaload, 1) := by decide +kernel
theorem dX4_isAhead_35 : decode cX4_isAhead 35 = .ok (.if_icmp .eq 30, 3) := by decide +kernel
theorem dX4_isAhead_65 : decode cX4_isAhead 65 = .ok (.iinc 4 1, 3) := by decide +kernel
theorem dX4_isAhead_68 : decode cX4_isAhead 68 = .ok (.goto (-57), 3) := by decide +kernel
theorem dX4_isAhead_71 : decode cX4_isAhead 71 = .ok (.iload_n 1, 1) := by decide +kernel
theorem dX4_isAhead_72 : decode cX4_isAhead 72 = .ok (.iload_n 2, 1) := by decide +kernel
theorem dX4_isAhead_73 : decode cX4_isAhead 73 = .ok (.if_icmp .ge 7, 3) := by decide +kernel
theorem dX4_isAhead_76 : decode cX4_isAhead 76 = .ok (.iconst 1, 1) := by decide +kernel
theorem dX4_isAhead_77 : decode cX4_isAhead 77 = .ok (.goto 4, 3) := by decide +kernel
theorem dX4_isAhead_80 : decode cX4_isAhead 80 = .ok (.iconst 0, 1) := by decide +kernel
theorem dX4_isAhead_81 : decode cX4_isAhead 81 = .ok (.ireturn, 1) := by decide +kernel
theorem dX4_sumOfNations_0 : decode cX4_sumOfNations 0 = .ok (.iconst 0, 1) := by decide +kernel
theorem dX4_sumOfNations_1 : decode cX4_sumOfNations 1 = .ok (.istore_n 1, 1) := by decide +kernel
theorem dX4_sumOfNations_2 : decode cX4_sumOfNations 2 = .ok (.iconst 0, 1) := by decide +kernel
theorem dX4_sumOfNations_3 : decode cX4_sumOfNations 3 = .ok (.istore_n 2, 1) := by decide +kernel
theorem dX4_sumOfNations_4 : decode cX4_sumOfNations 4 = .ok (.iload_n 2, 1) := by decide +kernel
theorem dX4_sumOfNations_5 : decode cX4_sumOfNations 5 = .ok (.bipush 8, 2) := by decide +kernel
theorem dX4_sumOfNations_7 : decode cX4_sumOfNations 7 = .ok (.if_icmp .ge 38, 3) := by decide +kernel
theorem dX4_sumOfNations_10 : decode cX4_sumOfNations 10 = .ok (.iload_n 1, 1) := by decide +kernel
theorem dX4_sumOfNations_11 : decode cX4_sumOfNations 11 = .ok (.aload_n 0, 1) := by decide +kernel
theorem dX4_sumOfNations_12 : decode cX4_sumOfNations 12 = .ok (.getfield 11, 3) := by decide +kernel
theorem dX4_sumOfNations_15 : decode cX4_sumOfNations 15 = .ok (.iload_n 2, 1) := by decide +kernel
theorem dX4_sumOfNations_16 : decode cX4_sumOfNations 16 = .ok (.aaload, 1) := by decide +kernel
theorem dX4_sumOfNations_17 : decode cX4_sumOfNations 17 = .ok (.iconst 1, 1) := by decide +kernel
theorem dX4_sumOfNations_18 : decode cX4_sumOfNations 18 = .ok (.iaload, 1) := by decide +kernel
theorem dX4_sumOfNations_19 : decode cX4_sumOfNations 19 = .ok (.aload_n 0, 1) := by decide +kernel
theorem dX4_sumOfNations_20 : decode cX4_sumOfNations 20 = .ok (.getfield 11, 3) := by decide +kernel
theorem dX4_sumOfNations_23 : decode cX4_sumOfNations 23 = .ok (.iload_n 2, 1) := by decide +kernel
theorem dX4_sumOfNations_24 : decode cX4_sumOfNations 24 = .ok (.aaload, 1) := by decide +kernel
theorem dX4_sumOfNations_25 : decode cX4_sumOfNations 25 = .ok (.iconst 2, 1) := by decide +kernel
theorem dX4_sumOfNations_26 : decode cX4_sumOfNations 26 = .ok (.iaload, 1) := by decide +kernel
theorem dX4_sumOfNations_27 : decode cX4_sumOfNations 27 = .ok (.iadd, 1) := by decide +kernel
theorem dX4_sumOfNations_28 : decode cX4_sumOfNations 28 = .ok (.aload_n 0, 1) := by decide +kernel
theorem dX4_sumOfNations_29 : decode cX4_sumOfNations 29 = .ok (.getfield 11, 3) := by decide +kernel
theorem dX4_sumOfNations_32 : decode cX4_sumOfNations 32 = .ok (.iload_n 2, 1) := by decide +kernel
theorem dX4_sumOfNations_33 : decode cX4_sumOfNations 33 = .ok (.aaload, 1) := by decide +kernel
theorem dX4_sumOfNations_34 : decode cX4_sumOfNations 34 = .ok (.iconst 3, 1) := by decide +kernel
theorem dX4_sumOfNations_35 : decode cX4_sumOfNations 35 = .ok (.iaload, 1) := by decide +kernel
theorem dX4_sumOfNations_36 : decode cX4_sumOfNations 36 = .ok (.iadd, 1) := by decide +kernel
theorem dX4_sumOfNations_37 : decode cX4_sumOfNations 37 = .ok (.iadd, 1) := by decide +kernel
theorem dX4_sumOfNations_38 : decode cX4_sumOfNations 38 = .ok (.istore_n 1, 1) := by decide +kernel
theorem dX4_sumOfNations_39 : decode cX4_sumOfNations 39 = .ok (.iinc 2 1, 3) := by decide +kernel
theorem dX4_sumOfNations_42 : decode cX4_sumOfNations 42 = .ok (.goto (-38), 3) := by decide +kernel
theorem dX4_sumOfNations_45 : decode cX4_sumOfNations 45 = .ok (.iload_n 1, 1) := by decide +kernel
theorem dX4_sumOfNations_46 : decode cX4_sumOfNations 46 = .ok (.ireturn, 1) := by decide +kernel
theorem dX11_countMedals_0 : decode cX11_countMedals 0 = .ok (.aload_n 0, 1) := by decide +kernel
theorem dX11_countMedals_1 : decode cX11_countMedals 1 = .ok (.getfield 60, 3) := by decide +kernel
theorem dX11_countMedals_4 : decode cX11_countMedals 4 = .ok (.invokevirtual 459, 3) := by decide +kernel
theorem dX11_countMedals_7 : decode cX11_countMedals 7 = .ok (.iconst 0, 1) := by decide +kernel
theorem dX11_countMedals_8 : decode cX11_countMedals 8 = .ok (.istore_n 1, 1) := by decide +kernel
theorem dX11_countMedals_9 : decode cX11_countMedals 9 = .ok (.iload_n 1, 1) := by decide +kernel
theorem dX11_countMedals_10 : decode cX11_countMedals 10 = .ok (.aload_n 0, 1) := by decide +kernel
theorem dX11_countMedals_11 : decode cX11_countMedals 11 = .ok (.getfield 64, 3) := by decide +kernel
theorem dX11_countMedals_14 : decode cX11_countMedals 14 = .ok (.if_icmp .ge 104, 3) := by decide +kernel
theorem dX11_countMedals_118 : decode cX11_countMedals 118 = .ok (.return_, 1) := by decide +kernel
/-! a grid of eight rows of four zeros, its rows pooled -/
abbrev zrow (cI : ClassId) : Nat → va_E := fun _ => .inl (cI, 4, .inl (fun _ => 0))
theorem zSet0 {X : va_W} {L : List Nat} {cI : ClassId} {k y i : Nat} (hk : (X ++ va_pl L (zrow cI))[k]? = some (y, zrow cI y)) : (X ++ va_pl L (zrow cI)).set k (y, .inl (cI, 4, .inl (upd (fun _ => 0) i 0))) = X ++ va_pl L (zrow cI) := by
  have e : upd (fun _ => (0 : Int32)) i 0 = (fun _ => 0) := funext fun j => by simp [upd]
  rw [e]
  apply List.ext_getElem?
  intro j
  rw [List.getElem?_set]
  by_cases h : k = j
  · subst h
    rw [if_pos rfl, hk, if_pos (List.getElem?_eq_some_iff.mp hk).1]
  · rw [if_neg h]
section
variable {p : Program} {l : Launch} {e : Env} {R : Room} {s : State} {m : MethodId} {args : Array Value} {below : List Frame} {meth : Method} {c : Code} {H : Heap} {locs : List Loc} {cells slots : Nat} {Q : State → Prop}
variable {cc : ByteArray} {pc : Nat} {ls : Array Slot} {rest : List Value} {D : va_G} {cl : List vw_C} {a : Nat} {tys : List (ClassId × FieldType)} {ws : va_W}
/-- a row of an array of arrays -/
theorem zaldg (hexec : p.tables.exec = Jvm.exec) (hb : c.code = cc) (hK : va_K D cl tys s) (hP : va_P D cl ws H) (q0 t0 : Nat) {cA : ClassId} {te : FieldType} {n : Nat} {f : Nat → Option Nat} (ha : ws[q0]? = some (a, .inl (cA, n, .inr (.inr (.inr (.inr f)))))) (ht : tys[t0]? = some (cA, .array te)) {i : Int32} (hin : vp_in i n) (hdg : decode cc pc = .ok (.aaload, 1))
    (kk : W p l e R s m args below meth c H locs cells slots Q (F0 m (pc + 1) ls (va_rf (f i.toNatClampNeg) :: rest))) : W p l e R s m args below meth c H locs cells slots Q (F0 m pc ls (.int i :: .ref a :: rest)) := by
  have hlt : i.toNatClampNeg < n := Nat.not_le.mp fun q => hin (Or.inr q)
  exact W.aald (v := va_rf (f i.toNatClampNeg)) (ty := .array te) hexec hb (hP q0 _ ha) ((hK.2 t0 _ ht).1 n (fun j => va_rf (f j))) rfl (fun q => by cases q) (by show ¬ (i < 0 ∨ (arrV _ _ _).slots.size ≤ _); rw [arrV_size]; exact hin) (by show (arrV _ _ _).slots[_]? = _; rw [arrV_read _ _ hlt]) rfl rfl hdg kk
end
def zX4_clear_ws : List Cond := .code yX4_clear cX4_clear 3 none :: ([.fieldLink RX4 11 "HeatStadium$MedalTable" "counts" "[[I", .fieldLink RX4 16 "HeatStadium$MedalTable" "given" "I"] ++ (wsX40 ++ ([])))
theorem zX4_clear_ws_good : zX4_clear_ws.all goodWord = true := by decide +kernel
set_option maxHeartbeats 4000000 in
set_option maxRecDepth 100000 in
/-- clear: its loop -/
theorem lp_clear {p : Program} {l : Launch} {e : Env} {s : State} {m : MethodId} {args : Array Value} {below : List Frame} {meth : Method} {c : Code} {A A9 : Nat → Prop} {Q : State → Prop} (hst : l.stackTraces = false) (D : va_G) (tb g : Nat) (og : Nat → Option Nat) (LR : List Nat) (cG cI : ClassId) (hx : p.tables.exec = Jvm.exec) (hb : c.code = cX4_clear) (hml : c.maxLocals = 3) (hts : ∀ w ∈ zX4_clear_ws, w.before args s = true) (hown : s.vm.findClass RX4 = some m.cls) (hz : zX A s s.heap) (hA : ∀ q : Nat, s.heap.size ≤ q → A q) (hK : va_K D vwCl [(cG, .array .int), (cI, .int)] s) (hg : ∀ i, i < 8 → ∃ y, og i = some y ∧ y ∈ LR) (kk : ∀ (H : Heap) (locs : List Loc), va_P D vwCl ([(tb, .inr (10, [.ref g, .int 0])), (g, .inl (cG, 8, .inr (.inr (.inr (.inr og)))))] ++ va_pl LR (zrow cI)) H → va_D A ([(tb, .inr (10, [.ref g, .int 0])), (g, .inl (cG, 8, .inr (.inr (.inr (.inr og)))))] ++ va_pl LR (zrow cI)) → va_S A s.heap H locs → ∀ ls : Array Slot, lv_has ls 3 [(0, .ref tb)] → W p l e (zR 0 0 0) s m args below meth c H locs 0 0 Q (F0 m 41 ls [])) : ∀ (n i : Nat), i ≤ 8 → 8 < i + n → ∀ (H : Heap) (locs : List Loc), va_P D vwCl ([(tb, .inr (10, [.ref g, .int 0])), (g, .inl (cG, 8, .inr (.inr (.inr (.inr og)))))] ++ va_pl LR (zrow cI)) H → va_D A ([(tb, .inr (10, [.ref g, .int 0])), (g, .inl (cG, 8, .inr (.inr (.inr (.inr og)))))] ++ va_pl LR (zrow cI)) → va_S A s.heap H locs → ∀ ls : Array Slot, lv_has ls 3 [(1, .int (nI i)), (0, .ref tb)] → W p l e (zR 0 0 0) s m args below meth c H locs 0 0 Q (F0 m 7 ls []) := by
  intro n
  induction n with
  | zero =>
    intro i h1 h2
    exact absurd h2 (by omega)
  | succ n ih =>
    intro i hi hn H locs hP hD hS ls hl
    rcases Nat.lt_or_ge i 8 with q | q
    · refine lv_iload_n hx hb dX4_clear_7 rfl (lv_at hl 0 rfl) ?_
      refine lv_bipush (v := 8) hx hb dX4_clear_8 (by decide) ?_
      refine lv_icmp_ge (tgt := 41) hx hb dX4_clear_10 (by decide) (fun c9 => absurd c9 (nI_ge q (by decide))) (fun _ => ?_)
      refine lv_iconst (v := 0) hx hb dX4_clear_13 (by decide) ?_
      refine lv_istore_n (lv' := [(2, .int 0), (1, .int (nI i)), (0, .ref tb)]) hx hb dX4_clear_14 rfl hl (by decide) rfl (fun ls hl => ?_)
      refine lv_iload_n hx hb dX4_clear_15 rfl (lv_at hl 0 rfl) ?_
      refine lv_iconst (v := 4) hx hb dX4_clear_16 (by decide) ?_
      refine lv_icmp_ge (tgt := 35) hx hb dX4_clear_17 (by decide) (fun c => absurd c (by decide)) (fun _ => ?_)
      refine lv_aload_n hx hb dX4_clear_20 rfl (lv_at hl 2 rfl) ?_
      refine va_get (D := D) (ci := 10) (v := .ref g) (C := RX4) (T := TX4) (N := 2) hx hb hts (by decide +kernel) hown hK hP 0 rfl rfl 0 (by decide) (hts (.fieldLink RX4 11 "HeatStadium$MedalTable" "counts" "[[I") (by decide +kernel)) (fun _ h9 => h9) rfl dX4_clear_21 ?_
      refine lv_iload_n hx hb dX4_clear_24 rfl (lv_at hl 1 rfl) ?_
      obtain ⟨y1, ey1, my1⟩ := hg i q
      obtain ⟨ky1, hy1⟩ := va_pl_get (X := [(tb, .inr (10, [.ref g, .int 0])), (g, .inl (cG, 8, .inr (.inr (.inr (.inr og)))))]) (f := zrow cI) my1
      refine zaldg hx hb hK hP 1 0 rfl rfl (vp_in_nI q (by decide)) dX4_clear_25 ?_
      rw [show (nI i).toNatClampNeg = i from nI_clamp (by omega), ey1]
      refine lv_iload_n hx hb dX4_clear_26 rfl (lv_at hl 0 rfl) ?_
      refine lv_iconst (v := 0) hx hb dX4_clear_27 (by decide) ?_
      refine va_iast hx hb hK hP hD hS ky1 1 hy1 rfl (show vp_in 0 4 by unfold vp_in; decide) dX4_clear_28 (fun H locs hP hD hS => ?_)
      rw [zSet0 hy1] at hP hD
      have hP : va_P D vwCl ([(tb, .inr (10, [.ref g, .int 0])), (g, .inl (cG, 8, .inr (.inr (.inr (.inr og)))))] ++ va_pl LR (zrow cI)) H := hP
      refine lv_iinc (v := 1) (lv' := [(2, .int 1), (1, .int (nI i)), (0, .ref tb)]) hx hb dX4_clear_29 hl (k := 0) rfl (by decide) (by decide) rfl (fun ls hl => ?_)
      refine lv_goto (tgt := 15) hx hb dX4_clear_32 (by decide) ?_
      refine lv_iload_n hx hb dX4_clear_15 rfl (lv_at hl 0 rfl) ?_
      refine lv_iconst (v := 4) hx hb dX4_clear_16 (by decide) ?_
      refine lv_icmp_ge (tgt := 35) hx hb dX4_clear_17 (by decide) (fun c => absurd c (by decide)) (fun _ => ?_)
      refine lv_aload_n hx hb dX4_clear_20 rfl (lv_at hl 2 rfl) ?_
      refine va_get (D := D) (ci := 10) (v := .ref g) (C := RX4) (T := TX4) (N := 2) hx hb hts (by decide +kernel) hown hK hP 0 rfl rfl 0 (by decide) (hts (.fieldLink RX4 11 "HeatStadium$MedalTable" "counts" "[[I") (by decide +kernel)) (fun _ h9 => h9) rfl dX4_clear_21 ?_
      refine lv_iload_n hx hb dX4_clear_24 rfl (lv_at hl 1 rfl) ?_
      obtain ⟨y2, ey2, my2⟩ := hg i q
      obtain ⟨ky2, hy2⟩ := va_pl_get (X := [(tb, .inr (10, [.ref g, .int 0])), (g, .inl (cG, 8, .inr (.inr (.inr (.inr og)))))]) (f := zrow cI) my2
      refine zaldg hx hb hK hP 1 0 rfl rfl (vp_in_nI q (by decide)) dX4_clear_25 ?_
      rw [show (nI i).toNatClampNeg = i from nI_clamp (by omega), ey2]
      refine lv_iload_n hx hb dX4_clear_26 rfl (lv_at hl 0 rfl) ?_
      refine lv_iconst (v := 0) hx hb dX4_clear_27 (by decide) ?_
      refine va_iast hx hb hK hP hD hS ky2 1 hy2 rfl (show vp_in 1 4 by unfold vp_in; decide) dX4_clear_28 (fun H locs hP hD hS => ?_)
      rw [zSet0 hy2] at hP hD
      have hP : va_P D vwCl ([(tb, .inr (10, [.ref g, .int 0])), (g, .inl (cG, 8, .inr (.inr (.inr (.inr og)))))] ++ va_pl LR (zrow cI)) H := hP
      refine lv_iinc (v := 2) (lv' := [(2, .int 2), (1, .int (nI i)), (0, .ref tb)]) hx hb dX4_clear_29 hl (k := 0) rfl (by decide) (by decide) rfl (fun ls hl => ?_)
      refine lv_goto (tgt := 15) hx hb dX4_clear_32 (by decide) ?_
      refine lv_iload_n hx hb dX4_clear_15 rfl (lv_at hl 0 rfl) ?_
      refine lv_iconst (v := 4) hx hb dX4_clear_16 (by decide) ?_
      refine lv_icmp_ge (tgt := 35) hx hb dX4_clear_17 (by decide) (fun c => absurd c (by decide)) (fun _ => ?_)
      refine lv_aload_n hx hb dX4_clear_20 rfl (lv_at hl 2 rfl) ?_
      refine va_get (D := D) (ci := 10) (v := .ref g) (C := RX4) (T := TX4) (N := 2) hx hb hts (by decide +kernel) hown hK hP 0 rfl rfl 0 (by decide) (hts (.fieldLink RX4 11 "HeatStadium$MedalTable" "counts" "[[I") (by decide +kernel)) (fun _ h9 => h9) rfl dX4_clear_21 ?_
      refine lv_iload_n hx hb dX4_clear_24 rfl (lv_at hl 1 rfl) ?_
      obtain ⟨y3, ey3, my3⟩ := hg i q
      obtain ⟨ky3, hy3⟩ := va_pl_get (X := [(tb, .inr (10, [.ref g, .int 0])), (g, .inl (cG, 8, .inr (.inr (.inr (.inr og)))))]) (f := zrow cI) my3
      refine zaldg hx hb hK hP 1 0 rfl rfl (vp_in_nI q (by decide)) dX4_clear_25 ?_
      rw [show (nI i).toNatClampNeg = i from nI_clamp (by omega), ey3]
      refine lv_iload_n hx hb dX4_clear_26 rfl (lv_at hl 0 rfl) ?_
      refine lv_iconst (v := 0) hx hb dX4_clear_27 (by decide) ?_
      refine va_iast hx hb hK hP hD hS ky3 1 hy3 rfl (show vp_in 2 4 by unfold vp_in; decide) dX4_clear_28 (fun H locs hP hD hS => ?_)
      rw [zSet0 hy3] at hP hD
      have hP : va_P D vwCl ([(tb, .inr (10, [.ref g, .int 0])), (g, .inl (cG, 8, .inr (.inr (.inr (.inr og)))))] ++ va_pl LR (zrow cI)) H := hP
      refine lv_iinc (v := 3) (lv' := [(2, .int 3), (1, .int (nI i)), (0, .ref tb)]) hx hb dX4_clear_29 hl (k := 0) rfl (by decide) (by decide) rfl (fun ls hl => ?_)
      refine lv_goto (tgt := 15) hx hb dX4_clear_32 (by decide) ?_
      refine lv_iload_n hx hb dX4_clear_15 rfl (lv_at hl 0 rfl) ?_
      refine lv_iconst (v := 4) hx hb dX4_clear_16 (by decide) ?_
      refine lv_icmp_ge (tgt := 35) hx hb dX4_clear_17 (by decide) (fun c => absurd c (by decide)) (fun _ => ?_)
      refine lv_aload_n hx hb dX4_clear_20 rfl (lv_at hl 2 rfl) ?_
      refine va_get (D := D) (ci := 10) (v := .ref g) (C := RX4) (T := TX4) (N := 2) hx hb hts (by decide +kernel) hown hK hP 0 rfl rfl 0 (by decide) (hts (.fieldLink RX4 11 "HeatStadium$MedalTable" "counts" "[[I") (by decide +kernel)) (fun _ h9 => h9) rfl dX4_clear_21 ?_
      refine lv_iload_n hx hb dX4_clear_24 rfl (lv_at hl 1 rfl) ?_
      obtain ⟨y4, ey4, my4⟩ := hg i q
      obtain ⟨ky4, hy4⟩ := va_pl_get (X := [(tb, .inr (10, [.ref g, .int 0])), (g, .inl (cG, 8, .inr (.inr (.inr (.inr og)))))]) (f := zrow cI) my4
      refine zaldg hx hb hK hP 1 0 rfl rfl (vp_in_nI q (by decide)) dX4_clear_25 ?_
      rw [show (nI i).toNatClampNeg = i from nI_clamp (by omega), ey4]
      refine lv_iload_n hx hb dX4_clear_26 rfl (lv_at hl 0 rfl) ?_
      refine lv_iconst (v := 0) hx hb dX4_clear_27 (by decide) ?_
      refine va_iast hx hb hK hP hD hS ky4 1 hy4 rfl (show vp_in 3 4 by unfold vp_in; decide) dX4_clear_28 (fun H locs hP hD hS => ?_)
      rw [zSet0 hy4] at hP hD
      have hP : va_P D vwCl ([(tb, .inr (10, [.ref g, .int 0])), (g, .inl (cG, 8, .inr (.inr (.inr (.inr og)))))] ++ va_pl LR (zrow cI)) H := hP
      refine lv_iinc (v := 4) (lv' := [(2, .int 4), (1, .int (nI i)), (0, .ref tb)]) hx hb dX4_clear_29 hl (k := 0) rfl (by decide) (by decide) rfl (fun ls hl => ?_)
      refine lv_goto (tgt := 15) hx hb dX4_clear_32 (by decide) ?_
      refine lv_iload_n hx hb dX4_clear_15 rfl (lv_at hl 0 rfl) ?_
      refine lv_iconst (v := 4) hx hb dX4_clear_16 (by decide) ?_
      refine lv_icmp_ge (tgt := 35) hx hb dX4_clear_17 (by decide) (fun _ => ?_) (fun c => absurd (by decide) c)
      refine lv_iinc (v := nI (i + 1)) (lv' := [(1, .int (nI (i + 1))), (2, .int 4), (0, .ref tb)]) hx hb dX4_clear_35 hl (k := 1) rfl (show nI i + Int32.ofInt 1 = nI (i + 1) from nI_1 i) (by decide) rfl (fun ls hl => ?_)
      refine lv_goto (tgt := 7) hx hb dX4_clear_38 (by decide) ?_
      exact ih (i + 1) (by omega) (by omega) H locs hP hD hS ls (lv_sub hl [0, 2] rfl)
    · obtain rfl : i = 8 := by omega
      refine lv_iload_n hx hb dX4_clear_7 rfl (lv_at hl 0 rfl) ?_
      refine lv_bipush (v := 8) hx hb dX4_clear_8 (by decide) ?_
      refine lv_icmp_ge (tgt := 41) hx hb dX4_clear_10 (by decide) (fun _ => ?_) (fun c9 => absurd (nI_le (Nat.le_refl _) (by decide)) c9)
      exact kk H locs hP hD hS ls (lv_sub hl [1] rfl)
set_option maxHeartbeats 4000000 in
set_option maxRecDepth 100000 in
/-- clear(): the table of nothing -/
theorem c_clear (l : Launch) (hst : l.stackTraces = false) (D : va_G) (sz : Nat) (tb g : Nat) (gv : Int32) (og : Nat → Option Nat) (LR : List Nat) (cG cI : ClassId) (hg : ∀ i, i < 8 → ∃ y, og i = some y ∧ y ∈ LR) : Met l yX4_clear zX4_clear_ws (zR 0 0 0) (zPre [.ref tb] D ([(tb, .inr (10, [.ref g, .int gv])), (g, .inl (cG, 8, .inr (.inr (.inr (.inr og)))))] ++ va_pl LR (zrow cI)) [(cG, .array .int), (cI, .int)] (va_A ([(tb, .inr (10, [.ref g, .int gv])), (g, .inl (cG, 8, .inr (.inr (.inr (.inr og)))))] ++ va_pl LR (zrow cI)) sz) sz) (va_Qv (S := Unit) (fun _ => True) (fun _ t => zAt D ([(tb, .inr (10, [.ref g, .int 0])), (g, .inl (cG, 8, .inr (.inr (.inr (.inr og)))))] ++ va_pl LR (zrow cI)) [(cG, .array .int), (cI, .int)] (va_A ([(tb, .inr (10, [.ref g, .int gv])), (g, .inl (cG, 8, .inr (.inr (.inr (.inr og)))))] ++ va_pl LR (zrow cI)) sz) t) (va_A ([(tb, .inr (10, [.ref g, .int gv])), (g, .inl (cG, 8, .inr (.inr (.inr (.inr og)))))] ++ va_pl LR (zrow cI)) sz)) 0 0 (va_A ([(tb, .inr (10, [.ref g, .int gv])), (g, .inl (cG, 8, .inr (.inr (.inr (.inr og)))))] ++ va_pl LR (zrow cI)) sz) := by
  refine Met.ofW (cc := cX4_clear) (maxL := 3) (ret := none) (by decide) rfl ?_
  intro p e s m args below meth c s₁ B hml hv
  obtain ⟨rfl, hsz, hP, hK, hD0, hz⟩ := hv
  have hx := B.exec
  have hb := B.bytes
  have hr := B.returns
  have hts := atoms_spec (ws := zX4_clear_ws) B.pre
  have hown : s.vm.findClass RX4 = some m.cls := findClass_of_methodNamed B.named
  have hlocks := B.notSynchronized
  subst hsz
  have hD := hD0.self (sz := s.heap.size)
  generalize hAe : va_A ([(tb, .inr (10, [.ref g, .int gv])), (g, .inl (cG, 8, .inr (.inr (.inr (.inr og)))))] ++ va_pl LR (zrow cI)) s.heap.size = A at hD hz ⊢
  have hA : ∀ q : Nat, s.heap.size ≤ q → A q := fun q h => by rw [← hAe]; exact Or.inr h
  have hS : va_S A s.heap s.heap [] := va_S.rf
  have hP : va_P D vwCl ([(tb, .inr (10, [.ref g, .int gv])), (g, .inl (cG, 8, .inr (.inr (.inr (.inr og)))))] ++ va_pl LR (zrow cI)) s.heap := hP
  have hl := lv_entry ([.ref tb]) (n := 3) (Nat.le_of_ble_eq_true rfl)
  rw [lg_entry_eq]
  generalize (lg_sl ([.ref tb]) ++ List.replicate (3 - (lg_sl ([.ref tb])).length) Slot.unset).toArray = ls at hl ⊢
  have hl : lv_has ls 3 [(0, .ref tb)] := hl
  refine lv_aload_n hx hb dX4_clear_0 rfl (lv_at hl 0 rfl) ?_
  refine lv_iconst (v := 0) hx hb dX4_clear_1 (by decide) ?_
  refine va_put (D := D) (ci := 10) (v := .int 0) (ty := .int) (C := RX4) (T := TX4) (N := 2) hx hb hts (by decide +kernel) tyX4 tyX4_ok nmX4 hown hK hP hD hS 0 rfl rfl 1 (by decide) (hts (.fieldLink RX4 16 "HeatStadium$MedalTable" "given" "I") (by decide +kernel)) (fun _ h9 => h9) rfl (by decide +kernel) rfl rfl (Nat.le_of_ble_eq_true rfl) dX4_clear_2 (fun H locs hP hD hS => ?_)
  have hP : va_P D vwCl ([(tb, .inr (10, [.ref g, .int 0])), (g, .inl (cG, 8, .inr (.inr (.inr (.inr og)))))] ++ va_pl LR (zrow cI)) H := hP
  have hD : va_D A ([(tb, .inr (10, [.ref g, .int 0])), (g, .inl (cG, 8, .inr (.inr (.inr (.inr og)))))] ++ va_pl LR (zrow cI)) := hD
  refine lv_iconst (v := 0) hx hb dX4_clear_5 (by decide) ?_
  refine lv_istore_n (lv' := [(1, .int 0), (0, .ref tb)]) hx hb dX4_clear_6 rfl hl (by decide) rfl (fun ls hl => ?_)
  refine lp_clear (A9 := A) hst D tb g og LR cG cI hx hb hml hts hown hz hA hK hg (fun H locs hP hD hS ls hl => ?_) 9 0 (by omega) (by omega) H _ hP hD hS ls (lv_sub hl [0, 1] rfl)
  have hP9 := hP.part (cx := [(tb, .inr (10, [.ref g, .int 0])), (g, .inl (cG, 8, .inr (.inr (.inr (.inr og)))))]) [0, 1] rfl
  have hD9 := hD.part (cx := [(tb, .inr (10, [.ref g, .int 0])), (g, .inl (cG, 8, .inr (.inr (.inr (.inr og)))))]) [0, 1] (by decide) rfl
  have hK9 := hK.sub (tys' := [(cG, .array .int), (cI, .int)]) [0, 1] rfl
  rw [← hAe] at hD9
  refine W.widen (k := 0) (n := 0) (by omega) (by omega) ?_
  subst hAe
  exact W.vret hx hb hr (fun t ht9 hW => ⟨⟨(), rfl, trivial, ⟨by rw [ht9]; exact hP9, va_K.moved hW.alike hK9, hD9⟩⟩, hS.F ht9⟩) hS.2.2 dX4_clear_41

theorem zin_nI {x : Int32} {n : Nat} (hn : n < 2 ^ 31) (h : zin x 0 (nI n) = 1) : ∃ i, i < n + 1 ∧ x = nI i := by
  obtain ⟨h1, h2⟩ := zin_1 h
  obtain ⟨j, hj, rfl⟩ := nI_of (Int32.not_lt.mpr h1)
  exact ⟨j, by have := (nI_leI hj hn).mp h2; omega, rfl⟩
theorem zin_7 {x : Int32} (h : zin x 0 7 = 1) : ∃ i, i < 8 ∧ x = nI i := zin_nI (n := 7) (by decide) h
theorem zin_3 {x : Int32} (h : zin x 0 3 = 1) : ∃ i, i < 4 ∧ x = nI i := zin_nI (n := 3) (by decide) h
def zX11_countMedals_ws : List Cond := .code yX11_countMedals cX11_countMedals 4 none :: ([.fieldLink RX11 60 "HeatStadium" "table" "LHeatStadium$MedalTable;", .instanceMethod yX4_clear, .selects RX4 yX4_clear yX4_clear, .initialized RX4, .fieldLink RX11 64 "HeatStadium" "eventCount" "I"] ++ (wsX110 ++ (zX4_clear_ws ++ ([]))))
theorem zX11_countMedals_ws_good : zX11_countMedals_ws.all goodWord = true := by decide +kernel
set_option maxHeartbeats 4000000 in
set_option maxRecDepth 100000 in
/-- countMedals of games without events -/
theorem c_countMedals (l : Launch) (hst : l.stackTraces = false) (D : va_G) (sz : Nat) (h0 : Nat) (a : Nat → Nat) (g : Nat) (gv : Int32) (og : Nat → Option Nat) (LR : List Nat) (cG cI : ClassId) (hg : ∀ i, i < 8 → ∃ y, og i = some y ∧ y ∈ LR) : Met l yX11_countMedals zX11_countMedals_ws (zR 1 0 0) (zPre [.ref h0] D ([(h0, .inr (17, zHS a)), ((a 7), .inr (10, [.ref g, .int gv])), (g, .inl (cG, 8, .inr (.inr (.inr (.inr og)))))] ++ va_pl LR (zrow cI)) [(cG, .array .int), (cI, .int)] (va_A ([(h0, .inr (17, zHS a)), ((a 7), .inr (10, [.ref g, .int gv])), (g, .inl (cG, 8, .inr (.inr (.inr (.inr og)))))] ++ va_pl LR (zrow cI)) sz) sz) (va_Qv (S := Unit) (fun _ => True) (fun _ t => zAt D ([(h0, .inr (17, zHS a)), ((a 7), .inr (10, [.ref g, .int 0])), (g, .inl (cG, 8, .inr (.inr (.inr (.inr og)))))] ++ va_pl LR (zrow cI)) [(cG, .array .int), (cI, .int)] (va_A ([(h0, .inr (17, zHS a)), ((a 7), .inr (10, [.ref g, .int gv])), (g, .inl (cG, 8, .inr (.inr (.inr (.inr og)))))] ++ va_pl LR (zrow cI)) sz) t) (va_A ([(h0, .inr (17, zHS a)), ((a 7), .inr (10, [.ref g, .int gv])), (g, .inl (cG, 8, .inr (.inr (.inr (.inr og)))))] ++ va_pl LR (zrow cI)) sz)) 0 0 (va_A ([(h0, .inr (17, zHS a)), ((a 7), .inr (10, [.ref g, .int gv])), (g, .inl (cG, 8, .inr (.inr (.inr (.inr og)))))] ++ va_pl LR (zrow cI)) sz) := by
  refine Met.ofW (cc := cX11_countMedals) (maxL := 4) (ret := none) (by decide) rfl ?_
  intro p e s m args below meth c s₁ B hml hv
  obtain ⟨rfl, hsz, hP, hK, hD0, hz⟩ := hv
  have hx := B.exec
  have hb := B.bytes
  have hr := B.returns
  have hts := atoms_spec (ws := zX11_countMedals_ws) B.pre
  have hown : s.vm.findClass RX11 = some m.cls := findClass_of_methodNamed B.named
  have hlocks := B.notSynchronized
  subst hsz
  have hD := hD0.self (sz := s.heap.size)
  generalize hAe : va_A ([(h0, .inr (17, zHS a)), ((a 7), .inr (10, [.ref g, .int gv])), (g, .inl (cG, 8, .inr (.inr (.inr (.inr og)))))] ++ va_pl LR (zrow cI)) s.heap.size = A at hD hz ⊢
  have hA : ∀ q : Nat, s.heap.size ≤ q → A q := fun q h => by rw [← hAe]; exact Or.inr h
  have hS : va_S A s.heap s.heap [] := va_S.rf
  have hP : va_P D vwCl ([(h0, .inr (17, zHS a)), ((a 7), .inr (10, [.ref g, .int gv])), (g, .inl (cG, 8, .inr (.inr (.inr (.inr og)))))] ++ va_pl LR (zrow cI)) s.heap := hP
  have hl := lv_entry ([.ref h0]) (n := 4) (Nat.le_of_ble_eq_true rfl)
  rw [lg_entry_eq]
  generalize (lg_sl ([.ref h0]) ++ List.replicate (4 - (lg_sl ([.ref h0])).length) Slot.unset).toArray = ls at hl ⊢
  have hl : lv_has ls 4 [(0, .ref h0)] := hl
  refine lv_aload_n hx hb dX11_countMedals_0 rfl (lv_at hl 0 rfl) ?_
  refine va_get (D := D) (ci := 17) (v := .ref (a 7)) (C := RX11) (T := TX11) (N := 11) hx hb hts (by decide +kernel) hown hK hP 0 rfl rfl 7 (by decide) (hts (.fieldLink RX11 60 "HeatStadium" "table" "LHeatStadium$MedalTable;") (by decide +kernel)) (fun _ h9 => h9) rfl dX11_countMedals_1 ?_
  have hPc := hP.part (cx := [((a 7), .inr (10, [.ref g, .int gv])), (g, .inl (cG, 8, .inr (.inr (.inr (.inr og)))))]) [1, 2] rfl
  have hDc := hD.part (cx := [((a 7), .inr (10, [.ref g, .int gv])), (g, .inl (cG, 8, .inr (.inr (.inr (.inr og)))))]) [1, 2] (by decide) rfl
  have hKc := hK.sub (tys' := [(cG, .array .int), (cI, .int)]) [0, 1] rfl
  have hFc := va_freeP (cx := [((a 7), .inr (10, [.ref g, .int gv])), (g, .inl (cG, 8, .inr (.inr (.inr (.inr og)))))]) hD hS hA [1, 2] rfl
  refine va_callv (va_runVN (As := []) (rest := []) ⟨hx, hb, hml, hown, hts⟩ (c_clear l hst D s.heap.size (a 7) g gv og LR cG cI hg) ⟨va_cnB 0 hts (goodIn_sub (fun _ h => List.mem_cons_of_mem _ (List.mem_append_right _ (List.mem_append_right _ (List.mem_append_left _ h)))) zX4_clear_ws_good) rfl rfl rfl (hz.2.2.1 (.methodLinkNest RX11 459 yX4_clear RX11) (by decide +kernel)) (hts (.initialized RX4) (by decide +kernel)) (by decide +kernel) ⟨Nat.le_of_ble_eq_true rfl, Nat.le_of_ble_eq_true rfl⟩, (hts (.instanceMethod yX4_clear) (by decide +kernel)), (hts (.selects RX4 yX4_clear yX4_clear) (by decide +kernel))⟩ ⟨zPre.blind, va_recv hKc hPc (ci := 10) (q0 := 0) rfl rfl, zPre.mk hPc hKc hDc hz hS (fun q h => hFc q h)⟩ rfl rfl hl.1 rfl (lv_room (Nat.le_of_ble_eq_true rfl)) dX11_countMedals_4 ⟨Nat.le_of_ble_eq_true rfl, Nat.le_of_ble_eq_true rfl⟩) hS (fun q _ h => hFc q h) (fun q h => hFc q h) (fun u t H1 locs ht9 hvm hw hB hz1 hk1 hS => ?_)
  refine W.widen (k := 0) (n := 0) (by omega) (by omega) ?_
  obtain ⟨hP1, hK1, hD1⟩ := hB
  rw [ht9] at hP1
  have hK1 := va_K.moved hvm.symm hK1
  obtain ⟨hP, hD⟩ := va_joinP (wr := [(h0, .inr (17, zHS a))]) (rx := [((a 7), .inr (10, [.ref g, .int 0])), (g, .inl (cG, 8, .inr (.inr (.inr (.inr og)))))]) (pl1 := va_pl LR (zrow cI)) hP hD [1, 2] [0] rfl rfl (by decide) (by decide) hk1 hFc hP1 hD1
  have hK := (hK.sub (tys' := []) [] rfl).app hK1
  generalize H1 = H at hP hS ⊢
  have hP : va_P D vwCl ([(h0, .inr (17, zHS a)), ((a 7), .inr (10, [.ref g, .int 0])), (g, .inl (cG, 8, .inr (.inr (.inr (.inr og)))))] ++ va_pl LR (zrow cI)) H := hP
  have hD : va_D A ([(h0, .inr (17, zHS a)), ((a 7), .inr (10, [.ref g, .int 0])), (g, .inl (cG, 8, .inr (.inr (.inr (.inr og)))))] ++ va_pl LR (zrow cI)) := hD
  have hK : va_K D vwCl [(cG, .array .int), (cI, .int)] s := hK
  refine lv_iconst (v := 0) hx hb dX11_countMedals_7 (by decide) ?_
  refine lv_istore_n (lv' := [(1, .int 0), (0, .ref h0)]) hx hb dX11_countMedals_8 rfl hl (by decide) rfl (fun ls hl => ?_)
  refine lv_iload_n hx hb dX11_countMedals_9 rfl (lv_at hl 0 rfl) ?_
  refine lv_aload_n hx hb dX11_countMedals_10 rfl (lv_at hl 1 rfl) ?_
  refine va_get (D := D) (ci := 17) (v := .int 0) (C := RX11) (T := TX11) (N := 11) hx hb hts (by decide +kernel) hown hK hP 0 rfl rfl 8 (by decide) (hts (.fieldLink RX11 64 "HeatStadium" "eventCount" "I") (by decide +kernel)) (fun _ h9 => h9) rfl dX11_countMedals_11 ?_
  refine lv_icmp_ge (tgt := 118) hx hb dX11_countMedals_14 (by decide) (fun _ => ?_) (fun c => absurd (by decide) c)
  have hP9 := hP.part (cx := [(h0, .inr (17, zHS a)), ((a 7), .inr (10, [.ref g, .int 0])), (g, .inl (cG, 8, .inr (.inr (.inr (.inr og)))))]) [0, 1, 2] rfl
  have hD9 := hD.part (cx := [(h0, .inr (17, zHS a)), ((a 7), .inr (10, [.ref g, .int 0])), (g, .inl (cG, 8, .inr (.inr (.inr (.inr og)))))]) [0, 1, 2] (by decide) rfl
  have hK9 := hK.sub (tys' := [(cG, .array .int), (cI, .int)]) [0, 1] rfl
  rw [← hAe] at hD9
  refine W.widen (k := 0) (n := 0) (by omega) (by omega) ?_
  subst hAe
  exact W.vret hx hb hr (fun t ht9 hW => ⟨⟨(), rfl, trivial, ⟨by rw [ht9]; exact hP9, va_K.moved hW.alike hK9, hD9⟩⟩, hS.F ht9⟩) hS.2.2 dX11_countMedals_118

def zX4_isAhead_ws : List Cond := .code yX4_isAhead cX4_isAhead 5 (some .boolean) :: ([.fieldLink RX4 11 "HeatStadium$MedalTable" "counts" "[[I"] ++ (wsX40 ++ ([])))
theorem zX4_isAhead_ws_good : zX4_isAhead_ws.all goodWord = true := by decide +kernel
set_option maxHeartbeats 4000000 in
set_option maxRecDepth 100000 in
/-- isAhead in a table of nothing: the lower number -/
theorem c_isAhead (l : Launch) (hst : l.stackTraces = false) (D : va_G) (sz : Nat) (tb g : Nat) (gv : Int32) (og : Nat → Option Nat) (LR : List Nat) (cG cI : ClassId) (i j : Nat) (x3 : Int32) (hg : ∀ i, i < 8 → ∃ y, og i = some y ∧ y ∈ LR) (hi : i < 8) (hj : j < 8) : Met l yX4_isAhead zX4_isAhead_ws (zR 0 0 0) (zPre [.ref tb, .int (nI i), .int (nI j), .int x3] D ([(tb, .inr (10, [.ref g, .int gv])), (g, .inl (cG, 8, .inr (.inr (.inr (.inr og)))))] ++ va_pl LR (zrow cI)) [(cG, .array .int), (cI, .int)] (fun q : Nat => sz ≤ q) sz) (va_Qi (S := Unit) (fun r _ => r = if nI i < nI j then 1 else 0) (fun _ _ => True) (fun q : Nat => sz ≤ q)) 0 0 (fun q : Nat => sz ≤ q) := by
  refine Met.ofW (cc := cX4_isAhead) (maxL := 5) (ret := (some .boolean)) (by decide) rfl ?_
  intro p e s m args below meth c s₁ B hml hv
  obtain ⟨rfl, hsz, hP, hK, hD0, hz⟩ := hv
  have hx := B.exec
  have hb := B.bytes
  have hr := B.returns
  have hts := atoms_spec (ws := zX4_isAhead_ws) B.pre
  have hown : s.vm.findClass RX4 = some m.cls := findClass_of_methodNamed B.named
  have hlocks := B.notSynchronized
  subst hsz
  obtain ⟨A, hAe⟩ : ∃ A : Nat → Prop, A = (fun q : Nat => s.heap.size ≤ q) := ⟨_, rfl⟩
  rw [← hAe] at hz ⊢
  have hA : ∀ q : Nat, s.heap.size ≤ q → A q := fun q h => by rw [hAe]; exact h
  have hD := hD0
  have hS : va_S A s.heap s.heap [] := va_S.rf
  have hP : va_P D vwCl ([(tb, .inr (10, [.ref g, .int gv])), (g, .inl (cG, 8, .inr (.inr (.inr (.inr og)))))] ++ va_pl LR (zrow cI)) s.heap := hP
  have hl := lv_entry ([.ref tb, .int (nI i), .int (nI j), .int x3]) (n := 5) (Nat.le_of_ble_eq_true rfl)
  rw [lg_entry_eq]
  generalize (lg_sl ([.ref tb, .int (nI i), .int (nI j), .int x3]) ++ List.replicate (5 - (lg_sl ([.ref tb, .int (nI i), .int (nI j), .int x3])).length) Slot.unset).toArray = ls at hl ⊢
  have hl : lv_has ls 5 [(0, .ref tb), (1, .int (nI i)), (2, .int (nI j)), (3, .int x3)] := hl
  refine lv_iload_n hx hb dX4_isAhead_0 rfl (lv_at hl 3 rfl) ?_
  refine lv_if_eq (tgt := 8) hx hb dX4_isAhead_1 (by decide) (fun c1 => ?_) (fun c1 => ?_)
  · refine lv_iconst (v := 1) hx hb dX4_isAhead_8 (by decide) ?_
    refine lv_istore (lv' := [(4, .int 1), (0, .ref tb), (1, .int (nI i)), (2, .int (nI j)), (3, .int x3)]) hx hb dX4_isAhead_9 hl (by decide) rfl (fun ls hl => ?_)
    refine lv_iload hx hb dX4_isAhead_11 (lv_at hl 0 rfl) ?_
    refine lv_iconst (v := 4) hx hb dX4_isAhead_13 (by decide) ?_
    refine lv_icmp_ge (tgt := 71) hx hb dX4_isAhead_14 (by decide) (fun c => absurd c (by decide)) (fun _ => ?_)
    refine lv_aload_n hx hb dX4_isAhead_17 rfl (lv_at hl 1 rfl) ?_
    refine va_get (D := D) (ci := 10) (v := .ref g) (C := RX4) (T := TX4) (N := 2) hx hb hts (by decide +kernel) hown hK hP 0 rfl rfl 0 (by decide) (hts (.fieldLink RX4 11 "HeatStadium$MedalTable" "counts" "[[I") (by decide +kernel)) (fun _ h9 => h9) rfl dX4_isAhead_18 ?_
    refine lv_iload_n hx hb dX4_isAhead_21 rfl (lv_at hl 2 rfl) ?_
    obtain ⟨y2, ey2, my2⟩ := hg i hi
    obtain ⟨ky2, hy2⟩ := va_pl_get (X := [(tb, .inr (10, [.ref g, .int gv])), (g, .inl (cG, 8, .inr (.inr (.inr (.inr og)))))]) (f := zrow cI) my2
    refine zaldg hx hb hK hP 1 0 rfl rfl (vp_in_nI hi (by decide)) dX4_isAhead_22 ?_
    rw [show (nI i).toNatClampNeg = i from nI_clamp (by omega), ey2]
    refine lv_iload hx hb dX4_isAhead_23 (lv_at hl 0 rfl) ?_
    refine va_iald hx hb hK hP ky2 1 hy2 rfl (show vp_in 1 4 by unfold vp_in; decide) dX4_isAhead_25 ?_
    refine lv_aload_n hx hb dX4_isAhead_26 rfl (lv_at hl 1 rfl) ?_
    refine va_get (D := D) (ci := 10) (v := .ref g) (C := RX4) (T := TX4) (N := 2) hx hb hts (by decide +kernel) hown hK hP 0 rfl rfl 0 (by decide) (hts (.fieldLink RX4 11 "HeatStadium$MedalTable" "counts" "[[I") (by decide +kernel)) (fun _ h9 => h9) rfl dX4_isAhead_27 ?_
    refine lv_iload_n hx hb dX4_isAhead_30 rfl (lv_at hl 3 rfl) ?_
    obtain ⟨y3, ey3, my3⟩ := hg j hj
    obtain ⟨ky3, hy3⟩ := va_pl_get (X := [(tb, .inr (10, [.ref g, .int gv])), (g, .inl (cG, 8, .inr (.inr (.inr (.inr og)))))]) (f := zrow cI) my3
    refine zaldg hx hb hK hP 1 0 rfl rfl (vp_in_nI hj (by decide)) dX4_isAhead_31 ?_
    rw [show (nI j).toNatClampNeg = j from nI_clamp (by omega), ey3]
    refine lv_iload hx hb dX4_isAhead_32 (lv_at hl 0 rfl) ?_
    refine va_iald hx hb hK hP ky3 1 hy3 rfl (show vp_in 1 4 by unfold vp_in; decide) dX4_isAhead_34 ?_
    refine lv_icmp_eq (tgt := 65) hx hb dX4_isAhead_35 (by decide) (fun _ => ?_) (fun c => absurd (by decide) c)
    refine lv_iinc (v := 2) (lv' := [(4, .int 2), (0, .ref tb), (1, .int (nI i)), (2, .int (nI j)), (3, .int x3)]) hx hb dX4_isAhead_65 hl (k := 0) rfl (by decide) (by decide) rfl (fun ls hl => ?_)
    refine lv_goto (tgt := 11) hx hb dX4_isAhead_68 (by decide) ?_
    refine lv_iload hx hb dX4_isAhead_11 (lv_at hl 0 rfl) ?_
    refine lv_iconst (v := 4) hx hb dX4_isAhead_13 (by decide) ?_
    refine lv_icmp_ge (tgt := 71) hx hb dX4_isAhead_14 (by decide) (fun c => absurd c (by decide)) (fun _ => ?_)
    refine lv_aload_n hx hb dX4_isAhead_17 rfl (lv_at hl 1 rfl) ?_
    refine va_get (D := D) (ci := 10) (v := .ref g) (C := RX4) (T := TX4) (N := 2) hx hb hts (by decide +kernel) hown hK hP 0 rfl rfl 0 (by decide) (hts (.fieldLink RX4 11 "HeatStadium$MedalTable" "counts" "[[I") (by decide +kernel)) (fun _ h9 => h9) rfl dX4_isAhead_18 ?_
    refine lv_iload_n hx hb dX4_isAhead_21 rfl (lv_at hl 2 rfl) ?_
    obtain ⟨y4, ey4, my4⟩ := hg i hi
    obtain ⟨ky4, hy4⟩ := va_pl_get (X := [(tb, .inr (10, [.ref g, .int gv])), (g, .inl (cG, 8, .inr (.inr (.inr (.inr og)))))]) (f := zrow cI) my4
    refine zaldg hx hb hK hP 1 0 rfl rfl (vp_in_nI hi (by decide)) dX4_isAhead_22 ?_
    rw [show (nI i).toNatClampNeg = i from nI_clamp (by omega), ey4]
    refine lv_iload hx hb dX4_isAhead_23 (lv_at hl 0 rfl) ?_
    refine va_iald hx hb hK hP ky4 1 hy4 rfl (show vp_in 2 4 by unfold vp_in; decide) dX4_isAhead_25 ?_
    refine lv_aload_n hx hb dX4_isAhead_26 rfl (lv_at hl 1 rfl) ?_
    refine va_get (D := D) (ci := 10) (v := .ref g) (C := RX4) (T := TX4) (N := 2) hx hb hts (by decide +kernel) hown hK hP 0 rfl rfl 0 (by decide) (hts (.fieldLink RX4 11 "HeatStadium$MedalTable" "counts" "[[I") (by decide +kernel)) (fun _ h9 => h9) rfl dX4_isAhead_27 ?_
    refine lv_iload_n hx hb dX4_isAhead_30 rfl (lv_at hl 3 rfl) ?_
    obtain ⟨y5, ey5, my5⟩ := hg j hj
    obtain ⟨ky5, hy5⟩ := va_pl_get (X := [(tb, .inr (10, [.ref g, .int gv])), (g, .inl (cG, 8, .inr (.inr (.inr (.inr og)))))]) (f := zrow cI) my5
    refine zaldg hx hb hK hP 1 0 rfl rfl (vp_in_nI hj (by decide)) dX4_isAhead_31 ?_
    rw [show (nI j).toNatClampNeg = j from nI_clamp (by omega), ey5]
    refine lv_iload hx hb dX4_isAhead_32 (lv_at hl 0 rfl) ?_
    refine va_iald hx hb hK hP ky5 1 hy5 rfl (show vp_in 2 4 by unfold vp_in; decide) dX4_isAhead_34 ?_
    refine lv_icmp_eq (tgt := 65) hx hb dX4_isAhead_35 (by decide) (fun _ => ?_) (fun c => absurd (by decide) c)
    refine lv_iinc (v := 3) (lv' := [(4, .int 3), (0, .ref tb), (1, .int (nI i)), (2, .int (nI j)), (3, .int x3)]) hx hb dX4_isAhead_65 hl (k := 0) rfl (by decide) (by decide) rfl (fun ls hl => ?_)
    refine lv_goto (tgt := 11) hx hb dX4_isAhead_68 (by decide) ?_
    refine lv_iload hx hb dX4_isAhead_11 (lv_at hl 0 rfl) ?_
    refine lv_iconst (v := 4) hx hb dX4_isAhead_13 (by decide) ?_
    refine lv_icmp_ge (tgt := 71) hx hb dX4_isAhead_14 (by decide) (fun c => absurd c (by decide)) (fun _ => ?_)
    refine lv_aload_n hx hb dX4_isAhead_17 rfl (lv_at hl 1 rfl) ?_
    refine va_get (D := D) (ci := 10) (v := .ref g) (C := RX4) (T := TX4) (N := 2) hx hb hts (by decide +kernel) hown hK hP 0 rfl rfl 0 (by decide) (hts (.fieldLink RX4 11 "HeatStadium$MedalTable" "counts" "[[I") (by decide +kernel)) (fun _ h9 => h9) rfl dX4_isAhead_18 ?_
    refine lv_iload_n hx hb dX4_isAhead_21 rfl (lv_at hl 2 rfl) ?_
    obtain ⟨y6, ey6, my6⟩ := hg i hi
    obtain ⟨ky6, hy6⟩ := va_pl_get (X := [(tb, .inr (10, [.ref g, .int gv])), (g, .inl (cG, 8, .inr (.inr (.inr (.inr og)))))]) (f := zrow cI) my6
    refine zaldg hx hb hK hP 1 0 rfl rfl (vp_in_nI hi (by decide)) dX4_isAhead_22 ?_
    rw [show (nI i).toNatClampNeg = i from nI_clamp (by omega), ey6]
    refine lv_iload hx hb dX4_isAhead_23 (lv_at hl 0 rfl) ?_
    refine va_iald hx hb hK hP ky6 1 hy6 rfl (show vp_in 3 4 by unfold vp_in; decide) dX4_isAhead_25 ?_
    refine lv_aload_n hx hb dX4_isAhead_26 rfl (lv_at hl 1 rfl) ?_
    refine va_get (D := D) (ci := 10) (v := .ref g) (C := RX4) (T := TX4) (N := 2) hx hb hts (by decide +kernel) hown hK hP 0 rfl rfl 0 (by decide) (hts (.fieldLink RX4 11 "HeatStadium$MedalTable" "counts" "[[I") (by decide +kernel)) (fun _ h9 => h9) rfl dX4_isAhead_27 ?_
    refine lv_iload_n hx hb dX4_isAhead_30 rfl (lv_at hl 3 rfl) ?_
    obtain ⟨y7, ey7, my7⟩ := hg j hj
    obtain ⟨ky7, hy7⟩ := va_pl_get (X := [(tb, .inr (10, [.ref g, .int gv])), (g, .inl (cG, 8, .inr (.inr (.inr (.inr og)))))]) (f := zrow cI) my7
    refine zaldg hx hb hK hP 1 0 rfl rfl (vp_in_nI hj (by decide)) dX4_isAhead_31 ?_
    rw [show (nI j).toNatClampNeg = j from nI_clamp (by omega), ey7]
    refine lv_iload hx hb dX4_isAhead_32 (lv_at hl 0 rfl) ?_
    refine va_iald hx hb hK hP ky7 1 hy7 rfl (show vp_in 3 4 by unfold vp_in; decide) dX4_isAhead_34 ?_
    refine lv_icmp_eq (tgt := 65) hx hb dX4_isAhead_35 (by decide) (fun _ => ?_) (fun c => absurd (by decide) c)
    refine lv_iinc (v := 4) (lv' := [(4, .int 4), (0, .ref tb), (1, .int (nI i)), (2, .int (nI j)), (3, .int x3)]) hx hb dX4_isAhead_65 hl (k := 0) rfl (by decide) (by decide) rfl (fun ls hl => ?_)
    refine lv_goto (tgt := 11) hx hb dX4_isAhead_68 (by decide) ?_
    refine lv_iload hx hb dX4_isAhead_11 (lv_at hl 0 rfl) ?_
    refine lv_iconst (v := 4) hx hb dX4_isAhead_13 (by decide) ?_
    refine lv_icmp_ge (tgt := 71) hx hb dX4_isAhead_14 (by decide) (fun _ => ?_) (fun c => absurd (by decide) c)
    refine lv_iload_n hx hb dX4_isAhead_71 rfl (lv_at hl 2 rfl) ?_
    refine lv_iload_n hx hb dX4_isAhead_72 rfl (lv_at hl 3 rfl) ?_
    refine lv_icmp_ge (tgt := 80) hx hb dX4_isAhead_73 (by decide) (fun c8 => ?_) (fun c8 => ?_)
    · refine lv_iconst (v := 0) hx hb dX4_isAhead_80 (by decide) ?_
      refine W.widen (k := 0) (n := 0) (by omega) (by omega) ?_
      exact W.zret (v := 0) hx hb hr rfl (fun t ht9 hW => ⟨⟨0, (), rfl, (if_neg (Int32.not_lt.mpr c8)).symm, trivial⟩, hS.F ht9⟩) hS.2.2 dX4_isAhead_81
    · refine lv_iconst (v := 1) hx hb dX4_isAhead_76 (by decide) ?_
      refine lv_goto (tgt := 81) hx hb dX4_isAhead_77 (by decide) ?_
      refine W.widen (k := 0) (n := 0) (by omega) (by omega) ?_
      exact W.zret (v := 1) hx hb hr rfl (fun t ht9 hW => ⟨⟨1, (), rfl, (if_pos (Int32.not_le.mp c8)).symm, trivial⟩, hS.F ht9⟩) hS.2.2 dX4_isAhead_81
  · refine lv_iconst (v := 0) hx hb dX4_isAhead_4 (by decide) ?_
    refine lv_goto (tgt := 9) hx hb dX4_isAhead_5 (by decide) ?_
    refine lv_istore (lv' := [(4, .int 0), (0, .ref tb), (1, .int (nI i)), (2, .int (nI j)), (3, .int x3)]) hx hb dX4_isAhead_9 hl (by decide) rfl (fun ls hl => ?_)
    refine lv_iload hx hb dX4_isAhead_11 (lv_at hl 0 rfl) ?_
    refine lv_iconst (v := 4) hx hb dX4_isAhead_13 (by decide) ?_
    refine lv_icmp_ge (tgt := 71) hx hb dX4_isAhead_14 (by decide) (fun c => absurd c (by decide)) (fun _ => ?_)
    refine lv_aload_n hx hb dX4_isAhead_17 rfl (lv_at hl 1 rfl) ?_
    refine va_get (D := D) (ci := 10) (v := .ref g) (C := RX4) (T := TX4) (N := 2) hx hb hts (by decide +kernel) hown hK hP 0 rfl rfl 0 (by decide) (hts (.fieldLink RX4 11 "HeatStadium$MedalTable" "counts" "[[I") (by decide +kernel)) (fun _ h9 => h9) rfl dX4_isAhead_18 ?_
    refine lv_iload_n hx hb dX4_isAhead_21 rfl (lv_at hl 2 rfl) ?_
    obtain ⟨y9, ey9, my9⟩ := hg i hi
    obtain ⟨ky9, hy9⟩ := va_pl_get (X := [(tb, .inr (10, [.ref g, .int gv])), (g, .inl (cG, 8, .inr (.inr (.inr (.inr og)))))]) (f := zrow cI) my9
    refine zaldg hx hb hK hP 1 0 rfl rfl (vp_in_nI hi (by decide)) dX4_isAhead_22 ?_
    rw [show (nI i).toNatClampNeg = i from nI_clamp (by omega), ey9]
    refine lv_iload hx hb dX4_isAhead_23 (lv_at hl 0 rfl) ?_
    refine va_iald hx hb hK hP ky9 1 hy9 rfl (show vp_in 0 4 by unfold vp_in; decide) dX4_isAhead_25 ?_
    refine lv_aload_n hx hb dX4_isAhead_26 rfl (lv_at hl 1 rfl) ?_
    refine va_get (D := D) (ci := 10) (v := .ref g) (C := RX4) (T := TX4) (N := 2) hx hb hts (by decide +kernel) hown hK hP 0 rfl rfl 0 (by decide) (hts (.fieldLink RX4 11 "HeatStadium$MedalTable" "counts" "[[I") (by decide +kernel)) (fun _ h9 => h9) rfl dX4_isAhead_27 ?_
    refine lv_iload_n hx hb dX4_isAhead_30 rfl (lv_at hl 3 rfl) ?_
    obtain ⟨y10, ey10, my10⟩ := hg j hj
    obtain ⟨ky10, hy10⟩ := va_pl_get (X := [(tb, .inr (10, [.ref g, .int gv])), (g, .inl (cG, 8, .inr (.inr (.inr (.inr og)))))]) (f := zrow cI) my10
    refine zaldg hx hb hK hP 1 0 rfl rfl (vp_in_nI hj (by decide)) dX4_isAhead_31 ?_
    rw [show (nI j).toNatClampNeg = j from nI_clamp (by omega), ey10]
    refine lv_iload hx hb dX4_isAhead_32 (lv_at hl 0 rfl) ?_
    refine va_iald hx hb hK hP ky10 1 hy10 rfl (show vp_in 0 4 by unfold vp_in; decide) dX4_isAhead_34 ?_
    refine lv_icmp_eq (tgt := 65) hx hb dX4_isAhead_35 (by decide) (fun _ => ?_) (fun c => absurd (by decide) c)
    refine lv_iinc (v := 1) (lv' := [(4, .int 1), (0, .ref tb), (1, .int (nI i)), (2, .int (nI j)), (3, .int x3)]) hx hb dX4_isAhead_65 hl (k := 0) rfl (by decide) (by decide) rfl (fun ls hl => ?_)
    refine lv_goto (tgt := 11) hx hb dX4_isAhead_68 (by decide) ?_
    refine lv_iload hx hb dX4_isAhead_11 (lv_at hl 0 rfl) ?_
    refine lv_iconst (v := 4) hx hb dX4_isAhead_13 (by decide) ?_
    refine lv_icmp_ge (tgt := 71) hx hb dX4_isAhead_14 (by decide) (fun c => absurd c (by decide)) (fun _ => ?_)
    refine lv_aload_n hx hb dX4_isAhead_17 rfl (lv_at hl 1 rfl) ?_
    refine va_get (D := D) (ci := 10) (v := .ref g) (C := RX4) (T := TX4) (N := 2) hx hb hts (by decide +kernel) hown hK hP 0 rfl rfl 0 (by decide) (hts (.fieldLink RX4 11 "HeatStadium$MedalTable" "counts" "[[I") (by decide +kernel)) (fun _ h9 => h9) rfl dX4_isAhead_18 ?_
    refine lv_iload_n hx hb dX4_isAhead_21 rfl (lv_at hl 2 rfl) ?_
    obtain ⟨y11, ey11, my11⟩ := hg i hi
    obtain ⟨ky11, hy11⟩ := va_pl_get (X := [(tb, .inr (10, [.ref g, .int gv])), (g, .inl (cG, 8, .inr (.inr (.inr (.inr og)))))]) (f := zrow cI) my11
    refine zaldg hx hb hK hP 1 0 rfl rfl (vp_in_nI hi (by decide)) dX4_isAhead_22 ?_
    rw [show (nI i).toNatClampNeg = i from nI_clamp (by omega), ey11]
    refine lv_iload hx hb dX4_isAhead_23 (lv_at hl 0 rfl) ?_
    refine va_iald hx hb hK hP ky11 1 hy11 rfl (show vp_in 1 4 by unfold vp_in; decide) dX4_isAhead_25 ?_
    refine lv_aload_n hx hb dX4_isAhead_26 rfl (lv_at hl 1 rfl) ?_
    refine va_get (D := D) (ci := 10) (v := .ref g) (C := RX4) (T := TX4) (N := 2) hx hb hts (by decide +kernel) hown hK hP 0 rfl rfl 0 (by decide) (hts (.fieldLink RX4 11 "HeatStadium$MedalTable" "counts" "[[I") (by decide +kernel)) (fun _ h9 => h9) rfl dX4_isAhead_27 ?_
    refine lv_iload_n hx hb dX4_isAhead_30 rfl (lv_at hl 3 rfl) ?_
    obtain ⟨y12, ey12, my12⟩ := hg j hj
    obtain ⟨ky12, hy12⟩ := va_pl_get (X := [(tb, .inr (10, [.ref g, .int gv])), (g, .inl (cG, 8, .inr (.inr (.inr (.inr og)))))]) (f := zrow cI) my12
    refine zaldg hx hb hK hP 1 0 rfl rfl (vp_in_nI hj (by decide)) dX4_isAhead_31 ?_
    rw [show (nI j).toNatClampNeg = j from nI_clamp (by omega), ey12]
    refine lv_iload hx hb dX4_isAhead_32 (lv_at hl 0 rfl) ?_
    refine va_iald hx hb hK hP ky12 1 hy12 rfl (show vp_in 1 4 by unfold vp_in; decide) dX4_isAhead_34 ?_
    refine lv_icmp_eq (tgt := 65) hx hb dX4_isAhead_35 (by decide) (fun _ => ?_) (fun c => absurd (by decide) c)
    refine lv_iinc (v := 2) (lv' := [(4, .int 2), (0, .ref tb), (1, .int (nI i)), (2, .int (nI j)), (3, .int x3)]) hx hb dX4_isAhead_65 hl (k := 0) rfl (by decide) (by decide) rfl (fun ls hl => ?_)
    refine lv_goto (tgt := 11) hx hb dX4_isAhead_68 (by decide) ?_
    refine lv_iload hx hb dX4_isAhead_11 (lv_at hl 0 rfl) ?_
    refine lv_iconst (v := 4) hx hb dX4_isAhead_13 (by decide) ?_
    refine lv_icmp_ge (tgt := 71) hx hb dX4_isAhead_14 (by decide) (fun c => absurd c (by decide)) (fun _ => ?_)
    refine lv_aload_n hx hb dX4_isAhead_17 rfl (lv_at hl 1 rfl) ?_
    refine va_get (D := D) (ci := 10) (v := .ref g) (C := RX4) (T := TX4) (N := 2) hx hb hts (by decide +kernel) hown hK hP 0 rfl rfl 0 (by decide) (hts (.fieldLink RX4 11 "HeatStadium$MedalTable" "counts" "[[I") (by decide +kernel)) (fun _ h9 => h9) rfl dX4_isAhead_18 ?_
    refine lv_iload_n hx hb dX4_isAhead_21 rfl (lv_at hl 2 rfl) ?_
    obtain ⟨y13, ey13, my13⟩ := hg i hi
    obtain ⟨ky13, hy13⟩ := va_pl_get (X := [(tb, .inr (10, [.ref g, .int gv])), (g, .inl (cG, 8, .inr (.inr (.inr (.inr og)))))]) (f := zrow cI) my13
    refine zaldg hx hb hK hP 1 0 rfl rfl (vp_in_nI hi (by decide)) dX4_isAhead_22 ?_
    rw [show (nI i).toNatClampNeg = i from nI_clamp (by omega), ey13]
    refine lv_iload hx hb dX4_isAhead_23 (lv_at hl 0 rfl) ?_
    refine va_iald hx hb hK hP ky13 1 hy13 rfl (show vp_in 2 4 by unfold vp_in; decide) dX4_isAhead_25 ?_
    refine lv_aload_n hx hb dX4_isAhead_26 rfl (lv_at hl 1 rfl) ?_
    refine va_get (D := D) (ci := 10) (v := .ref g) (C := RX4) (T := TX4) (N := 2) hx hb hts (by decide +kernel) hown hK hP 0 rfl rfl 0 (by decide) (hts (.fieldLink RX4 11 "HeatStadium$MedalTable" "counts" "[[I") (by decide +kernel)) (fun _ h9 => h9) rfl dX4_isAhead_27 ?_
    refine lv_iload_n hx hb dX4_isAhead_30 rfl (lv_at hl 3 rfl) ?_
    obtain ⟨y14, ey14, my14⟩ := hg j hj
    obtain ⟨ky14, hy14⟩ := va_pl_get (X := [(tb, .inr (10, [.ref g, .int gv])), (g, .inl (cG, 8, .inr (.inr (.inr (.inr og)))))]) (f := zrow cI) my14
    refine zaldg hx hb hK hP 1 0 rfl rfl (vp_in_nI hj (by decide)) dX4_isAhead_31 ?_
    rw [show (nI j).toNatClampNeg = j from nI_clamp (by omega), ey14]
    refine lv_iload hx hb dX4_isAhead_32 (lv_at hl 0 rfl) ?_
    refine va_iald hx hb hK hP ky14 1 hy14 rfl (show vp_in 2 4 by unfold vp_in; decide) dX4_isAhead_34 ?_
    refine lv_icmp_eq (tgt := 65) hx hb dX4_isAhead_35 (by decide) (fun _ => ?_) (fun c => absurd (by decide) c)
    refine lv_iinc (v := 3) (lv' := [(4, .int 3), (0, .ref tb), (1, .int (nI i)), (2, .int (nI j)), (3, .int x3)]) hx hb dX4_isAhead_65 hl (k := 0) rfl (by decide) (by decide) rfl (fun ls hl => ?_)
    refine lv_goto (tgt := 11) hx hb dX4_isAhead_68 (by decide) ?_
    refine lv_iload hx hb dX4_isAhead_11 (lv_at hl 0 rfl) ?_
    refine lv_iconst (v := 4) hx hb dX4_isAhead_13 (by decide) ?_
    refine lv_icmp_ge (tgt := 71) hx hb dX4_isAhead_14 (by decide) (fun c => absurd c (by decide)) (fun _ => ?_)
    refine lv_aload_n hx hb dX4_isAhead_17 rfl (lv_at hl 1 rfl) ?_
    refine va_get (D := D) (ci := 10) (v := .ref g) (C := RX4) (T := TX4) (N := 2) hx hb hts (by decide +kernel) hown hK hP 0 rfl rfl 0 (by decide) (hts (.fieldLink RX4 11 "HeatStadium$MedalTable" "counts" "[[I") (by decide +kernel)) (fun _ h9 => h9) rfl dX4_isAhead_18 ?_
    refine lv_iload_n hx hb dX4_isAhead_21 rfl (lv_at hl 2 rfl) ?_
    obtain ⟨y15, ey15, my15⟩ := hg i hi
    obtain ⟨ky15, hy15⟩ := va_pl_get (X := [(tb, .inr (10, [.ref g, .int gv])), (g, .inl (cG, 8, .inr (.inr (.inr (.inr og)))))]) (f := zrow cI) my15
    refine zaldg hx hb hK hP 1 0 rfl rfl (vp_in_nI hi (by decide)) dX4_isAhead_22 ?_
    rw [show (nI i).toNatClampNeg = i from nI_clamp (by omega), ey15]
    refine lv_iload hx hb dX4_isAhead_23 (lv_at hl 0 rfl) ?_
    refine va_iald hx hb hK hP ky15 1 hy15 rfl (show vp_in 3 4 by unfold vp_in; decide) dX4_isAhead_25 ?_
    refine lv_aload_n hx hb dX4_isAhead_26 rfl (lv_at hl 1 rfl) ?_
    refine va_get (D := D) (ci := 10) (v := .ref g) (C := RX4) (T := TX4) (N := 2) hx hb hts (by decide +kernel) hown hK hP 0 rfl rfl 0 (by decide) (hts (.fieldLink RX4 11 "HeatStadium$MedalTable" "counts" "[[I") (by decide +kernel)) (fun _ h9 => h9) rfl dX4_isAhead_27 ?_
    refine lv_iload_n hx hb dX4_isAhead_30 rfl (lv_at hl 3 rfl) ?_
    obtain ⟨y16, ey16, my16⟩ := hg j hj
    obtain ⟨ky16, hy16⟩ := va_pl_get (X := [(tb, .inr (10, [.ref g, .int gv])), (g, .inl (cG, 8, .inr (.inr (.inr (.inr og)))))]) (f := zrow cI) my16
    refine zaldg hx hb hK hP 1 0 rfl rfl (vp_in_nI hj (by decide)) dX4_isAhead_31 ?_
    rw [show (nI j).toNatClampNeg = j from nI_clamp (by omega), ey16]
    refine lv_iload hx hb dX4_isAhead_32 (lv_at hl 0 rfl) ?_
    refine va_iald hx hb hK hP ky16 1 hy16 rfl (show vp_in 3 4 by unfold vp_in; decide) dX4_isAhead_34 ?_
    refine lv_icmp_eq (tgt := 65) hx hb dX4_isAhead_35 (by decide) (fun _ => ?_) (fun c => absurd (by decide) c)
    refine lv_iinc (v := 4) (lv' := [(4, .int 4), (0, .ref tb), (1, .int (nI i)), (2, .int (nI j)), (3, .int x3)]) hx hb dX4_isAhead_65 hl (k := 0) rfl (by decide) (by decide) rfl (fun ls hl => ?_)
    refine lv_goto (tgt := 11) hx hb dX4_isAhead_68 (by decide) ?_
    refine lv_iload hx hb dX4_isAhead_11 (lv_at hl 0 rfl) ?_
    refine lv_iconst (v := 4) hx hb dX4_isAhead_13 (by decide) ?_
    refine lv_icmp_ge (tgt := 71) hx hb dX4_isAhead_14 (by decide) (fun _ => ?_) (fun c => absurd (by decide) c)
    refine lv_iload_n hx hb dX4_isAhead_71 rfl (lv_at hl 2 rfl) ?_
    refine lv_iload_n hx hb dX4_isAhead_72 rfl (lv_at hl 3 rfl) ?_
    refine lv_icmp_ge (tgt := 80) hx hb dX4_isAhead_73 (by decide) (fun c17 => ?_) (fun c17 => ?_)
    · refine lv_iconst (v := 0) hx hb dX4_isAhead_80 (by decide) ?_
      refine W.widen (k := 0) (n := 0) (by omega) (by omega) ?_
      exact W.zret (v := 0) hx hb hr rfl (fun t ht9 hW => ⟨⟨0, (), rfl, (if_neg (Int32.not_lt.mpr c17)).symm, trivial⟩, hS.F ht9⟩) hS.2.2 dX4_isAhead_81
    · refine lv_iconst (v := 1) hx hb dX4_isAhead_76 (by decide) ?_
      refine lv_goto (tgt := 81) hx hb dX4_isAhead_77 (by decide) ?_
      refine W.widen (k := 0) (n := 0) (by omega) (by omega) ?_
      exact W.zret (v := 1) hx hb hr rfl (fun t ht9 hW => ⟨⟨1, (), rfl, (if_pos (Int32.not_le.mp c17)).symm, trivial⟩, hS.F ht9⟩) hS.2.2 dX4_isAhead_81

def zX4_nationAt_ws : List Cond := .code yX4_nationAt cX4_nationAt 6 (some .int) :: ([.methodLink RX4 20 yX4_isAhead, .instanceMethod yX4_isAhead, .selects RX4 yX4_isAhead yX4_isAhead, .initialized RX4] ++ (zX4_isAhead_ws ++ ([])))
theorem zX4_nationAt_ws_good : zX4_nationAt_ws.all goodWord = true := by decide +kernel
set_option maxHeartbeats 4000000 in
set_option maxRecDepth 100000 in
/-- nationAt: how many are ahead of the nation k -/
theorem lp_nationIn {p : Program} {l : Launch} {e : Env} {s : State} {m : MethodId} {args : Array Value} {below : List Frame} {meth : Method} {c : Code} {A A9 : Nat → Prop} {Q : State → Prop} (hst : l.stackTraces = false) (D : va_G) (tb g : Nat) (gv : Int32) (og : Nat → Option Nat) (LR : List Nat) (cG cI : ClassId) (x1 x2 : Int32) (k : Nat) (hx : p.tables.exec = Jvm.exec) (hb : c.code = cX4_nationAt) (hml : c.maxLocals = 6) (hts : ∀ w ∈ zX4_nationAt_ws, w.before args s = true) (hown : s.vm.findClass RX4 = some m.cls) (hz : zX A s s.heap) (hA : ∀ q : Nat, s.heap.size ≤ q → A q) (hK : va_K D vwCl [(cG, .array .int), (cI, .int)] s) (hg : ∀ i, i < 8 → ∃ y, og i = some y ∧ y ∈ LR) (hk : k < 8) (kk : ∀ (H : Heap) (locs : List Loc), va_P D vwCl ([(tb, .inr (10, [.ref g, .int gv])), (g, .inl (cG, 8, .inr (.inr (.inr (.inr og)))))] ++ va_pl LR (zrow cI)) H → va_D A9 ([(tb, .inr (10, [.ref g, .int gv])), (g, .inl (cG, 8, .inr (.inr (.inr (.inr og)))))] ++ va_pl LR (zrow cI)) → va_S A s.heap H locs → ∀ ls : Array Slot, lv_has ls 6 [(0, .ref tb), (1, .int x1), (2, .int x2), (3, .int (nI k)), (4, .int (nI k))] → W p l e (zR 1 0 0) s m args below meth c H locs 0 0 Q (F0 m 41 ls [])) : ∀ (n i : Nat), i ≤ 8 → 8 < i + n → ∀ (H : Heap) (locs : List Loc), va_P D vwCl ([(tb, .inr (10, [.ref g, .int gv])), (g, .inl (cG, 8, .inr (.inr (.inr (.inr og)))))] ++ va_pl LR (zrow cI)) H → va_D A9 ([(tb, .inr (10, [.ref g, .int gv])), (g, .inl (cG, 8, .inr (.inr (.inr (.inr og)))))] ++ va_pl LR (zrow cI)) → va_S A s.heap H locs → ∀ ls : Array Slot, lv_has ls 6 [(0, .ref tb), (1, .int x1), (2, .int x2), (3, .int (nI k)), (4, .int (nI (min i k))), (5, .int (nI i))] → W p l e (zR 1 0 0) s m args below meth c H locs 0 0 Q (F0 m 14 ls []) := by
  intro n
  induction n with
  | zero =>
    intro i h1 h2
    exact absurd h2 (by omega)
  | succ n ih =>
    intro i hi hn H locs hP hD hS ls hl
    rcases Nat.lt_or_ge i 8 with q | q
    · refine lv_iload hx hb dX4_nationAt_14 (lv_at hl 5 rfl) ?_
      refine lv_bipush (v := 8) hx hb dX4_nationAt_16 (by decide) ?_
      refine lv_icmp_ge (tgt := 41) hx hb dX4_nationAt_18 (by decide) (fun c9 => absurd c9 (nI_ge q (by decide))) (fun _ => ?_)
      refine lv_aload_n hx hb dX4_nationAt_21 rfl (lv_at hl 0 rfl) ?_
      refine lv_iload hx hb dX4_nationAt_22 (lv_at hl 5 rfl) ?_
      refine lv_iload_n hx hb dX4_nationAt_24 rfl (lv_at hl 3 rfl) ?_
      refine lv_iload_n hx hb dX4_nationAt_25 rfl (lv_at hl 2 rfl) ?_
      have hPc := hP.part (cx := [(tb, .inr (10, [.ref g, .int gv])), (g, .inl (cG, 8, .inr (.inr (.inr (.inr og)))))]) [0, 1] rfl
      have hDc := hD.part (cx := [(tb, .inr (10, [.ref g, .int gv])), (g, .inl (cG, 8, .inr (.inr (.inr (.inr og)))))]) [0, 1] (by decide) rfl
      have hKc := hK.sub (tys' := [(cG, .array .int), (cI, .int)]) [0, 1] rfl
      have hFc : ∀ q : Nat, H.size ≤ q → A q := fun q h => hA q (Nat.le_trans hS.1 h)
      refine va_calli (va_runV (As := [.int (nI i), .int (nI k), .int x2]) (rest := []) ⟨hx, hb, hml, hown, hts⟩ (c_isAhead l hst D H.size tb g gv og LR cG cI i k x2 hg q hk) (cwV 3 hts (goodIn_app (goodIn_of _ (by decide +kernel)) (goodIn_sub (fun _ h => List.mem_cons_of_mem _ (List.mem_append_right _ (List.mem_append_left _ h))) zX4_isAhead_ws_good)) rfl rfl rfl (by decide +kernel) ⟨Nat.le_of_ble_eq_true rfl, Nat.le_of_ble_eq_true rfl⟩) ⟨zPre.blind, va_recv hKc hPc (ci := 10) (q0 := 0) rfl rfl, zPre.mk hPc hKc hDc hz hS (fun q h => hFc q h)⟩ rfl rfl hl.1 rfl (lv_room (Nat.le_of_ble_eq_true rfl)) dX4_nationAt_26 ⟨Nat.le_of_ble_eq_true rfl, Nat.le_of_ble_eq_true rfl⟩) hS (fun q _ h => hFc q h) (fun q h => hFc q h) (fun r9 u t H1 locs ht9 hvm hw hB hz1 hk1 hS => ?_)
      refine W.widen (k := 0) (n := 0) (by omega) (by omega) ?_
      have hP := zKeep hP hk1
      generalize H1 = H at hP hS ⊢
      have hP : va_P D vwCl ([(tb, .inr (10, [.ref g, .int gv])), (g, .inl (cG, 8, .inr (.inr (.inr (.inr og)))))] ++ va_pl LR (zrow cI)) H := hP
      rcases Nat.lt_or_ge i k with q2 | q2
      · have e9 : r9 = 1 := hw.trans (if_pos (nI_lt q2 (by omega)))
        refine lv_if_eq (tgt := 35) hx hb dX4_nationAt_29 (by decide) (fun c9 => absurd (e9.symm.trans c9) (by decide)) (fun _ => ?_)
        refine lv_iinc (v := nI (min i k + 1)) (lv' := [(4, .int (nI (min i k + 1))), (0, .ref tb), (1, .int x1), (2, .int x2), (3, .int (nI k)), (5, .int (nI i))]) hx hb dX4_nationAt_32 hl (k := 4) rfl (show nI (min i k) + Int32.ofInt 1 = nI (min i k + 1) from nI_1 _) (by decide) rfl (fun ls hl => ?_)
        rw [show min i k + 1 = min (i + 1) k by omega] at hl
        refine lv_iinc (v := nI (i + 1)) (lv' := [(5, .int (nI (i + 1))), (4, .int (nI (min (i + 1) k))), (0, .ref tb), (1, .int x1), (2, .int x2), (3, .int (nI k))]) hx hb dX4_nationAt_35 hl (k := 5) rfl (show nI i + Int32.ofInt 1 = nI (i + 1) from nI_1 i) (by decide) rfl (fun ls hl => ?_)
        refine lv_goto (tgt := 14) hx hb dX4_nationAt_38 (by decide) ?_
        exact ih (i + 1) (by omega) (by omega) H locs hP hD hS ls (lv_sub hl [2, 3, 4, 5, 1, 0] rfl)
      · have e9 : r9 = 0 := hw.trans (if_neg (nI_nlt q2 (by omega)))
        refine lv_if_eq (tgt := 35) hx hb dX4_nationAt_29 (by decide) (fun _ => ?_) (fun c9 => absurd e9 c9)
        rw [show min i k = min (i + 1) k by omega] at hl
        refine lv_iinc (v := nI (i + 1)) (lv' := [(5, .int (nI (i + 1))), (0, .ref tb), (1, .int x1), (2, .int x2), (3, .int (nI k)), (4, .int (nI (min (i + 1) k)))]) hx hb dX4_nationAt_35 hl (k := 5) rfl (show nI i + Int32.ofInt 1 = nI (i + 1) from nI_1 i) (by decide) rfl (fun ls hl => ?_)
        refine lv_goto (tgt := 14) hx hb dX4_nationAt_38 (by decide) ?_
        exact ih (i + 1) (by omega) (by omega) H locs hP hD hS ls (lv_sub hl [1, 2, 3, 4, 5, 0] rfl)
    · obtain rfl : i = 8 := by omega
      rw [show min 8 k = k by omega] at hl
      refine lv_iload hx hb dX4_nationAt_14 (lv_at hl 5 rfl) ?_
      refine lv_bipush (v := 8) hx hb dX4_nationAt_16 (by decide) ?_
      refine lv_icmp_ge (tgt := 41) hx hb dX4_nationAt_18 (by decide) (fun _ => ?_) (fun c9 => absurd (nI_le (Nat.le_refl _) (by decide)) c9)
      exact kk H locs hP hD hS ls (lv_sub hl [0, 1, 2, 3, 4] rfl)
set_option maxHeartbeats 4000000 in
set_option maxRecDepth 100000 in
/-- nationAt: the nation idx is found -/
theorem lp_nationOut {p : Program} {l : Launch} {e : Env} {s : State} {m : MethodId} {args : Array Value} {below : List Frame} {meth : Method} {c : Code} {A A9 : Nat → Prop} {Q : State → Prop} (hst : l.stackTraces = false) (D : va_G) (tb g : Nat) (gv : Int32) (og : Nat → Option Nat) (LR : List Nat) (cG cI : ClassId) (x2 : Int32) (idx : Nat) (hx : p.tables.exec = Jvm.exec) (hb : c.code = cX4_nationAt) (hml : c.maxLocals = 6) (hts : ∀ w ∈ zX4_nationAt_ws, w.before args s = true) (hown : s.vm.findClass RX4 = some m.cls) (hz : zX A s s.heap) (hA : ∀ q : Nat, s.heap.size ≤ q → A q) (hK : va_K D vwCl [(cG, .array .int), (cI, .int)] s) (hg : ∀ i, i < 8 → ∃ y, og i = some y ∧ y ∈ LR) (hidx : idx < 8) (kr : ∀ (H : Heap) (locs : List Loc), va_P D vwCl ([(tb, .inr (10, [.ref g, .int gv])), (g, .inl (cG, 8, .inr (.inr (.inr (.inr og)))))] ++ va_pl LR (zrow cI)) H → va_D A9 ([(tb, .inr (10, [.ref g, .int gv])), (g, .inl (cG, 8, .inr (.inr (.inr (.inr og)))))] ++ va_pl LR (zrow cI)) → va_S A s.heap H locs → ∀ ls : Array Slot, W p l e (zR 1 0 0) s m args below meth c H locs 0 0 Q (F0 m 48 ls [.int (nI idx)])) : ∀ (n i : Nat), i ≤ idx → idx < i + n → ∀ (H : Heap) (locs : List Loc), va_P D vwCl ([(tb, .inr (10, [.ref g, .int gv])), (g, .inl (cG, 8, .inr (.inr (.inr (.inr og)))))] ++ va_pl LR (zrow cI)) H → va_D A9 ([(tb, .inr (10, [.ref g, .int gv])), (g, .inl (cG, 8, .inr (.inr (.inr (.inr og)))))] ++ va_pl LR (zrow cI)) → va_S A s.heap H locs → ∀ ls : Array Slot, lv_has ls 6 [(3, .int (nI i)), (0, .ref tb), (1, .int (nI idx)), (2, .int x2)] → W p l e (zR 1 0 0) s m args below meth c H locs 0 0 Q (F0 m 2 ls []) := by
  intro n
  induction n with
  | zero =>
    intro i h1 h2
    exact absurd h2 (by omega)
  | succ n ih =>
    intro i hi hn H locs hP hD hS ls hl
    rcases Nat.lt_or_ge i idx with q | q
    · refine lv_iload_n hx hb dX4_nationAt_2 rfl (lv_at hl 0 rfl) ?_
      refine lv_bipush (v := 8) hx hb dX4_nationAt_3 (by decide) ?_
      refine lv_icmp_ge (tgt := 55) hx hb dX4_nationAt_5 (by decide) (fun c9 => absurd c9 (nI_ge (by omega : i < 8) (by decide))) (fun _ => ?_)
      refine lv_iconst (v := 0) hx hb dX4_nationAt_8 (by decide) ?_
      refine lv_istore (lv' := [(4, .int 0), (3, .int (nI i)), (0, .ref tb), (1, .int (nI idx)), (2, .int x2)]) hx hb dX4_nationAt_9 hl (by decide) rfl (fun ls hl => ?_)
      refine lv_iconst (v := 0) hx hb dX4_nationAt_11 (by decide) ?_
      refine lv_istore (lv' := [(5, .int 0), (4, .int 0), (3, .int (nI i)), (0, .ref tb), (1, .int (nI idx)), (2, .int x2)]) hx hb dX4_nationAt_12 hl (by decide) rfl (fun ls hl => ?_)
      refine lp_nationIn (A9 := A9) hst D tb g gv og LR cG cI (nI idx) x2 i hx hb hml hts hown hz hA hK hg (by omega) (fun H locs hP hD hS ls hl => ?_) 9 0 (by omega) (by omega) H _ hP hD hS ls (by rw [show min 0 i = 0 by omega]; exact lv_sub hl [3, 4, 5, 2, 1, 0] rfl)
      refine lv_iload hx hb dX4_nationAt_41 (lv_at hl 4 rfl) ?_
      refine lv_iload_n hx hb dX4_nationAt_43 rfl (lv_at hl 1 rfl) ?_
      refine lv_icmp_ne (tgt := 49) hx hb dX4_nationAt_44 (by decide) (fun _ => ?_) (fun c9 => absurd ((nI_eq (by omega) (by omega)).mp c9) (by omega))
      refine lv_iinc (v := nI (i + 1)) (lv' := [(3, .int (nI (i + 1))), (0, .ref tb), (1, .int (nI idx)), (2, .int x2), (4, .int (nI i))]) hx hb dX4_nationAt_49 hl (k := 3) rfl (show nI i + Int32.ofInt 1 = nI (i + 1) from nI_1 i) (by decide) rfl (fun ls hl => ?_)
      refine lv_goto (tgt := 2) hx hb dX4_nationAt_52 (by decide) ?_
      exact ih (i + 1) (by omega) (by omega) H locs hP hD hS ls (lv_sub hl [0, 1, 2, 3] rfl)
    · obtain rfl : idx = i := by omega
      refine lv_iload_n hx hb dX4_nationAt_2 rfl (lv_at hl 0 rfl) ?_
      refine lv_bipush (v := 8) hx hb dX4_nationAt_3 (by decide) ?_
      refine lv_icmp_ge (tgt := 55) hx hb dX4_nationAt_5 (by decide) (fun c9 => absurd c9 (nI_ge (by omega : idx < 8) (by decide))) (fun _ => ?_)
      refine lv_iconst (v := 0) hx hb dX4_nationAt_8 (by decide) ?_
      refine lv_istore (lv' := [(4, .int 0), (3, .int (nI idx)), (0, .ref tb), (1, .int (nI idx)), (2, .int x2)]) hx hb dX4_nationAt_9 hl (by decide) rfl (fun ls hl => ?_)
      refine lv_iconst (v := 0) hx hb dX4_nationAt_11 (by decide) ?_
      refine lv_istore (lv' := [(5, .int 0), (4, .int 0), (3, .int (nI idx)), (0, .ref tb), (1, .int (nI idx)), (2, .int x2)]) hx hb dX4_nationAt_12 hl (by decide) rfl (fun ls hl => ?_)
      refine lp_nationIn (A9 := A9) hst D tb g gv og LR cG cI (nI idx) x2 idx hx hb hml hts hown hz hA hK hg (by omega) (fun H locs hP hD hS ls hl => ?_) 9 0 (by omega) (by omega) H _ hP hD hS ls (by rw [show min 0 idx = 0 by omega]; exact lv_sub hl [3, 4, 5, 2, 1, 0] rfl)
      refine lv_iload hx hb dX4_nationAt_41 (lv_at hl 4 rfl) ?_
      refine lv_iload_n hx hb dX4_nationAt_43 rfl (lv_at hl 1 rfl) ?_
      refine lv_icmp_ne (tgt := 49) hx hb dX4_nationAt_44 (by decide) (fun c9 => absurd rfl c9) (fun _ => ?_)
      refine lv_iload_n hx hb dX4_nationAt_47 rfl (lv_at hl 3 rfl) ?_
      exact kr H locs hP hD hS ls
set_option maxHeartbeats 4000000 in
set_option maxRecDepth 100000 in
/-- nationAt in a table of nothing: the number itself -/
theorem c_nationAt (l : Launch) (hst : l.stackTraces = false) (D : va_G) (sz : Nat) (tb g : Nat) (gv : Int32) (og : Nat → Option Nat) (LR : List Nat) (cG cI : ClassId) (x1 x2 : Int32) (hg : ∀ i, i < 8 → ∃ y, og i = some y ∧ y ∈ LR) (h : zin x1 0 7 = 1) : Met l yX4_nationAt zX4_nationAt_ws (zR 1 0 0) (zPre [.ref tb, .int x1, .int x2] D ([(tb, .inr (10, [.ref g, .int gv])), (g, .inl (cG, 8, .inr (.inr (.inr (.inr og)))))] ++ va_pl LR (zrow cI)) [(cG, .array .int), (cI, .int)] (fun q : Nat => sz ≤ q) sz) (va_Qi (S := Unit) (fun r _ => r = x1) (fun _ _ => True) (fun q : Nat => sz ≤ q)) 0 0 (fun q : Nat => sz ≤ q) := by
  obtain ⟨idx, hidx, rfl⟩ := zin_7 h
  refine Met.ofW (cc := cX4_nationAt) (maxL := 6) (ret := (some .int)) (by decide) rfl ?_
  intro p e s m args below meth c s₁ B hml hv
  obtain ⟨rfl, hsz, hP, hK, hD0, hz⟩ := hv
  have hx := B.exec
  have hb := B.bytes
  have hr := B.returns
  have hts := atoms_spec (ws := zX4_nationAt_ws) B.pre
  have hown : s.vm.findClass RX4 = some m.cls := findClass_of_methodNamed B.named
  have hlocks := B.notSynchronized
  subst hsz
  obtain ⟨A, hAe⟩ : ∃ A : Nat → Prop, A = (fun q : Nat => s.heap.size ≤ q) := ⟨_, rfl⟩
  rw [← hAe] at hz ⊢
  have hA : ∀ q : Nat, s.heap.size ≤ q → A q := fun q h => by rw [hAe]; exact h
  have hD := hD0
  have hS : va_S A s.heap s.heap [] := va_S.rf
  have hP : va_P D vwCl ([(tb, .inr (10, [.ref g, .int gv])), (g, .inl (cG, 8, .inr (.inr (.inr (.inr og)))))] ++ va_pl LR (zrow cI)) s.heap := hP
  have hl := lv_entry ([.ref tb, .int (nI idx), .int x2]) (n := 6) (Nat.le_of_ble_eq_true rfl)
  rw [lg_entry_eq]
  generalize (lg_sl ([.ref tb, .int (nI idx), .int x2]) ++ List.replicate (6 - (lg_sl ([.ref tb, .int (nI idx), .int x2])).length) Slot.unset).toArray = ls at hl ⊢
  have hl : lv_has ls 6 [(0, .ref tb), (1, .int (nI idx)), (2, .int x2)] := hl
  refine lv_iconst (v := 0) hx hb dX4_nationAt_0 (by decide) ?_
  refine lv_istore_n (lv' := [(3, .int 0), (0, .ref tb), (1, .int (nI idx)), (2, .int x2)]) hx hb dX4_nationAt_1 rfl hl (by decide) rfl (fun ls hl => ?_)
  refine lp_nationOut (A9 := fun _ => True) hst D tb g gv og LR cG cI x2 idx hx hb hml hts hown hz hA hK hg hidx (fun H locs hP hD hS ls => ?_) 9 0 (by omega) (by omega) s.heap _ hP hD hS ls (lv_sub hl [0, 1, 2, 3] rfl)
  refine W.widen (k := 0) (n := 0) (by omega) (by omega) ?_
  exact W.iret (v := (nI idx)) hx hb hr (fun t ht9 hW => ⟨⟨(nI idx), (), rfl, rfl, trivial⟩, hS.F ht9⟩) hS.2.2 dX4_nationAt_48

def zX4_sumOfNations_ws : List Cond := .code yX4_sumOfNations cX4_sumOfNations 3 (some .int) :: ([.fieldLink RX4 11 "HeatStadium$MedalTable" "counts" "[[I"] ++ (wsX40 ++ ([])))
theorem zX4_sumOfNations_ws_good : zX4_sumOfNations_ws.all goodWord = true := by decide +kernel
set_option maxHeartbeats 4000000 in
set_option maxRecDepth 100000 in
/-- sumOfNations: its loop -/
theorem lp_sum {p : Program} {l : Launch} {e : Env} {s : State} {m : MethodId} {args : Array Value} {below : List Frame} {meth : Method} {c : Code} {A A9 : Nat → Prop} {Q : State → Prop} (hst : l.stackTraces = false) (D : va_G) (tb g : Nat) (gv : Int32) (og : Nat → Option Nat) (LR : List Nat) (cG cI : ClassId) (hx : p.tables.exec = Jvm.exec) (hb : c.code = cX4_sumOfNations) (hml : c.maxLocals = 3) (hts : ∀ w ∈ zX4_sumOfNations_ws, w.before args s = true) (hown : s.vm.findClass RX4 = some m.cls) (hz : zX A s s.heap) (hA : ∀ q : Nat, s.heap.size ≤ q → A q) (hK : va_K D vwCl [(cG, .array .int), (cI, .int)] s) (hg : ∀ i, i < 8 → ∃ y, og i = some y ∧ y ∈ LR) (kk : ∀ (H : Heap) (locs : List Loc), va_P D vwCl ([(tb, .inr (10, [.ref g, .int gv])), (g, .inl (cG, 8, .inr (.inr (.inr (.inr og)))))] ++ va_pl LR (zrow cI)) H → va_D A9 ([(tb, .inr (10, [.ref g, .int gv])), (g, .inl (cG, 8, .inr (.inr (.inr (.inr og)))))] ++ va_pl LR (zrow cI)) → va_S A s.heap H locs → ∀ ls : Array Slot, lv_has ls 3 [(1, .int 0)] → W p l e (zR 0 0 0) s m args below meth c H locs 0 0 Q (F0 m 45 ls [])) : ∀ (n i : Nat), i ≤ 8 → 8 < i + n → ∀ (H : Heap) (locs : List Loc), va_P D vwCl ([(tb, .inr (10, [.ref g, .int gv])), (g, .inl (cG, 8, .inr (.inr (.inr (.inr og)))))] ++ va_pl LR (zrow cI)) H → va_D A9 ([(tb, .inr (10, [.ref g, .int gv])), (g, .inl (cG, 8, .inr (.inr (.inr (.inr og)))))] ++ va_pl LR (zrow cI)) → va_S A s.heap H locs → ∀ ls : Array Slot, lv_has ls 3 [(2, .int (nI i)), (1, .int 0), (0, .ref tb)] → W p l e (zR 0 0 0) s m args below meth c H locs 0 0 Q (F0 m 4 ls []) := by
  intro n
  induction n with
  | zero =>
    intro i h1 h2
    exact absurd h2 (by omega)
  | succ n ih =>
    intro i hi hn H locs hP hD hS ls hl
    rcases Nat.lt_or_ge i 8 with q | q
    · refine lv_iload_n hx hb dX4_sumOfNations_4 rfl (lv_at hl 0 rfl) ?_
      refine lv_bipush (v := 8) hx hb dX4_sumOfNations_5 (by decide) ?_
      refine lv_icmp_ge (tgt := 45) hx hb dX4_sumOfNations_7 (by decide) (fun c9 => absurd c9 (nI_ge q (by decide))) (fun _ => ?_)
      refine lv_iload_n hx hb dX4_sumOfNations_10 rfl (lv_at hl 1 rfl) ?_
      refine lv_aload_n hx hb dX4_sumOfNations_11 rfl (lv_at hl 2 rfl) ?_
      refine va_get (D := D) (ci := 10) (v := .ref g) (C := RX4) (T := TX4) (N := 2) hx hb hts (by decide +kernel) hown hK hP 0 rfl rfl 0 (by decide) (hts (.fieldLink RX4 11 "HeatStadium$MedalTable" "counts" "[[I") (by decide +kernel)) (fun _ h9 => h9) rfl dX4_sumOfNations_12 ?_
      refine lv_iload_n hx hb dX4_sumOfNations_15 rfl (lv_at hl 0 rfl) ?_
      obtain ⟨y1, ey1, my1⟩ := hg i q
      obtain ⟨ky1, hy1⟩ := va_pl_get (X := [(tb, .inr (10, [.ref g, .int gv])), (g, .inl (cG, 8, .inr (.inr (.inr (.inr og)))))]) (f := zrow cI) my1
      refine zaldg hx hb hK hP 1 0 rfl rfl (vp_in_nI q (by decide)) dX4_sumOfNations_16 ?_
      rw [show (nI i).toNatClampNeg = i from nI_clamp (by omega), ey1]
      refine lv_iconst (v := 1) hx hb dX4_sumOfNations_17 (by decide) ?_
      refine va_iald hx hb hK hP ky1 1 hy1 rfl (show vp_in 1 4 by unfold vp_in; decide) dX4_sumOfNations_18 ?_
      refine lv_aload_n hx hb dX4_sumOfNations_19 rfl (lv_at hl 2 rfl) ?_
      refine va_get (D := D) (ci := 10) (v := .ref g) (C := RX4) (T := TX4) (N := 2) hx hb hts (by decide +kernel) hown hK hP 0 rfl rfl 0 (by decide) (hts (.fieldLink RX4 11 "HeatStadium$MedalTable" "counts" "[[I") (by decide +kernel)) (fun _ h9 => h9) rfl dX4_sumOfNations_20 ?_
      refine lv_iload_n hx hb dX4_sumOfNations_23 rfl (lv_at hl 0 rfl) ?_
      obtain ⟨y2, ey2, my2⟩ := hg i q
      obtain ⟨ky2, hy2⟩ := va_pl_get (X := [(tb, .inr (10, [.ref g, .int gv])), (g, .inl (cG, 8, .inr (.inr (.inr (.inr og)))))]) (f := zrow cI) my2
      refine zaldg hx hb hK hP 1 0 rfl rfl (vp_in_nI q (by decide)) dX4_sumOfNations_24 ?_
      rw [show (nI i).toNatClampNeg = i from nI_clamp (by omega), ey2]
      refine lv_iconst (v := 2) hx hb dX4_sumOfNations_25 (by decide) ?_
      refine va_iald hx hb hK hP ky2 1 hy2 rfl (show vp_in 2 4 by unfold vp_in; decide) dX4_sumOfNations_26 ?_
      refine lv_iadd hx hb dX4_sumOfNations_27 ?_
      refine lv_topi (fun z3 ez3 => ?_)
      obtain rfl : z3 = 0 := ez3.trans (by decide)
      refine lv_aload_n hx hb dX4_sumOfNations_28 rfl (lv_at hl 2 rfl) ?_
      refine va_get (D := D) (ci := 10) (v := .ref g) (C := RX4) (T := TX4) (N := 2) hx hb hts (by decide +kernel) hown hK hP 0 rfl rfl 0 (by decide) (hts (.fieldLink RX4 11 "HeatStadium$MedalTable" "counts" "[[I") (by decide +kernel)) (fun _ h9 => h9) rfl dX4_sumOfNations_29 ?_
      refine lv_iload_n hx hb dX4_sumOfNations_32 rfl (lv_at hl 0 rfl) ?_
      obtain ⟨y4, ey4, my4⟩ := hg i q
      obtain ⟨ky4, hy4⟩ := va_pl_get (X := [(tb, .inr (10, [.ref g, .int gv])), (g, .inl (cG, 8, .inr (.inr (.inr (.inr og)))))]) (f := zrow cI) my4
      refine zaldg hx hb hK hP 1 0 rfl rfl (vp_in_nI q (by decide)) dX4_sumOfNations_33 ?_
      rw [show (nI i).toNatClampNeg = i from nI_clamp (by omega), ey4]
      refine lv_iconst (v := 3) hx hb dX4_sumOfNations_34 (by decide) ?_
      refine va_iald hx hb hK hP ky4 1 hy4 rfl (show vp_in 3 4 by unfold vp_in; decide) dX4_sumOfNations_35 ?_
      refine lv_iadd hx hb dX4_sumOfNations_36 ?_
      refine lv_topi (fun z5 ez5 => ?_)
      obtain rfl : z5 = 0 := ez5.trans (by decide)
      refine lv_iadd hx hb dX4_sumOfNations_37 ?_
      refine lv_topi (fun z6 ez6 => ?_)
      obtain rfl : z6 = 0 := ez6.trans (by decide)
      refine lv_istore_n (lv' := [(1, .int 0), (2, .int (nI i)), (0, .ref tb)]) hx hb dX4_sumOfNations_38 rfl hl (by decide) rfl (fun ls hl => ?_)
      refine lv_iinc (v := nI (i + 1)) (lv' := [(2, .int (nI (i + 1))), (1, .int 0), (0, .ref tb)]) hx hb dX4_sumOfNations_39 hl (k := 1) rfl (show nI i + Int32.ofInt 1 = nI (i + 1) from nI_1 i) (by decide) rfl (fun ls hl => ?_)
      refine lv_goto (tgt := 4) hx hb dX4_sumOfNations_42 (by decide) ?_
      exact ih (i + 1) (by omega) (by omega) H locs hP hD hS ls (lv_sub hl [0, 1, 2] rfl)
    · obtain rfl : i = 8 := by omega
      refine lv_iload_n hx hb dX4_sumOfNations_4 rfl (lv_at hl 0 rfl) ?_
      refine lv_bipush (v := 8) hx hb dX4_sumOfNations_5 (by decide) ?_
      refine lv_icmp_ge (tgt := 45) hx hb dX4_sumOfNations_7 (by decide) (fun _ => ?_) (fun c9 => absurd (nI_le (Nat.le_refl _) (by decide)) c9)
      exact kk H locs hP hD hS ls (lv_sub hl [1] rfl)
set_option maxHeartbeats 4000000 in
set_option maxRecDepth 100000 in
/-- sumOfNations of a table of nothing: 0 -/
theorem c_sum (l : Launch) (hst : l.stackTraces = false) (D : va_G) (sz : Nat) (tb g : Nat) (gv : Int32) (og : Nat → Option Nat) (LR : List Nat) (cG cI : ClassId) (hg : ∀ i, i < 8 → ∃ y, og i = some y ∧ y ∈ LR) : Met l yX4_sumOfNations zX4_sumOfNations_ws (zR 0 0 0) (zPre [.ref tb] D ([(tb, .inr (10, [.ref g, .int gv])), (g, .inl (cG, 8, .inr (.inr (.inr (.inr og)))))] ++ va_pl LR (zrow cI)) [(cG, .array .int), (cI, .int)] (fun q : Nat => sz ≤ q) sz) (va_Qi (S := Unit) (fun r _ => r = 0) (fun _ _ => True) (fun q : Nat => sz ≤ q)) 0 0 (fun q : Nat => sz ≤ q) := by
  refine Met.ofW (cc := cX4_sumOfNations) (maxL := 3) (ret := (some .int)) (by decide) rfl ?_
  intro p e s m args below meth c s₁ B hml hv
  obtain ⟨rfl, hsz, hP, hK, hD0, hz⟩ := hv
  have hx := B.exec
  have hb := B.bytes
  have hr := B.returns
  have hts := atoms_spec (ws := zX4_sumOfNations_ws) B.pre
  have hown : s.vm.findClass RX4 = some m.cls := findClass_of_methodNamed B.named
  have hlocks := B.notSynchronized
  subst hsz
  obtain ⟨A, hAe⟩ : ∃ A : Nat → Prop, A = (fun q : Nat => s.heap.size ≤ q) := ⟨_, rfl⟩
  rw [← hAe] at hz ⊢
  have hA : ∀ q : Nat, s.heap.size ≤ q → A q := fun q h => by rw [hAe]; exact h
  have hD := hD0
  have hS : va_S A s.heap s.heap [] := va_S.rf
  have hP : va_P D vwCl ([(tb, .inr (10, [.ref g, .int gv])), (g, .inl (cG, 8, .inr (.inr (.inr (.inr og)))))] ++ va_pl LR (zrow cI)) s.heap := hP
  have hl := lv_entry ([.ref tb]) (n := 3) (Nat.le_of_ble_eq_true rfl)
  rw [lg_entry_eq]
  generalize (lg_sl ([.ref tb]) ++ List.replicate (3 - (lg_sl ([.ref tb])).length) Slot.unset).toArray = ls at hl ⊢
  have hl : lv_has ls 3 [(0, .ref tb)] := hl
  refine lv_iconst (v := 0) hx hb dX4_sumOfNations_0 (by decide) ?_
  refine lv_istore_n (lv' := [(1, .int 0), (0, .ref tb)]) hx hb dX4_sumOfNations_1 rfl hl (by decide) rfl (fun ls hl => ?_)
  refine lv_iconst (v := 0) hx hb dX4_sumOfNations_2 (by decide) ?_
  refine lv_istore_n (lv' := [(2, .int 0), (1, .int 0), (0, .ref tb)]) hx hb dX4_sumOfNations_3 rfl hl (by decide) rfl (fun ls hl => ?_)
  refine lp_sum (A9 := fun _ => True) hst D tb g gv og LR cG cI hx hb hml hts hown hz hA hK hg (fun H locs hP hD hS ls hl => ?_) 9 0 (by omega) (by omega) s.heap _ hP hD hS ls (lv_sub hl [0, 1, 2] rfl)
  refine lv_iload_n hx hb dX4_sumOfNations_45 rfl (lv_at hl 0 rfl) ?_
  refine W.widen (k := 0) (n := 0) (by omega) (by omega) ?_
  exact W.iret (v := 0) hx hb hr (fun t ht9 hW => ⟨⟨0, (), rfl, rfl, trivial⟩, hS.F ht9⟩) hS.2.2 dX4_sumOfNations_46
end
section
/-! printed rows that this part uses -/
theorem dX11_medals_10 : decode cX11_medals 10 = .ok (.aload_n 0, 1) := by decide +kernel
theorem dX11_medals_11 : decode cX11_medals 11 = .ok (.invokevirtual 342, 3) := by decide +kernel
theorem dX11_medals_14 : decode cX11_medals 14 = .ok (.aload_n 0, 1) := by decide +kernel
theorem dX11_medals_15 : decode cX11_medals 15 = .ok (.getfield 60, 3) := by decide +kernel
theorem dX11_medals_18 : decode cX11_medals 18 = .ok (.getfield 345, 3) := by decide +kernel
theorem dX11_medals_21 : decode cX11_medals 21 = .ok (.iload_n 1, 1) := by decide +kernel
theorem dX11_medals_22 : decode cX11_medals 22 = .ok (.aaload, 1) := by decide +kernel
theorem dX11_medals_23 : decode cX11_medals 23 = .ok (.iload_n 2, 1) := by decide +kernel
theorem dX11_medals_24 : decode cX11_medals 24 = .ok (.iaload, 1) := by decide +kernel
theorem dX11_medals_25 : decode cX11_medals 25 = .ok (.ireturn, 1) := by decide +kernel
theorem dX11_inTable_7 : decode cX11_inTable 7 = .ok (.aload_n 0, 1) := by decide +kernel
theorem dX11_inTable_8 : decode cX11_inTable 8 = .ok (.invokevirtual 342, 3) := by decide +kernel
theorem dX11_inTable_11 : decode cX11_inTable 11 = .ok (.aload_n 0, 1) := by decide +kernel
theorem dX11_inTable_12 : decode cX11_inTable 12 = .ok (.getfield 60, 3) := by decide +kernel
theorem dX11_inTable_15 : decode cX11_inTable 15 = .ok (.iload_n 1, 1) := by decide +kernel
theorem dX11_inTable_16 : decode cX11_inTable 16 = .ok (.iload_n 2, 1) := by decide +kernel
theorem dX11_inTable_17 : decode cX11_inTable 17 = .ok (.invokevirtual 347, 3) := by decide +kernel
theorem dX11_inTable_20 : decode cX11_inTable 20 = .ok (.ireturn, 1) := by decide +kernel
theorem dX11_shareBits_4 : decode cX11_shareBits 4 = .ok (.aload_n 0, 1) := by decide +kernel
theorem dX11_shareBits_5 : decode cX11_shareBits 5 = .ok (.invokevirtual 342, 3) := by decide +kernel
theorem dX11_shareBits_8 : decode cX11_shareBits 8 = .ok (.aload_n 0, 1) := by decide +kernel
theorem dX11_shareBits_9 : decode cX11_shareBits 9 = .ok (.getfield 60, 3) := by decide +kernel
theorem dX11_shareBits_12 : decode cX11_shareBits 12 = .ok (.getfield 355, 3) := by decide +kernel
theorem dX11_shareBits_15 : decode cX11_shareBits 15 = .ok (.iconst 1, 1) := by decide +kernel
theorem dX11_shareBits_16 : decode cX11_shareBits 16 = .ok (.if_icmp .ge 14, 3) := by decide +kernel
theorem dX11_shareBits_19 : decode cX11_shareBits 19 = .ok (.new 358, 3) := by decide +kernel
theorem dX11_shareBits_22 : decode cX11_shareBits 22 = .ok (.dup, 1) := by decide +kernel
theorem dX11_shareBits_23 : decode cX11_shareBits 23 = .ok (.ldc_w 360, 3) := by decide +kernel
theorem dX11_shareBits_26 : decode cX11_shareBits 26 = .ok (.invokespecial 362, 3) := by decide +kernel
theorem dX11_shareBits_29 : decode cX11_shareBits 29 = .ok (.athrow, 1) := by decide +kernel
theorem dX11_isTrue_0 : decode cX11_isTrue 0 = .ok (.iconst 0, 1) := by decide +kernel
theorem dX11_isTrue_1 : decode cX11_isTrue 1 = .ok (.istore_n 1, 1) := by decide +kernel
theorem dX11_isTrue_2 : decode cX11_isTrue 2 = .ok (.iload_n 1, 1) := by decide +kernel
theorem dX11_isTrue_3 : decode cX11_isTrue 3 = .ok (.aload_n 0, 1) := by decide +kernel
theorem dX11_isTrue_4 : decode cX11_isTrue 4 = .ok (.getfield 64, 3) := by decide +kernel
theorem dX11_isTrue_7 : decode cX11_isTrue 7 = .ok (.if_icmp .ge 65, 3) := by decide +kernel
theorem dX11_isTrue_72 : decode cX11_isTrue 72 = .ok (.aload_n 0, 1) := by decide +kernel
theorem dX11_isTrue_73 : decode cX11_isTrue 73 = .ok (.invokevirtual 342, 3) := by decide +kernel
theorem dX11_isTrue_76 : decode cX11_isTrue 76 = .ok (.aload_n 0, 1) := by decide +kernel
theorem dX11_isTrue_77 : decode cX11_isTrue 77 = .ok (.getfield 60, 3) := by decide +kernel
theorem dX11_isTrue_80 : decode cX11_isTrue 80 = .ok (.invokevirtual 379, 3) := by decide +kernel
theorem dX11_isTrue_83 : decode cX11_isTrue 83 = .ok (.aload_n 0, 1) := by decide +kernel
theorem dX11_isTrue_84 : decode cX11_isTrue 84 = .ok (.getfield 60, 3) := by decide +kernel
theorem dX11_isTrue_87 : decode cX11_isTrue 87 = .ok (.getfield 355, 3) := by decide +kernel
theorem dX11_isTrue_90 : decode cX11_isTrue 90 = .ok (.if_icmp .ne 7, 3) := by decide +kernel
theorem dX11_isTrue_93 : decode cX11_isTrue 93 = .ok (.iconst 1, 1) := by decide +kernel
theorem dX11_isTrue_94 : decode cX11_isTrue 94 = .ok (.goto 4, 3) := by decide +kernel
theorem dX11_isTrue_98 : decode cX11_isTrue 98 = .ok (.ireturn, 1) := by decide +kernel
def zX11_medals_ws : List Cond := .code yX11_medals cX11_medals 3 (some .int) :: ([.methodLink RX11 74 yX11_requireNation, .static yX11_requireNation, .initialized RX11, .methodLink RX11 98 yX11_requireRange, .static yX11_requireRange, .methodLink RX11 342 yX11_countMedals, .instanceMethod yX11_countMedals, .selects RX11 yX11_countMedals yX11_countMedals, .fieldLink RX11 60 "HeatStadium" "table" "LHeatStadium$MedalTable;"] ++ (zrn1 ++ (zrr1 ++ (zX11_countMedals_ws ++ (wsX110 ++ (wsX40 ++ ([])))))))
theorem zX11_medals_ws_good : zX11_medals_ws.all goodWord = true := by decide +kernel
set_option maxHeartbeats 4000000 in
set_option maxRecDepth 100000 in
/-- medals of games without events: 0 -/
theorem c_medals_ok (l : Launch) (hst : l.stackTraces = false) (D : va_G) (sz : Nat) (h0 : Nat) (a : Nat → Nat) (g : Nat) (gv : Int32) (og : Nat → Option Nat) (LR : List Nat) (cG cI : ClassId) (x1 x2 : Int32) (hg : ∀ i, i < 8 → ∃ y, og i = some y ∧ y ∈ LR) (h : zin x1 0 7 = 1) (h2 : zin x2 0 3 = 1) : Met l yX11_medals zX11_medals_ws (zR 3 0 0) (zPre [.ref h0, .int x1, .int x2] D ([(h0, .inr (17, zHS a)), ((a 7), .inr (10, [.ref g, .int gv])), (g, .inl (cG, 8, .inr (.inr (.inr (.inr og)))))] ++ va_pl LR (zrow cI)) [(cG, .array .int), (cI, .int)] (va_A ([(h0, .inr (17, zHS a)), ((a 7), .inr (10, [.ref g, .int gv])), (g, .inl (cG, 8, .inr (.inr (.inr (.inr og)))))] ++ va_pl LR (zrow cI)) sz) sz) (va_Qi (S := Unit) (fun r _ => r = 0) (fun _ t => zAt D [] [(cG, .array .int), (cI, .int)] (va_A ([(h0, .inr (17, zHS a)), ((a 7), .inr (10, [.ref g, .int gv])), (g, .inl (cG, 8, .inr (.inr (.inr (.inr og)))))] ++ va_pl LR (zrow cI)) sz) t) (va_A ([(h0, .inr (17, zHS a)), ((a 7), .inr (10, [.ref g, .int gv])), (g, .inl (cG, 8, .inr (.inr (.inr (.inr og)))))] ++ va_pl LR (zrow cI)) sz)) 0 0 (va_A ([(h0, .inr (17, zHS a)), ((a 7), .inr (10, [.ref g, .int gv])), (g, .inl (cG, 8, .inr (.inr (.inr (.inr og)))))] ++ va_pl LR (zrow cI)) sz) := by
  obtain ⟨i, hi, rfl⟩ := zin_7 h
  obtain ⟨j, hj, rfl⟩ := zin_3 h2
  refine Met.ofW (cc := cX11_medals) (maxL := 3) (ret := (some .int)) (by decide) rfl ?_
  intro p e s m args below meth c s₁ B hml hv
  obtain ⟨rfl, hsz, hP, hK, hD0, hz⟩ := hv
  have hx := B.exec
  have hb := B.bytes
  have hr := B.returns
  have hts := atoms_spec (ws := zX11_medals_ws) B.pre
  have hown : s.vm.findClass RX11 = some m.cls := findClass_of_methodNamed B.named
  have hlocks := B.notSynchronized
  subst hsz
  have hD := hD0.self (sz := s.heap.size)
  generalize hAe : va_A ([(h0, .inr (17, zHS a)), ((a 7), .inr (10, [.ref g, .int gv])), (g, .inl (cG, 8, .inr (.inr (.inr (.inr og)))))] ++ va_pl LR (zrow cI)) s.heap.size = A at hD hz ⊢
  have hA : ∀ q : Nat, s.heap.size ≤ q → A q := fun q h => by rw [← hAe]; exact Or.inr h
  have hS : va_S A s.heap s.heap [] := va_S.rf
  have hP : va_P D vwCl ([(h0, .inr (17, zHS a)), ((a 7), .inr (10, [.ref g, .int gv])), (g, .inl (cG, 8, .inr (.inr (.inr (.inr og)))))] ++ va_pl LR (zrow cI)) s.heap := hP
  have hl := lv_entry ([.ref h0, .int (nI i), .int (nI j)]) (n := 3) (Nat.le_of_ble_eq_true rfl)
  rw [lg_entry_eq]
  generalize (lg_sl ([.ref h0, .int (nI i), .int (nI j)]) ++ List.replicate (3 - (lg_sl ([.ref h0, .int (nI i), .int (nI j)])).length) Slot.unset).toArray = ls at hl ⊢
  have hl : lv_has ls 3 [(0, .ref h0), (1, .int (nI i)), (2, .int (nI j))] := hl
  refine lv_iload_n hx hb dX11_medals_0 rfl (lv_at hl 1 rfl) ?_
  have hPc := hP.sub (ws' := []) [] rfl
  have hDc := hD.sub (ws' := []) [] (by decide) rfl
  have hKc := hK.sub (tys' := []) [] rfl
  have hFc : ∀ q : Nat, s.heap.size ≤ q → A q := fun q h => hA q (Nat.le_trans hS.1 h)
  refine va_callv (va_runS (As := [.int (nI i)]) (rest := []) ⟨hx, hb, hml, hown, hts⟩ (c_requireNation_ok l hst D s.heap.size (nI i) h) (cwS 1 hts (goodIn_app (goodIn_of _ (by decide +kernel)) (goodIn_sub (fun _ h => List.mem_cons_of_mem _ (List.mem_append_right _ (List.mem_append_left _ h))) zrn1_good)) rfl rfl rfl (by decide +kernel) ⟨Nat.le_of_ble_eq_true rfl, Nat.le_of_ble_eq_true rfl⟩) ⟨zPre.blind, zPre.mk hPc hKc hDc hz hS (fun q h => hFc q h)⟩ rfl rfl hl.1 rfl (lv_room (Nat.le_of_ble_eq_true rfl)) dX11_medals_1 ⟨Nat.le_of_ble_eq_true rfl, Nat.le_of_ble_eq_true rfl⟩) hS (fun q _ h => hFc q h) (fun q h => hFc q h) (fun u t H1 locs ht9 hvm hw hB hz1 hk1 hS => ?_)
  refine W.widen (k := 0) (n := 0) (by omega) (by omega) ?_
  have hP := zKeep hP hk1
  generalize H1 = H at hP hS ⊢
  have hP : va_P D vwCl ([(h0, .inr (17, zHS a)), ((a 7), .inr (10, [.ref g, .int gv])), (g, .inl (cG, 8, .inr (.inr (.inr (.inr og)))))] ++ va_pl LR (zrow cI)) H := hP
  refine lv_iload_n hx hb dX11_medals_4 rfl (lv_at hl 2 rfl) ?_
  refine lv_iconst (v := 0) hx hb dX11_medals_5 (by decide) ?_
  refine lv_iconst (v := 3) hx hb dX11_medals_6 (by decide) ?_
  have hPc := hP.sub (ws' := []) [] rfl
  have hDc := hD.sub (ws' := []) [] (by decide) rfl
  have hKc := hK.sub (tys' := []) [] rfl
  have hFc : ∀ q : Nat, H.size ≤ q → A q := fun q h => hA q (Nat.le_trans hS.1 h)
  refine va_callv (va_runS (As := [.int (nI j), .int 0, .int 3]) (rest := []) ⟨hx, hb, hml, hown, hts⟩ (c_requireRange_ok l hst D H.size (nI j) 0 3 h2) (cwS 3 hts (goodIn_app (goodIn_of _ (by decide +kernel)) (goodIn_sub (fun _ h => List.mem_cons_of_mem _ (List.mem_append_right _ (List.mem_append_right _ (List.mem_append_left _ h)))) zrr1_good)) rfl rfl rfl (by decide +kernel) ⟨Nat.le_of_ble_eq_true rfl, Nat.le_of_ble_eq_true rfl⟩) ⟨zPre.blind, zPre.mk hPc hKc hDc hz hS (fun q h => hFc q h)⟩ rfl rfl hl.1 rfl (lv_room (Nat.le_of_ble_eq_true rfl)) dX11_medals_7 ⟨Nat.le_of_ble_eq_true rfl, Nat.le_of_ble_eq_true rfl⟩) hS (fun q _ h => hFc q h) (fun q h => hFc q h) (fun u t H1 locs ht9 hvm hw hB hz1 hk1 hS => ?_)
  refine W.widen (k := 0) (n := 0) (by omega) (by omega) ?_
  have hP := zKeep hP hk1
  generalize H1 = H at hP hS ⊢
  have hP : va_P D vwCl ([(h0, .inr (17, zHS a)), ((a 7), .inr (10, [.ref g, .int gv])), (g, .inl (cG, 8, .inr (.inr (.inr (.inr og)))))] ++ va_pl LR (zrow cI)) H := hP
  refine lv_aload_n hx hb dX11_medals_10 rfl (lv_at hl 0 rfl) ?_
  have hPc := hP.part (cx := [(h0, .inr (17, zHS a)), ((a 7), .inr (10, [.ref g, .int gv])), (g, .inl (cG, 8, .inr (.inr (.inr (.inr og)))))]) [0, 1, 2] rfl
  have hDc := hD.part (cx := [(h0, .inr (17, zHS a)), ((a 7), .inr (10, [.ref g, .int gv])), (g, .inl (cG, 8, .inr (.inr (.inr (.inr og)))))]) [0, 1, 2] (by decide) rfl
  have hKc := hK.sub (tys' := [(cG, .array .int), (cI, .int)]) [0, 1] rfl
  have hFc := va_freeP (cx := [(h0, .inr (17, zHS a)), ((a 7), .inr (10, [.ref g, .int gv])), (g, .inl (cG, 8, .inr (.inr (.inr (.inr og)))))]) hD hS hA [0, 1, 2] rfl
  refine va_callv (va_runV (As := []) (rest := []) ⟨hx, hb, hml, hown, hts⟩ (c_countMedals l hst D H.size h0 a g gv og LR cG cI hg) (cwV 0 hts (goodIn_app (goodIn_of _ (by decide +kernel)) (goodIn_sub (fun _ h => List.mem_cons_of_mem _ (List.mem_append_right _ (List.mem_append_right _ (List.mem_append_right _ (List.mem_append_left _ h))))) zX11_countMedals_ws_good)) rfl rfl rfl (by decide +kernel) ⟨Nat.le_of_ble_eq_true rfl, Nat.le_of_ble_eq_true rfl⟩) ⟨zPre.blind, va_recv hKc hPc (ci := 17) (q0 := 0) rfl rfl, zPre.mk hPc hKc hDc hz hS (fun q h => hFc q h)⟩ rfl rfl hl.1 rfl (lv_room (Nat.le_of_ble_eq_true rfl)) dX11_medals_11 ⟨Nat.le_of_ble_eq_true rfl, Nat.le_of_ble_eq_true rfl⟩) hS (fun q _ h => hFc q h) (fun q h => hFc q h) (fun u t H1 locs ht9 hvm hw hB hz1 hk1 hS => ?_)
  refine W.widen (k := 0) (n := 0) (by omega) (by omega) ?_
  obtain ⟨hP1, hK1, hD1⟩ := hB
  rw [ht9] at hP1
  have hK1 := va_K.moved hvm.symm hK1
  obtain ⟨hP, hD⟩ := va_joinP (wr := []) (rx := [(h0, .inr (17, zHS a)), ((a 7), .inr (10, [.ref g, .int 0])), (g, .inl (cG, 8, .inr (.inr (.inr (.inr og)))))]) (pl1 := va_pl LR (zrow cI)) hP hD [0, 1, 2] [] rfl rfl (by decide) (by decide) hk1 hFc hP1 hD1
  have hK := (hK.sub (tys' := []) [] rfl).app hK1
  generalize H1 = H at hP hS ⊢
  have hP : va_P D vwCl ([(h0, .inr (17, zHS a)), ((a 7), .inr (10, [.ref g, .int 0])), (g, .inl (cG, 8, .inr (.inr (.inr (.inr og)))))] ++ va_pl LR (zrow cI)) H := hP
  have hD : va_D A ([(h0, .inr (17, zHS a)), ((a 7), .inr (10, [.ref g, .int 0])), (g, .inl (cG, 8, .inr (.inr (.inr (.inr og)))))] ++ va_pl LR (zrow cI)) := hD
  have hK : va_K D vwCl [(cG, .array .int), (cI, .int)] s := hK
  refine lv_aload_n hx hb dX11_medals_14 rfl (lv_at hl 0 rfl) ?_
  refine va_get (D := D) (ci := 17) (v := .ref (a 7)) (C := RX11) (T := TX11) (N := 11) hx hb hts (by decide +kernel) hown hK hP 0 rfl rfl 7 (by decide) (hts (.fieldLink RX11 60 "HeatStadium" "table" "LHeatStadium$MedalTable;") (by decide +kernel)) (fun _ h9 => h9) rfl dX11_medals_15 ?_
  refine va_getN (D := D) (ci := 10) (v := .ref g) (C := RX4) (T := TX4) (N := 2) hx hb hts (by decide +kernel) hown hK hP 1 rfl rfl 0 (by decide) (hz.w (.fieldLinkNest RX11 345 "HeatStadium$MedalTable" "counts" "[[I" RX11) (by decide +kernel)) (fun _ h9 => h9) rfl dX11_medals_18 ?_
  refine lv_iload_n hx hb dX11_medals_21 rfl (lv_at hl 1 rfl) ?_
  obtain ⟨y1, ey1, my1⟩ := hg i hi
  obtain ⟨ky1, hy1⟩ := va_pl_get (X := [(h0, .inr (17, zHS a)), ((a 7), .inr (10, [.ref g, .int 0])), (g, .inl (cG, 8, .inr (.inr (.inr (.inr og)))))]) (f := zrow cI) my1
  refine zaldg hx hb hK hP 2 0 rfl rfl (vp_in_nI hi (by decide)) dX11_medals_22 ?_
  rw [show (nI i).toNatClampNeg = i from nI_clamp (by omega), ey1]
  refine lv_iload_n hx hb dX11_medals_23 rfl (lv_at hl 2 rfl) ?_
  refine va_iald hx hb hK hP ky1 1 hy1 rfl (vp_in_nI hj (by decide)) dX11_medals_24 ?_
  have hP9 := hP.sub (ws' := []) [] rfl
  have hD9 := hD.sub (ws' := []) [] (by decide) rfl
  have hK9 := hK.sub (tys' := [(cG, .array .int), (cI, .int)]) [0, 1] rfl
  rw [← hAe] at hD9
  refine W.widen (k := 0) (n := 0) (by omega) (by omega) ?_
  subst hAe
  exact W.iret (v := 0) hx hb hr (fun t ht9 hW => ⟨⟨0, (), rfl, rfl, ⟨by rw [ht9]; exact hP9, va_K.moved hW.alike hK9, hD9⟩⟩, hS.F ht9⟩) hS.2.2 dX11_medals_25

def zX11_inTable_ws : List Cond := .code yX11_inTable cX11_inTable 3 (some .int) :: ([.methodLink RX11 98 yX11_requireRange, .static yX11_requireRange, .initialized RX11, .methodLink RX11 342 yX11_countMedals, .instanceMethod yX11_countMedals, .selects RX11 yX11_countMedals yX11_countMedals, .fieldLink RX11 60 "HeatStadium" "table" "LHeatStadium$MedalTable;", .instanceMethod yX4_nationAt, .selects RX4 yX4_nationAt yX4_nationAt, .initialized RX4] ++ (zrr1 ++ (zX11_countMedals_ws ++ (wsX110 ++ (zX4_nationAt_ws ++ ([]))))))
theorem zX11_inTable_ws_good : zX11_inTable_ws.all goodWord = true := by decide +kernel
set_option maxHeartbeats 4000000 in
set_option maxRecDepth 100000 in
/-- inTable of games without events: the number itself -/
theorem c_inTable_ok (l : Launch) (hst : l.stackTraces = false) (D : va_G) (sz : Nat) (h0 : Nat) (a : Nat → Nat) (g : Nat) (gv : Int32) (og : Nat → Option Nat) (LR : List Nat) (cG cI : ClassId) (x1 x2 : Int32) (hg : ∀ i, i < 8 → ∃ y, og i = some y ∧ y ∈ LR) (h : zin x1 0 7 = 1) : Met l yX11_inTable zX11_inTable_ws (zR 3 0 0) (zPre [.ref h0, .int x1, .int x2] D ([(h0, .inr (17, zHS a)), ((a 7), .inr (10, [.ref g, .int gv])), (g, .inl (cG, 8, .inr (.inr (.inr (.inr og)))))] ++ va_pl LR (zrow cI)) [(cG, .array .int), (cI, .int)] (va_A ([(h0, .inr (17, zHS a)), ((a 7), .inr (10, [.ref g, .int gv])), (g, .inl (cG, 8, .inr (.inr (.inr (.inr og)))))] ++ va_pl LR (zrow cI)) sz) sz) (va_Qi (S := Unit) (fun r _ => r = x1) (fun _ t => zAt D [] [(cG, .array .int), (cI, .int)] (va_A ([(h0, .inr (17, zHS a)), ((a 7), .inr (10, [.ref g, .int gv])), (g, .inl (cG, 8, .inr (.inr (.inr (.inr og)))))] ++ va_pl LR (zrow cI)) sz) t) (va_A ([(h0, .inr (17, zHS a)), ((a 7), .inr (10, [.ref g, .int gv])), (g, .inl (cG, 8, .inr (.inr (.inr (.inr og)))))] ++ va_pl LR (zrow cI)) sz)) 0 0 (va_A ([(h0, .inr (17, zHS a)), ((a 7), .inr (10, [.ref g, .int gv])), (g, .inl (cG, 8, .inr (.inr (.inr (.inr og)))))] ++ va_pl LR (zrow cI)) sz) := by
  refine Met.ofW (cc := cX11_inTable) (maxL := 3) (ret := (some .int)) (by decide) rfl ?_
  intro p e s m args below meth c s₁ B hml hv
  obtain ⟨rfl, hsz, hP, hK, hD0, hz⟩ := hv
  have hx := B.exec
  have hb := B.bytes
  have hr := B.returns
  have hts := atoms_spec (ws := zX11_inTable_ws) B.pre
  have hown : s.vm.findClass RX11 = some m.cls := findClass_of_methodNamed B.named
  have hlocks := B.notSynchronized
  subst hsz
  have hD := hD0.self (sz := s.heap.size)
  generalize hAe : va_A ([(h0, .inr (17, zHS a)), ((a 7), .inr (10, [.ref g, .int gv])), (g, .inl (cG, 8, .inr (.inr (.inr (.inr og)))))] ++ va_pl LR (zrow cI)) s.heap.size = A at hD hz ⊢
  have hA : ∀ q : Nat, s.heap.size ≤ q → A q := fun q h => by rw [← hAe]; exact Or.inr h
  have hS : va_S A s.heap s.heap [] := va_S.rf
  have hP : va_P D vwCl ([(h0, .inr (17, zHS a)), ((a 7), .inr (10, [.ref g, .int gv])), (g, .inl (cG, 8, .inr (.inr (.inr (.inr og)))))] ++ va_pl LR (zrow cI)) s.heap := hP
  have hl := lv_entry ([.ref h0, .int x1, .int x2]) (n := 3) (Nat.le_of_ble_eq_true rfl)
  rw [lg_entry_eq]
  generalize (lg_sl ([.ref h0, .int x1, .int x2]) ++ List.replicate (3 - (lg_sl ([.ref h0, .int x1, .int x2])).length) Slot.unset).toArray = ls at hl ⊢
  have hl : lv_has ls 3 [(0, .ref h0), (1, .int x1), (2, .int x2)] := hl
  refine lv_iload_n hx hb dX11_inTable_0 rfl (lv_at hl 1 rfl) ?_
  refine lv_iconst (v := 0) hx hb dX11_inTable_1 (by decide) ?_
  refine lv_bipush (v := 7) hx hb dX11_inTable_2 (by decide) ?_
  have hPc := hP.sub (ws' := []) [] rfl
  have hDc := hD.sub (ws' := []) [] (by decide) rfl
  have hKc := hK.sub (tys' := []) [] rfl
  have hFc : ∀ q : Nat, s.heap.size ≤ q → A q := fun q h => hA q (Nat.le_trans hS.1 h)
  refine va_callv (va_runS (As := [.int x1, .int 0, .int 7]) (rest := []) ⟨hx, hb, hml, hown, hts⟩ (c_requireRange_ok l hst D s.heap.size x1 0 7 h) (cwS 3 hts (goodIn_app (goodIn_of _ (by decide +kernel)) (goodIn_sub (fun _ h => List.mem_cons_of_mem _ (List.mem_append_right _ (List.mem_append_left _ h))) zrr1_good)) rfl rfl rfl (by decide +kernel) ⟨Nat.le_of_ble_eq_true rfl, Nat.le_of_ble_eq_true rfl⟩) ⟨zPre.blind, zPre.mk hPc hKc hDc hz hS (fun q h => hFc q h)⟩ rfl rfl hl.1 rfl (lv_room (Nat.le_of_ble_eq_true rfl)) dX11_inTable_4 ⟨Nat.le_of_ble_eq_true rfl, Nat.le_of_ble_eq_true rfl⟩) hS (fun q _ h => hFc q h) (fun q h => hFc q h) (fun u t H1 locs ht9 hvm hw hB hz1 hk1 hS => ?_)
  refine W.widen (k := 0) (n := 0) (by omega) (by omega) ?_
  have hP := zKeep hP hk1
  generalize H1 = H at hP hS ⊢
  have hP : va_P D vwCl ([(h0, .inr (17, zHS a)), ((a 7), .inr (10, [.ref g, .int gv])), (g, .inl (cG, 8, .inr (.inr (.inr (.inr og)))))] ++ va_pl LR (zrow cI)) H := hP
  refine lv_aload_n hx hb dX11_inTable_7 rfl (lv_at hl 0 rfl) ?_
  have hPc := hP.part (cx := [(h0, .inr (17, zHS a)), ((a 7), .inr (10, [.ref g, .int gv])), (g, .inl (cG, 8, .inr (.inr (.inr (.inr og)))))]) [0, 1, 2] rfl
  have hDc := hD.part (cx := [(h0, .inr (17, zHS a)), ((a 7), .inr (10, [.ref g, .int gv])), (g, .inl (cG, 8, .inr (.inr (.inr (.inr og)))))]) [0, 1, 2] (by decide) rfl
  have hKc := hK.sub (tys' := [(cG, .array .int), (cI, .int)]) [0, 1] rfl
  have hFc := va_freeP (cx := [(h0, .inr (17, zHS a)), ((a 7), .inr (10, [.ref g, .int gv])), (g, .inl (cG, 8, .inr (.inr (.inr (.inr og)))))]) hD hS hA [0, 1, 2] rfl
  refine va_callv (va_runV (As := []) (rest := []) ⟨hx, hb, hml, hown, hts⟩ (c_countMedals l hst D H.size h0 a g gv og LR cG cI hg) (cwV 0 hts (goodIn_app (goodIn_of _ (by decide +kernel)) (goodIn_sub (fun _ h => List.mem_cons_of_mem _ (List.mem_append_right _ (List.mem_append_right _ (List.mem_append_left _ h)))) zX11_countMedals_ws_good)) rfl rfl rfl (by decide +kernel) ⟨Nat.le_of_ble_eq_true rfl, Nat.le_of_ble_eq_true rfl⟩) ⟨zPre.blind, va_recv hKc hPc (ci := 17) (q0 := 0) rfl rfl, zPre.mk hPc hKc hDc hz hS (fun q h => hFc q h)⟩ rfl rfl hl.1 rfl (lv_room (Nat.le_of_ble_eq_true rfl)) dX11_inTable_8 ⟨Nat.le_of_ble_eq_true rfl, Nat.le_of_ble_eq_true rfl⟩) hS (fun q _ h => hFc q h) (fun q h => hFc q h) (fun u t H1 locs ht9 hvm hw hB hz1 hk1 hS => ?_)
  refine W.widen (k := 0) (n := 0) (by omega) (by omega) ?_
  obtain ⟨hP1, hK1, hD1⟩ := hB
  rw [ht9] at hP1
  have hK1 := va_K.moved hvm.symm hK1
  obtain ⟨hP, hD⟩ := va_joinP (wr := []) (rx := [(h0, .inr (17, zHS a)), ((a 7), .inr (10, [.ref g, .int 0])), (g, .inl (cG, 8, .inr (.inr (.inr (.inr og)))))]) (pl1 := va_pl LR (zrow cI)) hP hD [0, 1, 2] [] rfl rfl (by decide) (by decide) hk1 hFc hP1 hD1
  have hK := (hK.sub (tys' := []) [] rfl).app hK1
  generalize H1 = H at hP hS ⊢
  have hP : va_P D vwCl ([(h0, .inr (17, zHS a)), ((a 7), .inr (10, [.ref g, .int 0])), (g, .inl (cG, 8, .inr (.inr (.inr (.inr og)))))] ++ va_pl LR (zrow cI)) H := hP
  have hD : va_D A ([(h0, .inr (17, zHS a)), ((a 7), .inr (10, [.ref g, .int 0])), (g, .inl (cG, 8, .inr (.inr (.inr (.inr og)))))] ++ va_pl LR (zrow cI)) := hD
  have hK : va_K D vwCl [(cG, .array .int), (cI, .int)] s := hK
  refine lv_aload_n hx hb dX11_inTable_11 rfl (lv_at hl 0 rfl) ?_
  refine va_get (D := D) (ci := 17) (v := .ref (a 7)) (C := RX11) (T := TX11) (N := 11) hx hb hts (by decide +kernel) hown hK hP 0 rfl rfl 7 (by decide) (hts (.fieldLink RX11 60 "HeatStadium" "table" "LHeatStadium$MedalTable;") (by decide +kernel)) (fun _ h9 => h9) rfl dX11_inTable_12 ?_
  refine lv_iload_n hx hb dX11_inTable_15 rfl (lv_at hl 1 rfl) ?_
  refine lv_iload_n hx hb dX11_inTable_16 rfl (lv_at hl 2 rfl) ?_
  have hPc := hP.part (cx := [((a 7), .inr (10, [.ref g, .int 0])), (g, .inl (cG, 8, .inr (.inr (.inr (.inr og)))))]) [1, 2] rfl
  have hDc := hD.part (cx := [((a 7), .inr (10, [.ref g, .int 0])), (g, .inl (cG, 8, .inr (.inr (.inr (.inr og)))))]) [1, 2] (by decide) rfl
  have hKc := hK.sub (tys' := [(cG, .array .int), (cI, .int)]) [0, 1] rfl
  have hFc : ∀ q : Nat, H.size ≤ q → A q := fun q h => hA q (Nat.le_trans hS.1 h)
  refine va_calli (va_runVN (As := [.int x1, .int x2]) (rest := []) ⟨hx, hb, hml, hown, hts⟩ (c_nationAt l hst D H.size (a 7) g 0 og LR cG cI x1 x2 hg h) ⟨va_cnB 2 hts (goodIn_sub (fun _ h => List.mem_cons_of_mem _ (List.mem_append_right _ (List.mem_append_right _ (List.mem_append_right _ (List.mem_append_right _ (List.mem_append_left _ h)))))) zX4_nationAt_ws_good) rfl rfl rfl (hz.2.2.1 (.methodLinkNest RX11 347 yX4_nationAt RX11) (by decide +kernel)) (hts (.initialized RX4) (by decide +kernel)) (by decide +kernel) ⟨Nat.le_of_ble_eq_true rfl, Nat.le_of_ble_eq_true rfl⟩, (hts (.instanceMethod yX4_nationAt) (by decide +kernel)), (hts (.selects RX4 yX4_nationAt yX4_nationAt) (by decide +kernel))⟩ ⟨zPre.blind, va_recv hKc hPc (ci := 10) (q0 := 0) rfl rfl, zPre.mk hPc hKc hDc hz hS (fun q h => hFc q h)⟩ rfl rfl hl.1 rfl (lv_room (Nat.le_of_ble_eq_true rfl)) dX11_inTable_17 ⟨Nat.le_of_ble_eq_true rfl, Nat.le_of_ble_eq_true rfl⟩) hS (fun q _ h => hFc q h) (fun q h => hFc q h) (fun r9 u t H1 locs ht9 hvm hw hB hz1 hk1 hS => ?_)
  refine W.widen (k := 0) (n := 0) (by omega) (by omega) ?_
  have hP := zKeep hP hk1
  generalize H1 = H at hP hS ⊢
  have hP : va_P D vwCl ([(h0, .inr (17, zHS a)), ((a 7), .inr (10, [.ref g, .int 0])), (g, .inl (cG, 8, .inr (.inr (.inr (.inr og)))))] ++ va_pl LR (zrow cI)) H := hP
  rw [hw]
  have hP9 := hP.sub (ws' := []) [] rfl
  have hD9 := hD.sub (ws' := []) [] (by decide) rfl
  have hK9 := hK.sub (tys' := [(cG, .array .int), (cI, .int)]) [0, 1] rfl
  rw [← hAe] at hD9
  refine W.widen (k := 0) (n := 0) (by omega) (by omega) ?_
  subst hAe
  exact W.iret (v := x1) hx hb hr (fun t ht9 hW => ⟨⟨x1, (), rfl, rfl, ⟨by rw [ht9]; exact hP9, va_K.moved hW.alike hK9, hD9⟩⟩, hS.F ht9⟩) hS.2.2 dX11_inTable_20

def zX11_isTrue_ws : List Cond := .code yX11_isTrue cX11_isTrue 3 (some .boolean) :: ([.fieldLink RX11 64 "HeatStadium" "eventCount" "I", .methodLink RX11 342 yX11_countMedals, .instanceMethod yX11_countMedals, .selects RX11 yX11_countMedals yX11_countMedals, .initialized RX11, .fieldLink RX11 60 "HeatStadium" "table" "LHeatStadium$MedalTable;", .instanceMethod yX4_sumOfNations, .selects RX4 yX4_sumOfNations yX4_sumOfNations, .initialized RX4] ++ (wsX110 ++ (zX11_countMedals_ws ++ (zX4_sumOfNations_ws ++ (wsX40 ++ ([]))))))
theorem zX11_isTrue_ws_good : zX11_isTrue_ws.all goodWord = true := by decide +kernel
set_option maxHeartbeats 4000000 in
set_option maxRecDepth 100000 in
/-- isTrue of games without events: true -/
theorem c_isTrue (l : Launch) (hst : l.stackTraces = false) (D : va_G) (sz : Nat) (h0 : Nat) (a : Nat → Nat) (g : Nat) (gv : Int32) (og : Nat → Option Nat) (LR : List Nat) (cG cI : ClassId) (hg : ∀ i, i < 8 → ∃ y, og i = some y ∧ y ∈ LR) : Met l yX11_isTrue zX11_isTrue_ws (zR 3 0 0) (zPre [.ref h0] D ([(h0, .inr (17, zHS a)), ((a 7), .inr (10, [.ref g, .int gv])), (g, .inl (cG, 8, .inr (.inr (.inr (.inr og)))))] ++ va_pl LR (zrow cI)) [(cG, .array .int), (cI, .int)] (va_A ([(h0, .inr (17, zHS a)), ((a 7), .inr (10, [.ref g, .int gv])), (g, .inl (cG, 8, .inr (.inr (.inr (.inr og)))))] ++ va_pl LR (zrow cI)) sz) sz) (va_Qi (S := Unit) (fun r _ => r = 1) (fun _ t => zAt D [] [(cG, .array .int), (cI, .int)] (va_A ([(h0, .inr (17, zHS a)), ((a 7), .inr (10, [.ref g, .int gv])), (g, .inl (cG, 8, .inr (.inr (.inr (.inr og)))))] ++ va_pl LR (zrow cI)) sz) t) (va_A ([(h0, .inr (17, zHS a)), ((a 7), .inr (10, [.ref g, .int gv])), (g, .inl (cG, 8, .inr (.inr (.inr (.inr og)))))] ++ va_pl LR (zrow cI)) sz)) 0 0 (va_A ([(h0, .inr (17, zHS a)), ((a 7), .inr (10, [.ref g, .int gv])), (g, .inl (cG, 8, .inr (.inr (.inr (.inr og)))))] ++ va_pl LR (zrow cI)) sz) := by
  refine Met.ofW (cc := cX11_isTrue) (maxL := 3) (ret := (some .boolean)) (by decide) rfl ?_
  intro p e s m args below meth c s₁ B hml hv
  obtain ⟨rfl, hsz, hP, hK, hD0, hz⟩ := hv
  have hx := B.exec
  have hb := B.bytes
  have hr := B.returns
  have hts := atoms_spec (ws := zX11_isTrue_ws) B.pre
  have hown : s.vm.findClass RX11 = some m.cls := findClass_of_methodNamed B.named
  have hlocks := B.notSynchronized
  subst hsz
  have hD := hD0.self (sz := s.heap.size)
  generalize hAe : va_A ([(h0, .inr (17, zHS a)), ((a 7), .inr (10, [.ref g, .int gv])), (g, .inl (cG, 8, .inr (.inr (.inr (.inr og)))))] ++ va_pl LR (zrow cI)) s.heap.size = A at hD hz ⊢
  have hA : ∀ q : Nat, s.heap.size ≤ q → A q := fun q h => by rw [← hAe]; exact Or.inr h
  have hS : va_S A s.heap s.heap [] := va_S.rf
  have hP : va_P D vwCl ([(h0, .inr (17, zHS a)), ((a 7), .inr (10, [.ref g, .int gv])), (g, .inl (cG, 8, .inr (.inr (.inr (.inr og)))))] ++ va_pl LR (zrow cI)) s.heap := hP
  have hl := lv_entry ([.ref h0]) (n := 3) (Nat.le_of_ble_eq_true rfl)
  rw [lg_entry_eq]
  generalize (lg_sl ([.ref h0]) ++ List.replicate (3 - (lg_sl ([.ref h0])).length) Slot.unset).toArray = ls at hl ⊢
  have hl : lv_has ls 3 [(0, .ref h0)] := hl
  refine lv_iconst (v := 0) hx hb dX11_isTrue_0 (by decide) ?_
  refine lv_istore_n (lv' := [(1, .int 0), (0, .ref h0)]) hx hb dX11_isTrue_1 rfl hl (by decide) rfl (fun ls hl => ?_)
  refine lv_iload_n hx hb dX11_isTrue_2 rfl (lv_at hl 0 rfl) ?_
  refine lv_aload_n hx hb dX11_isTrue_3 rfl (lv_at hl 1 rfl) ?_
  refine va_get (D := D) (ci := 17) (v := .int 0) (C := RX11) (T := TX11) (N := 11) hx hb hts (by decide +kernel) hown hK hP 0 rfl rfl 8 (by decide) (hts (.fieldLink RX11 64 "HeatStadium" "eventCount" "I") (by decide +kernel)) (fun _ h9 => h9) rfl dX11_isTrue_4 ?_
  refine lv_icmp_ge (tgt := 72) hx hb dX11_isTrue_7 (by decide) (fun _ => ?_) (fun c => absurd (by decide) c)
  refine lv_aload_n hx hb dX11_isTrue_72 rfl (lv_at hl 1 rfl) ?_
  have hPc := hP.part (cx := [(h0, .inr (17, zHS a)), ((a 7), .inr (10, [.ref g, .int gv])), (g, .inl (cG, 8, .inr (.inr (.inr (.inr og)))))]) [0, 1, 2] rfl
  have hDc := hD.part (cx := [(h0, .inr (17, zHS a)), ((a 7), .inr (10, [.ref g, .int gv])), (g, .inl (cG, 8, .inr (.inr (.inr (.inr og)))))]) [0, 1, 2] (by decide) rfl
  have hKc := hK.sub (tys' := [(cG, .array .int), (cI, .int)]) [0, 1] rfl
  have hFc := va_freeP (cx := [(h0, .inr (17, zHS a)), ((a 7), .inr (10, [.ref g, .int gv])), (g, .inl (cG, 8, .inr (.inr (.inr (.inr og)))))]) hD hS hA [0, 1, 2] rfl
  refine va_callv (va_runV (As := []) (rest := []) ⟨hx, hb, hml, hown, hts⟩ (c_countMedals l hst D s.heap.size h0 a g gv og LR cG cI hg) (cwV 0 hts (goodIn_app (goodIn_of _ (by decide +kernel)) (goodIn_sub (fun _ h => List.mem_cons_of_mem _ (List.mem_append_right _ (List.mem_append_right _ (List.mem_append_left _ h)))) zX11_countMedals_ws_good)) rfl rfl rfl (by decide +kernel) ⟨Nat.le_of_ble_eq_true rfl, Nat.le_of_ble_eq_true rfl⟩) ⟨zPre.blind, va_recv hKc hPc (ci := 17) (q0 := 0) rfl rfl, zPre.mk hPc hKc hDc hz hS (fun q h => hFc q h)⟩ rfl rfl hl.1 rfl (lv_room (Nat.le_of_ble_eq_true rfl)) dX11_isTrue_73 ⟨Nat.le_of_ble_eq_true rfl, Nat.le_of_ble_eq_true rfl⟩) hS (fun q _ h => hFc q h) (fun q h => hFc q h) (fun u t H1 locs ht9 hvm hw hB hz1 hk1 hS => ?_)
  refine W.widen (k := 0) (n := 0) (by omega) (by omega) ?_
  obtain ⟨hP1, hK1, hD1⟩ := hB
  rw [ht9] at hP1
  have hK1 := va_K.moved hvm.symm hK1
  obtain ⟨hP, hD⟩ := va_joinP (wr := []) (rx := [(h0, .inr (17, zHS a)), ((a 7), .inr (10, [.ref g, .int 0])), (g, .inl (cG, 8, .inr (.inr (.inr (.inr og)))))]) (pl1 := va_pl LR (zrow cI)) hP hD [0, 1, 2] [] rfl rfl (by decide) (by decide) hk1 hFc hP1 hD1
  have hK := (hK.sub (tys' := []) [] rfl).app hK1
  generalize H1 = H at hP hS ⊢
  have hP : va_P D vwCl ([(h0, .inr (17, zHS a)), ((a 7), .inr (10, [.ref g, .int 0])), (g, .inl (cG, 8, .inr (.inr (.inr (.inr og)))))] ++ va_pl LR (zrow cI)) H := hP
  have hD : va_D A ([(h0, .inr (17, zHS a)), ((a 7), .inr (10, [.ref g, .int 0])), (g, .inl (cG, 8, .inr (.inr (.inr (.inr og)))))] ++ va_pl LR (zrow cI)) := hD
  have hK : va_K D vwCl [(cG, .array .int), (cI, .int)] s := hK
  refine lv_aload_n hx hb dX11_isTrue_76 rfl (lv_at hl 1 rfl) ?_
  refine va_get (D := D) (ci := 17) (v := .ref (a 7)) (C := RX11) (T := TX11) (N := 11) hx hb hts (by decide +kernel) hown hK hP 0 rfl rfl 7 (by decide) (hts (.fieldLink RX11 60 "HeatStadium" "table" "LHeatStadium$MedalTable;") (by decide +kernel)) (fun _ h9 => h9) rfl dX11_isTrue_77 ?_
  have hPc := hP.part (cx := [((a 7), .inr (10, [.ref g, .int 0])), (g, .inl (cG, 8, .inr (.inr (.inr (.inr og)))))]) [1, 2] rfl
  have hDc := hD.part (cx := [((a 7), .inr (10, [.ref g, .int 0])), (g, .inl (cG, 8, .inr (.inr (.inr (.inr og)))))]) [1, 2] (by decide) rfl
  have hKc := hK.sub (tys' := [(cG, .array .int), (cI, .int)]) [0, 1] rfl
  have hFc : ∀ q : Nat, H.size ≤ q → A q := fun q h => hA q (Nat.le_trans hS.1 h)
  refine va_calli (va_runVN (As := []) (rest := []) ⟨hx, hb, hml, hown, hts⟩ (c_sum l hst D H.size (a 7) g 0 og LR cG cI hg) ⟨va_cnB 0 hts (goodIn_sub (fun _ h => List.mem_cons_of_mem _ (List.mem_append_right _ (List.mem_append_right _ (List.mem_append_right _ (List.mem_append_left _ h))))) zX4_sumOfNations_ws_good) rfl rfl rfl (hz.2.2.1 (.methodLinkNest RX11 379 yX4_sumOfNations RX11) (by decide +kernel)) (hts (.initialized RX4) (by decide +kernel)) (by decide +kernel) ⟨Nat.le_of_ble_eq_true rfl, Nat.le_of_ble_eq_true rfl⟩, (hts (.instanceMethod yX4_sumOfNations) (by decide +kernel)), (hts (.selects RX4 yX4_sumOfNations yX4_sumOfNations) (by decide +kernel))⟩ ⟨zPre.blind, va_recv hKc hPc (ci := 10) (q0 := 0) rfl rfl, zPre.mk hPc hKc hDc hz hS (fun q h => hFc q h)⟩ rfl rfl hl.1 rfl (lv_room (Nat.le_of_ble_eq_true rfl)) dX11_isTrue_80 ⟨Nat.le_of_ble_eq_true rfl, Nat.le_of_ble_eq_true rfl⟩) hS (fun q _ h => hFc q h) (fun q h => hFc q h) (fun r9 u t H1 locs ht9 hvm hw hB hz1 hk1 hS => ?_)
  refine W.widen (k := 0) (n := 0) (by omega) (by omega) ?_
  have hP := zKeep hP hk1
  generalize H1 = H at hP hS ⊢
  have hP : va_P D vwCl ([(h0, .inr (17, zHS a)), ((a 7), .inr (10, [.ref g, .int 0])), (g, .inl (cG, 8, .inr (.inr (.inr (.inr og)))))] ++ va_pl LR (zrow cI)) H := hP
  subst hw
  refine lv_aload_n hx hb dX11_isTrue_83 rfl (lv_at hl 1 rfl) ?_
  refine va_get (D := D) (ci := 17) (v := .ref (a 7)) (C := RX11) (T := TX11) (N := 11) hx hb hts (by decide +kernel) hown hK hP 0 rfl rfl 7 (by decide) (hts (.fieldLink RX11 60 "HeatStadium" "table" "LHeatStadium$MedalTable;") (by decide +kernel)) (fun _ h9 => h9) rfl dX11_isTrue_84 ?_
  refine va_getN (D := D) (ci := 10) (v := .int 0) (C := RX4) (T := TX4) (N := 2) hx hb hts (by decide +kernel) hown hK hP 1 rfl rfl 1 (by decide) (hz.w (.fieldLinkNest RX11 355 "HeatStadium$MedalTable" "given" "I" RX11) (by decide +kernel)) (fun _ h9 => h9) rfl dX11_isTrue_87 ?_
  refine lv_icmp_ne (tgt := 97) hx hb dX11_isTrue_90 (by decide) (fun c => absurd (by decide) c) (fun _ => ?_)
  refine lv_iconst (v := 1) hx hb dX11_isTrue_93 (by decide) ?_
  refine lv_goto (tgt := 98) hx hb dX11_isTrue_94 (by decide) ?_
  have hP9 := hP.sub (ws' := []) [] rfl
  have hD9 := hD.sub (ws' := []) [] (by decide) rfl
  have hK9 := hK.sub (tys' := [(cG, .array .int), (cI, .int)]) [0, 1] rfl
  rw [← hAe] at hD9
  refine W.widen (k := 0) (n := 0) (by omega) (by omega) ?_
  subst hAe
  exact W.zret (v := 1) hx hb hr rfl (fun t ht9 hW => ⟨⟨1, (), rfl, rfl, ⟨by rw [ht9]; exact hP9, va_K.moved hW.alike hK9, hD9⟩⟩, hS.F ht9⟩) hS.2.2 dX11_isTrue_98

def zsb2 : List Cond := .code yX11_shareBits cX11_shareBits 2 (some .int) :: ([.methodLink RX11 74 yX11_requireNation, .static yX11_requireNation, .initialized RX11, .methodLink RX11 342 yX11_countMedals, .instanceMethod yX11_countMedals, .selects RX11 yX11_countMedals yX11_countMedals, .fieldLink RX11 60 "HeatStadium" "table" "LHeatStadium$MedalTable;", .classLink RX11 358 "java/lang/ArithmeticException", .initialized "java/lang/ArithmeticException"] ++ (zrn1 ++ (zX11_countMedals_ws ++ (wsX110 ++ (wsX40 ++ (((vx_atS RX11 362 "java/lang/ArithmeticException" ["java/lang/RuntimeException", "java/lang/Exception"]).filter goodWord) ++ ([])))))))
theorem zsb2_good : zsb2.all goodWord = true := by decide +kernel
set_option maxHeartbeats 4000000 in
set_option maxRecDepth 100000 in
/-- shareBits of games without medals: throws -/
theorem c_shareBits_none (l : Launch) (hst : l.stackTraces = false) (D : va_G) (sz : Nat) (h0 : Nat) (a : Nat → Nat) (g : Nat) (gv : Int32) (og : Nat → Option Nat) (LR : List Nat) (cG cI : ClassId) (x1 : Int32) (hg : ∀ i, i < 8 → ∃ y, og i = some y ∧ y ∈ LR) (h : zin x1 0 7 = 1) : vx_Met l yX11_shareBits zsb2 (zR 3 1 6) (zPre [.ref h0, .int x1] D ([(h0, .inr (17, zHS a)), ((a 7), .inr (10, [.ref g, .int gv])), (g, .inl (cG, 8, .inr (.inr (.inr (.inr og)))))] ++ va_pl LR (zrow cI)) [(cG, .array .int), (cI, .int)] (va_A ([(h0, .inr (17, zHS a)), ((a 7), .inr (10, [.ref g, .int gv])), (g, .inl (cG, 8, .inr (.inr (.inr (.inr og)))))] ++ va_pl LR (zrow cI)) sz) sz) (va_Qi (S := Unit) (fun _ _ => False) (fun _ _ => True) (va_A ([(h0, .inr (17, zHS a)), ((a 7), .inr (10, [.ref g, .int gv])), (g, .inl (cG, 8, .inr (.inr (.inr (.inr og)))))] ++ va_pl LR (zrow cI)) sz)) (zThr "java/lang/ArithmeticException" (va_A ([(h0, .inr (17, zHS a)), ((a 7), .inr (10, [.ref g, .int gv])), (g, .inl (cG, 8, .inr (.inr (.inr (.inr og)))))] ++ va_pl LR (zrow cI)) sz)) 1 6 (va_A ([(h0, .inr (17, zHS a)), ((a 7), .inr (10, [.ref g, .int gv])), (g, .inl (cG, 8, .inr (.inr (.inr (.inr og)))))] ++ va_pl LR (zrow cI)) sz) := by
  refine vx_ofW (cc := cX11_shareBits) (maxL := 2) (ret := (some .int)) (by decide) rfl ?_
  intro p e s m args below meth c s₁ B hml ht hv
  obtain ⟨rfl, hsz, hP, hK, hD0, hz⟩ := hv
  have hx := B.exec
  have hb := B.bytes
  have hr := B.returns
  have hts := atoms_spec (ws := zsb2) B.pre
  have hown : s.vm.findClass RX11 = some m.cls := findClass_of_methodNamed B.named
  have hlocks := B.notSynchronized
  subst hsz
  have hD := hD0.self (sz := s.heap.size)
  generalize hAe : va_A ([(h0, .inr (17, zHS a)), ((a 7), .inr (10, [.ref g, .int gv])), (g, .inl (cG, 8, .inr (.inr (.inr (.inr og)))))] ++ va_pl LR (zrow cI)) s.heap.size = A at hD hz ⊢
  have hA : ∀ q : Nat, s.heap.size ≤ q → A q := fun q h => by rw [← hAe]; exact Or.inr h
  have hS : va_S A s.heap s.heap [] := va_S.rf
  have hP : va_P D vwCl ([(h0, .inr (17, zHS a)), ((a 7), .inr (10, [.ref g, .int gv])), (g, .inl (cG, 8, .inr (.inr (.inr (.inr og)))))] ++ va_pl LR (zrow cI)) s.heap := hP
  have hl := lv_entry ([.ref h0, .int x1]) (n := 2) (Nat.le_of_ble_eq_true rfl)
  rw [lg_entry_eq]
  generalize (lg_sl ([.ref h0, .int x1]) ++ List.replicate (2 - (lg_sl ([.ref h0, .int x1])).length) Slot.unset).toArray = ls at hl ⊢
  have hl : lv_has ls 2 [(0, .ref h0), (1, .int x1)] := hl
  refine lv_iload_n hx hb dX11_shareBits_0 rfl (lv_at hl 1 rfl) ?_
  have hPc := hP.sub (ws' := []) [] rfl
  have hDc := hD.sub (ws' := []) [] (by decide) rfl
  have hKc := hK.sub (tys' := []) [] rfl
  have hFc : ∀ q : Nat, s.heap.size ≤ q → A q := fun q h => hA q (Nat.le_trans hS.1 h)
  refine va_callv (va_runS (As := [.int x1]) (rest := []) ⟨hx, hb, hml, hown, hts⟩ (c_requireNation_ok l hst D s.heap.size x1 h) (cwS 1 hts (goodIn_app (goodIn_of _ (by decide +kernel)) (goodIn_sub (fun _ h => List.mem_cons_of_mem _ (List.mem_append_right _ (List.mem_append_left _ h))) zrn1_good)) rfl rfl rfl (by decide +kernel) ⟨Nat.le_of_ble_eq_true rfl, Nat.le_of_ble_eq_true rfl⟩) ⟨zPre.blind, zPre.mk hPc hKc hDc hz hS (fun q h => hFc q h)⟩ rfl rfl hl.1 rfl (lv_room (Nat.le_of_ble_eq_true rfl)) dX11_shareBits_1 ⟨Nat.le_of_ble_eq_true rfl, Nat.le_of_ble_eq_true rfl⟩) hS (fun q _ h => hFc q h) (fun q h => hFc q h) (fun u t H1 locs ht9 hvm hw hB hz1 hk1 hS => ?_)
  refine W.widen (k := 0) (n := 0) (by omega) (by omega) ?_
  have hP := zKeep hP hk1
  generalize H1 = H at hP hS ⊢
  have hP : va_P D vwCl ([(h0, .inr (17, zHS a)), ((a 7), .inr (10, [.ref g, .int gv])), (g, .inl (cG, 8, .inr (.inr (.inr (.inr og)))))] ++ va_pl LR (zrow cI)) H := hP
  refine lv_aload_n hx hb dX11_shareBits_4 rfl (lv_at hl 0 rfl) ?_
  have hPc := hP.part (cx := [(h0, .inr (17, zHS a)), ((a 7), .inr (10, [.ref g, .int gv])), (g, .inl (cG, 8, .inr (.inr (.inr (.inr og)))))]) [0, 1, 2] rfl
  have hDc := hD.part (cx := [(h0, .inr (17, zHS a)), ((a 7), .inr (10, [.ref g, .int gv])), (g, .inl (cG, 8, .inr (.inr (.inr (.inr og)))))]) [0, 1, 2] (by decide) rfl
  have hKc := hK.sub (tys' := [(cG, .array .int), (cI, .int)]) [0, 1] rfl
  have hFc := va_freeP (cx := [(h0, .inr (17, zHS a)), ((a 7), .inr (10, [.ref g, .int gv])), (g, .inl (cG, 8, .inr (.inr (.inr (.inr og)))))]) hD hS hA [0, 1, 2] rfl
  refine va_callv (va_runV (As := []) (rest := []) ⟨hx, hb, hml, hown, hts⟩ (c_countMedals l hst D H.size h0 a g gv og LR cG cI hg) (cwV 0 hts (goodIn_app (goodIn_of _ (by decide +kernel)) (goodIn_sub (fun _ h => List.mem_cons_of_mem _ (List.mem_append_right _ (List.mem_append_right _ (List.mem_append_left _ h)))) zX11_countMedals_ws_good)) rfl rfl rfl (by decide +kernel) ⟨Nat.le_of_ble_eq_true rfl, Nat.le_of_ble_eq_true rfl⟩) ⟨zPre.blind, va_recv hKc hPc (ci := 17) (q0 := 0) rfl rfl, zPre.mk hPc hKc hDc hz hS (fun q h => hFc q h)⟩ rfl rfl hl.1 rfl (lv_room (Nat.le_of_ble_eq_true rfl)) dX11_shareBits_5 ⟨Nat.le_of_ble_eq_true rfl, Nat.le_of_ble_eq_true rfl⟩) hS (fun q _ h => hFc q h) (fun q h => hFc q h) (fun u t H1 locs ht9 hvm hw hB hz1 hk1 hS => ?_)
  refine W.widen (k := 0) (n := 0) (by omega) (by omega) ?_
  obtain ⟨hP1, hK1, hD1⟩ := hB
  rw [ht9] at hP1
  have hK1 := va_K.moved hvm.symm hK1
  obtain ⟨hP, hD⟩ := va_joinP (wr := []) (rx := [(h0, .inr (17, zHS a)), ((a 7), .inr (10, [.ref g, .int 0])), (g, .inl (cG, 8, .inr (.inr (.inr (.inr og)))))]) (pl1 := va_pl LR (zrow cI)) hP hD [0, 1, 2] [] rfl rfl (by decide) (by decide) hk1 hFc hP1 hD1
  have hK := (hK.sub (tys' := []) [] rfl).app hK1
  generalize H1 = H at hP hS ⊢
  have hP : va_P D vwCl ([(h0, .inr (17, zHS a)), ((a 7), .inr (10, [.ref g, .int 0])), (g, .inl (cG, 8, .inr (.inr (.inr (.inr og)))))] ++ va_pl LR (zrow cI)) H := hP
  have hD : va_D A ([(h0, .inr (17, zHS a)), ((a 7), .inr (10, [.ref g, .int 0])), (g, .inl (cG, 8, .inr (.inr (.inr (.inr og)))))] ++ va_pl LR (zrow cI)) := hD
  have hK : va_K D vwCl [(cG, .array .int), (cI, .int)] s := hK
  refine lv_aload_n hx hb dX11_shareBits_8 rfl (lv_at hl 0 rfl) ?_
  refine va_get (D := D) (ci := 17) (v := .ref (a 7)) (C := RX11) (T := TX11) (N := 11) hx hb hts (by decide +kernel) hown hK hP 0 rfl rfl 7 (by decide) (hts (.fieldLink RX11 60 "HeatStadium" "table" "LHeatStadium$MedalTable;") (by decide +kernel)) (fun _ h9 => h9) rfl dX11_shareBits_9 ?_
  refine va_getN (D := D) (ci := 10) (v := .int 0) (C := RX4) (T := TX4) (N := 2) hx hb hts (by decide +kernel) hown hK hP 1 rfl rfl 1 (by decide) (hz.w (.fieldLinkNest RX11 355 "HeatStadium$MedalTable" "given" "I" RX11) (by decide +kernel)) (fun _ h9 => h9) rfl dX11_shareBits_12 ?_
  refine lv_iconst (v := 1) hx hb dX11_shareBits_15 (by decide) ?_
  refine lv_icmp_ge (tgt := 30) hx hb dX11_shareBits_16 (by decide) (fun c => absurd c (by decide)) (fun _ => ?_)
  obtain ⟨sa, hstr⟩ := hz.2.1 (RX11, 360, "there are no medals") (by decide +kernel)
  exact vx_throwSW (names := ["java/lang/RuntimeException", "java/lang/Exception"]) hx hb hst hown (by decide +kernel) (by decide +kernel) (hts (.classLink RX11 358 "java/lang/ArithmeticException") (by decide +kernel)) (hts (.initialized "java/lang/ArithmeticException") (by decide +kernel)) hstr (vx_hat (B := zWords) (fun w hw => hts w (List.mem_cons_of_mem _ (List.mem_append_right _ (List.mem_append_right _ (List.mem_append_right _ (List.mem_append_right _ (List.mem_append_right _ (List.mem_append_left _ hw)))))))) (by decide +kernel) (fun w hw => hz.w w hw)) (List.all_eq_true.mp (by decide +kernel)) hz.1.1 hz.1.2 hS (hml ▸ hl.1) dX11_shareBits_19 dX11_shareBits_22 dX11_shareBits_23 dX11_shareBits_26 dX11_shareBits_29 (fun x hx => (ht x hx).elim) (Nat.le_of_ble_eq_true rfl) (Nat.le_of_ble_eq_true rfl) (Nat.le_of_ble_eq_true rfl) (Nat.le_of_ble_eq_true rfl) hlocks (fun t _ h1 h2 => ⟨(), trivial, rfl, zF hS h1 h2⟩) hS.2.2 (Nat.le_of_ble_eq_true rfl) (Nat.le_of_ble_eq_true rfl)
end
