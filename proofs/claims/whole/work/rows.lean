section
-- ===== PART A: goes FIRST, ahead of the names: the tables' words, and 'selects' of the private methods out of them =====
/-- a private method of a class that the tables say can be made, by its rows of tables_1 -/
def lw_okq (q : MethodName × Nat) : Prop := (q.1.cls ≠ "java/lang/invoke/MethodHandle" ∧ q.1.cls ≠ "java/lang/invoke/VarHandle") ∧ Cond.instantiable q.1.cls q.2 ∈ tables_1 ∧ Cond.privateMethod q.1 ∈ tables_1 ∧ Cond.instanceMethod q.1 ∈ tables_1
theorem lw_p0 : lw_okq (⟨"java/util/ArrayList", "add", "(Ljava/lang/Object;[Ljava/lang/Object;I)V"⟩, 3) := ⟨⟨by decide +kernel, by decide +kernel⟩, List.mem_of_getElem? (i := 35) (by decide +kernel), List.mem_of_getElem? (i := 211) (by decide +kernel), List.mem_of_getElem? (i := 212) (by decide +kernel)⟩
theorem lw_p1 : lw_okq (⟨"java/util/ArrayList", "grow", "()[Ljava/lang/Object;"⟩, 3) := ⟨⟨by decide +kernel, by decide +kernel⟩, List.mem_of_getElem? (i := 35) (by decide +kernel), List.mem_of_getElem? (i := 215) (by decide +kernel), List.mem_of_getElem? (i := 216) (by decide +kernel)⟩
theorem lw_p2 : lw_okq (⟨"java/util/ArrayList", "grow", "(I)[Ljava/lang/Object;"⟩, 3) := ⟨⟨by decide +kernel, by decide +kernel⟩, List.mem_of_getElem? (i := 35) (by decide +kernel), List.mem_of_getElem? (i := 219) (by decide +kernel), List.mem_of_getElem? (i := 220) (by decide +kernel)⟩
theorem lw_p3 : lw_okq (⟨"ShareKeeper", "serviceAt", "(I)LShareKeeper$Service;"⟩, 11) := ⟨⟨by decide +kernel, by decide +kernel⟩, List.mem_of_getElem? (i := 27) (by decide +kernel), List.mem_of_getElem? (i := 271) (by decide +kernel), List.mem_of_getElem? (i := 272) (by decide +kernel)⟩
theorem lw_p4 : lw_okq (⟨"ShareKeeper", "sourceAt", "(I)LShareKeeper$Source;"⟩, 11) := ⟨⟨by decide +kernel, by decide +kernel⟩, List.mem_of_getElem? (i := 27) (by decide +kernel), List.mem_of_getElem? (i := 325) (by decide +kernel), List.mem_of_getElem? (i := 326) (by decide +kernel)⟩
theorem lw_p5 : lw_okq (⟨"ShareKeeper$Source", "isOpen", "(II)Z"⟩, 5) := ⟨⟨by decide +kernel, by decide +kernel⟩, List.mem_of_getElem? (i := 297) (by decide +kernel), List.mem_of_getElem? (i := 333) (by decide +kernel), List.mem_of_getElem? (i := 334) (by decide +kernel)⟩
theorem lw_p6 : lw_okq (⟨"ShareKeeper", "promiseAt", "(I)LShareKeeper$Promise;"⟩, 11) := ⟨⟨by decide +kernel, by decide +kernel⟩, List.mem_of_getElem? (i := 27) (by decide +kernel), List.mem_of_getElem? (i := 384) (by decide +kernel), List.mem_of_getElem? (i := 385) (by decide +kernel)⟩
theorem lw_p7 : lw_okq (⟨"ShareKeeper$Promise", "firstOfSpan", "(I)I"⟩, 6) := ⟨⟨by decide +kernel, by decide +kernel⟩, List.mem_of_getElem? (i := 353) (by decide +kernel), List.mem_of_getElem? (i := 434) (by decide +kernel), List.mem_of_getElem? (i := 435) (by decide +kernel)⟩
theorem lw_p8 : lw_okq (⟨"ShareKeeper$Promise", "lastOfSpan", "(I)I"⟩, 6) := ⟨⟨by decide +kernel, by decide +kernel⟩, List.mem_of_getElem? (i := 353) (by decide +kernel), List.mem_of_getElem? (i := 438) (by decide +kernel), List.mem_of_getElem? (i := 439) (by decide +kernel)⟩
theorem lw_p9 : lw_okq (⟨"ShareKeeper$Promise", "asksAt", "(I)I"⟩, 6) := ⟨⟨by decide +kernel, by decide +kernel⟩, List.mem_of_getElem? (i := 353) (by decide +kernel), List.mem_of_getElem? (i := 443) (by decide +kernel), List.mem_of_getElem? (i := 444) (by decide +kernel)⟩
theorem lw_p10 : lw_okq (⟨"ShareKeeper$Promise", "isIn", "(I)Z"⟩, 6) := ⟨⟨by decide +kernel, by decide +kernel⟩, List.mem_of_getElem? (i := 353) (by decide +kernel), List.mem_of_getElem? (i := 447) (by decide +kernel), List.mem_of_getElem? (i := 448) (by decide +kernel)⟩
theorem lw_p11 : lw_okq (⟨"ShareKeeper$Promise", "badAt", "(I)I"⟩, 6) := ⟨⟨by decide +kernel, by decide +kernel⟩, List.mem_of_getElem? (i := 353) (by decide +kernel), List.mem_of_getElem? (i := 455) (by decide +kernel), List.mem_of_getElem? (i := 456) (by decide +kernel)⟩
theorem lw_p12 : lw_okq (⟨"ShareKeeper$Promise", "leftOf", "(II)I"⟩, 6) := ⟨⟨by decide +kernel, by decide +kernel⟩, List.mem_of_getElem? (i := 353) (by decide +kernel), List.mem_of_getElem? (i := 463) (by decide +kernel), List.mem_of_getElem? (i := 464) (by decide +kernel)⟩
theorem lw_p13 : lw_okq (⟨"ShareKeeper$Parts", "mostMeeting", "(IIZ)I"⟩, 2) := ⟨⟨by decide +kernel, by decide +kernel⟩, List.mem_of_getElem? (i := 61) (by decide +kernel), List.mem_of_getElem? (i := 497) (by decide +kernel), List.mem_of_getElem? (i := 498) (by decide +kernel)⟩
theorem lw_p14 : lw_okq (⟨"ShareKeeper$Parts", "canMeet", "(IIIZ)Z"⟩, 2) := ⟨⟨by decide +kernel, by decide +kernel⟩, List.mem_of_getElem? (i := 61) (by decide +kernel), List.mem_of_getElem? (i := 502) (by decide +kernel), List.mem_of_getElem? (i := 503) (by decide +kernel)⟩
theorem lw_p15 : lw_okq (⟨"ShareKeeper", "alarmAt", "(I)LShareKeeper$Alarm;"⟩, 11) := ⟨⟨by decide +kernel, by decide +kernel⟩, List.mem_of_getElem? (i := 27) (by decide +kernel), List.mem_of_getElem? (i := 543) (by decide +kernel), List.mem_of_getElem? (i := 544) (by decide +kernel)⟩
def lw_privs_1 : List (MethodName × Nat) := [(⟨"java/util/ArrayList", "add", "(Ljava/lang/Object;[Ljava/lang/Object;I)V"⟩, 3), (⟨"java/util/ArrayList", "grow", "()[Ljava/lang/Object;"⟩, 3), (⟨"java/util/ArrayList", "grow", "(I)[Ljava/lang/Object;"⟩, 3), (⟨"ShareKeeper", "serviceAt", "(I)LShareKeeper$Service;"⟩, 11), (⟨"ShareKeeper", "sourceAt", "(I)LShareKeeper$Source;"⟩, 11), (⟨"ShareKeeper$Source", "isOpen", "(II)Z"⟩, 5), (⟨"ShareKeeper", "promiseAt", "(I)LShareKeeper$Promise;"⟩, 11), (⟨"ShareKeeper$Promise", "firstOfSpan", "(I)I"⟩, 6), (⟨"ShareKeeper$Promise", "lastOfSpan", "(I)I"⟩, 6), (⟨"ShareKeeper$Promise", "asksAt", "(I)I"⟩, 6), (⟨"ShareKeeper$Promise", "isIn", "(I)Z"⟩, 6), (⟨"ShareKeeper$Promise", "badAt", "(I)I"⟩, 6), (⟨"ShareKeeper$Promise", "leftOf", "(II)I"⟩, 6), (⟨"ShareKeeper$Parts", "mostMeeting", "(IIZ)I"⟩, 2), (⟨"ShareKeeper$Parts", "canMeet", "(IIIZ)Z"⟩, 2), (⟨"ShareKeeper", "alarmAt", "(I)LShareKeeper$Alarm;"⟩, 11)]
theorem lw_r1 : ∀ q ∈ lw_privs_1, lw_okq q := List.forall_mem_cons.mpr ⟨lw_p0, List.forall_mem_cons.mpr ⟨lw_p1, List.forall_mem_cons.mpr ⟨lw_p2, List.forall_mem_cons.mpr ⟨lw_p3, List.forall_mem_cons.mpr ⟨lw_p4, List.forall_mem_cons.mpr ⟨lw_p5, List.forall_mem_cons.mpr ⟨lw_p6, List.forall_mem_cons.mpr ⟨lw_p7, List.forall_mem_cons.mpr ⟨lw_p8, List.forall_mem_cons.mpr ⟨lw_p9, List.forall_mem_cons.mpr ⟨lw_p10, List.forall_mem_cons.mpr ⟨lw_p11, List.forall_mem_cons.mpr ⟨lw_p12, List.forall_mem_cons.mpr ⟨lw_p13, List.forall_mem_cons.mpr ⟨lw_p14, List.forall_mem_cons.mpr ⟨lw_p15, fun _ h => absurd h List.not_mem_nil⟩⟩⟩⟩⟩⟩⟩⟩⟩⟩⟩⟩⟩⟩⟩⟩
theorem lw_p16 : lw_okq (⟨"ShareKeeper$Alarm", "isOver", "(LShareKeeper$History;II)Z"⟩, 4) := ⟨⟨by decide +kernel, by decide +kernel⟩, List.mem_of_getElem? (i := 519) (by decide +kernel), List.mem_of_getElem? (i := 551) (by decide +kernel), List.mem_of_getElem? (i := 552) (by decide +kernel)⟩
theorem lw_p17 : lw_okq (⟨"ShareKeeper$AlarmSearch", "noteHistory", "(LShareKeeper$SteadyHistory;II)V"⟩, 5) := ⟨⟨by decide +kernel, by decide +kernel⟩, List.mem_of_getElem? (i := 112) (by decide +kernel), List.mem_of_getElem? (i := 618) (by decide +kernel), List.mem_of_getElem? (i := 619) (by decide +kernel)⟩
theorem lw_p18 : lw_okq (⟨"ShareKeeper$AlarmSearch", "measure", "(LShareKeeper$History;II)Z"⟩, 5) := ⟨⟨by decide +kernel, by decide +kernel⟩, List.mem_of_getElem? (i := 112) (by decide +kernel), List.mem_of_getElem? (i := 624) (by decide +kernel), List.mem_of_getElem? (i := 625) (by decide +kernel)⟩
theorem lw_p19 : lw_okq (⟨"ShareKeeper$AlarmSearch", "noteReached", "()V"⟩, 5) := ⟨⟨by decide +kernel, by decide +kernel⟩, List.mem_of_getElem? (i := 112) (by decide +kernel), List.mem_of_getElem? (i := 640) (by decide +kernel), List.mem_of_getElem? (i := 641) (by decide +kernel)⟩
theorem lw_p20 : lw_okq (⟨"ShareKeeper$AlarmSearch", "noteRings", "()V"⟩, 5) := ⟨⟨by decide +kernel, by decide +kernel⟩, List.mem_of_getElem? (i := 112) (by decide +kernel), List.mem_of_getElem? (i := 648) (by decide +kernel), List.mem_of_getElem? (i := 649) (by decide +kernel)⟩
theorem lw_p21 : lw_okq (⟨"ShareKeeper$AlarmSearch", "choose", "()I"⟩, 5) := ⟨⟨by decide +kernel, by decide +kernel⟩, List.mem_of_getElem? (i := 112) (by decide +kernel), List.mem_of_getElem? (i := 652) (by decide +kernel), List.mem_of_getElem? (i := 653) (by decide +kernel)⟩
theorem lw_p22 : lw_okq (⟨"ShareKeeper$AlarmSearch", "chooseRate", "(I)V"⟩, 5) := ⟨⟨by decide +kernel, by decide +kernel⟩, List.mem_of_getElem? (i := 112) (by decide +kernel), List.mem_of_getElem? (i := 656) (by decide +kernel), List.mem_of_getElem? (i := 657) (by decide +kernel)⟩
theorem lw_p23 : lw_okq (⟨"ShareKeeper", "changeAt", "(I)LShareKeeper$Change;"⟩, 11) := ⟨⟨by decide +kernel, by decide +kernel⟩, List.mem_of_getElem? (i := 27) (by decide +kernel), List.mem_of_getElem? (i := 695) (by decide +kernel), List.mem_of_getElem? (i := 696) (by decide +kernel)⟩
theorem lw_p24 : lw_okq (⟨"ShareKeeper", "roomOf", "(I)I"⟩, 11) := ⟨⟨by decide +kernel, by decide +kernel⟩, List.mem_of_getElem? (i := 27) (by decide +kernel), List.mem_of_getElem? (i := 699) (by decide +kernel), List.mem_of_getElem? (i := 700) (by decide +kernel)⟩
theorem lw_p25 : lw_okq (⟨"ShareKeeper$Promise", "toCome", "(II)I"⟩, 6) := ⟨⟨by decide +kernel, by decide +kernel⟩, List.mem_of_getElem? (i := 353) (by decide +kernel), List.mem_of_getElem? (i := 707) (by decide +kernel), List.mem_of_getElem? (i := 708) (by decide +kernel)⟩
theorem lw_p26 : lw_okq (⟨"ShareKeeper$Planner", "addUpWorths", "()V"⟩, 10) := ⟨⟨by decide +kernel, by decide +kernel⟩, List.mem_of_getElem? (i := 75) (by decide +kernel), List.mem_of_getElem? (i := 740) (by decide +kernel), List.mem_of_getElem? (i := 741) (by decide +kernel)⟩
theorem lw_p27 : lw_okq (⟨"ShareKeeper$Planner", "explore", "(IIII)V"⟩, 10) := ⟨⟨by decide +kernel, by decide +kernel⟩, List.mem_of_getElem? (i := 75) (by decide +kernel), List.mem_of_getElem? (i := 744) (by decide +kernel), List.mem_of_getElem? (i := 745) (by decide +kernel)⟩
theorem lw_p28 : lw_okq (⟨"ShareKeeper$Planner", "isBetter", "(II)Z"⟩, 10) := ⟨⟨by decide +kernel, by decide +kernel⟩, List.mem_of_getElem? (i := 75) (by decide +kernel), List.mem_of_getElem? (i := 754) (by decide +kernel), List.mem_of_getElem? (i := 755) (by decide +kernel)⟩
theorem lw_p29 : lw_okq (⟨"ShareKeeper$Planner", "branch", "(IIII)V"⟩, 10) := ⟨⟨by decide +kernel, by decide +kernel⟩, List.mem_of_getElem? (i := 75) (by decide +kernel), List.mem_of_getElem? (i := 758) (by decide +kernel), List.mem_of_getElem? (i := 759) (by decide +kernel)⟩
theorem lw_p30 : lw_okq (⟨"ShareKeeper$Planner", "keepBest", "()V"⟩, 10) := ⟨⟨by decide +kernel, by decide +kernel⟩, List.mem_of_getElem? (i := 75) (by decide +kernel), List.mem_of_getElem? (i := 762) (by decide +kernel), List.mem_of_getElem? (i := 763) (by decide +kernel)⟩
theorem lw_p31 : lw_okq (⟨"java/lang/Throwable", "fillInStackTrace", "(I)Ljava/lang/Throwable;"⟩, 6) := ⟨⟨by decide +kernel, by decide +kernel⟩, List.mem_of_getElem? (i := 826) (by decide +kernel), List.mem_of_getElem? (i := 824) (by decide +kernel), List.mem_of_getElem? (i := 825) (by decide +kernel)⟩
def lw_privs_2 : List (MethodName × Nat) := [(⟨"ShareKeeper$Alarm", "isOver", "(LShareKeeper$History;II)Z"⟩, 4), (⟨"ShareKeeper$AlarmSearch", "noteHistory", "(LShareKeeper$SteadyHistory;II)V"⟩, 5), (⟨"ShareKeeper$AlarmSearch", "measure", "(LShareKeeper$History;II)Z"⟩, 5), (⟨"ShareKeeper$AlarmSearch", "noteReached", "()V"⟩, 5), (⟨"ShareKeeper$AlarmSearch", "noteRings", "()V"⟩, 5), (⟨"ShareKeeper$AlarmSearch", "choose", "()I"⟩, 5), (⟨"ShareKeeper$AlarmSearch", "chooseRate", "(I)V"⟩, 5), (⟨"ShareKeeper", "changeAt", "(I)LShareKeeper$Change;"⟩, 11), (⟨"ShareKeeper", "roomOf", "(I)I"⟩, 11), (⟨"ShareKeeper$Promise", "toCome", "(II)I"⟩, 6), (⟨"ShareKeeper$Planner", "addUpWorths", "()V"⟩, 10), (⟨"ShareKeeper$Planner", "explore", "(IIII)V"⟩, 10), (⟨"ShareKeeper$Planner", "isBetter", "(II)Z"⟩, 10), (⟨"ShareKeeper$Planner", "branch", "(IIII)V"⟩, 10), (⟨"ShareKeeper$Planner", "keepBest", "()V"⟩, 10), (⟨"java/lang/Throwable", "fillInStackTrace", "(I)Ljava/lang/Throwable;"⟩, 6)]
theorem lw_r2 : ∀ q ∈ lw_privs_2, lw_okq q := List.forall_mem_cons.mpr ⟨lw_p16, List.forall_mem_cons.mpr ⟨lw_p17, List.forall_mem_cons.mpr ⟨lw_p18, List.forall_mem_cons.mpr ⟨lw_p19, List.forall_mem_cons.mpr ⟨lw_p20, List.forall_mem_cons.mpr ⟨lw_p21, List.forall_mem_cons.mpr ⟨lw_p22, List.forall_mem_cons.mpr ⟨lw_p23, List.forall_mem_cons.mpr ⟨lw_p24, List.forall_mem_cons.mpr ⟨lw_p25, List.forall_mem_cons.mpr ⟨lw_p26, List.forall_mem_cons.mpr ⟨lw_p27, List.forall_mem_cons.mpr ⟨lw_p28, List.forall_mem_cons.mpr ⟨lw_p29, List.forall_mem_cons.mpr ⟨lw_p30, List.forall_mem_cons.mpr ⟨lw_p31, fun _ h => absurd h List.not_mem_nil⟩⟩⟩⟩⟩⟩⟩⟩⟩⟩⟩⟩⟩⟩⟩⟩
theorem lw_p32 : lw_okq (⟨"ShareKeeperModel", "isService", "(I)Z"⟩, 42) := ⟨⟨by decide +kernel, by decide +kernel⟩, List.mem_of_getElem? (i := 884) (by decide +kernel), List.mem_of_getElem? (i := 1030) (by decide +kernel), List.mem_of_getElem? (i := 1031) (by decide +kernel)⟩
theorem lw_p33 : lw_okq (⟨"ShareKeeperModel", "sums", "(III)V"⟩, 42) := ⟨⟨by decide +kernel, by decide +kernel⟩, List.mem_of_getElem? (i := 884) (by decide +kernel), List.mem_of_getElem? (i := 1046) (by decide +kernel), List.mem_of_getElem? (i := 1047) (by decide +kernel)⟩
theorem lw_p34 : lw_okq (⟨"ShareKeeperModel", "addTick", "(II)V"⟩, 42) := ⟨⟨by decide +kernel, by decide +kernel⟩, List.mem_of_getElem? (i := 884) (by decide +kernel), List.mem_of_getElem? (i := 1050) (by decide +kernel), List.mem_of_getElem? (i := 1051) (by decide +kernel)⟩
theorem lw_p35 : lw_okq (⟨"ShareKeeperModel", "isPromise", "(I)Z"⟩, 42) := ⟨⟨by decide +kernel, by decide +kernel⟩, List.mem_of_getElem? (i := 884) (by decide +kernel), List.mem_of_getElem? (i := 1062) (by decide +kernel), List.mem_of_getElem? (i := 1063) (by decide +kernel)⟩
theorem lw_p36 : lw_okq (⟨"ShareKeeperModel", "spans", "(II)V"⟩, 42) := ⟨⟨by decide +kernel, by decide +kernel⟩, List.mem_of_getElem? (i := 884) (by decide +kernel), List.mem_of_getElem? (i := 1070) (by decide +kernel), List.mem_of_getElem? (i := 1071) (by decide +kernel)⟩
theorem lw_p37 : lw_okq (⟨"ShareKeeperModel", "isGrace", "(II)Z"⟩, 42) := ⟨⟨by decide +kernel, by decide +kernel⟩, List.mem_of_getElem? (i := 884) (by decide +kernel), List.mem_of_getElem? (i := 1074) (by decide +kernel), List.mem_of_getElem? (i := 1075) (by decide +kernel)⟩
theorem lw_p38 : lw_okq (⟨"ShareKeeperModel", "leftOf", "(IJJ)J"⟩, 42) := ⟨⟨by decide +kernel, by decide +kernel⟩, List.mem_of_getElem? (i := 884) (by decide +kernel), List.mem_of_getElem? (i := 1078) (by decide +kernel), List.mem_of_getElem? (i := 1079) (by decide +kernel)⟩
theorem lw_p39 : lw_okq (⟨"ShareKeeperModel", "least", "(I)J"⟩, 42) := ⟨⟨by decide +kernel, by decide +kernel⟩, List.mem_of_getElem? (i := 884) (by decide +kernel), List.mem_of_getElem? (i := 1083) (by decide +kernel), List.mem_of_getElem? (i := 1084) (by decide +kernel)⟩
theorem lw_p40 : lw_okq (⟨"ShareKeeperModel", "greatest", "(I)J"⟩, 42) := ⟨⟨by decide +kernel, by decide +kernel⟩, List.mem_of_getElem? (i := 884) (by decide +kernel), List.mem_of_getElem? (i := 1087) (by decide +kernel), List.mem_of_getElem? (i := 1088) (by decide +kernel)⟩
theorem lw_p41 : lw_okq (⟨"ShareKeeperModel", "isWhole", "(I)Z"⟩, 42) := ⟨⟨by decide +kernel, by decide +kernel⟩, List.mem_of_getElem? (i := 884) (by decide +kernel), List.mem_of_getElem? (i := 1091) (by decide +kernel), List.mem_of_getElem? (i := 1092) (by decide +kernel)⟩
theorem lw_p42 : lw_okq (⟨"ShareKeeperModel", "settledAt", "(I)I"⟩, 42) := ⟨⟨by decide +kernel, by decide +kernel⟩, List.mem_of_getElem? (i := 884) (by decide +kernel), List.mem_of_getElem? (i := 1095) (by decide +kernel), List.mem_of_getElem? (i := 1096) (by decide +kernel)⟩
theorem lw_p43 : lw_okq (⟨"ShareKeeperModel", "marks", "(IZI)J"⟩, 42) := ⟨⟨by decide +kernel, by decide +kernel⟩, List.mem_of_getElem? (i := 884) (by decide +kernel), List.mem_of_getElem? (i := 1112) (by decide +kernel), List.mem_of_getElem? (i := 1113) (by decide +kernel)⟩
theorem lw_p44 : lw_okq (⟨"ShareKeeperModel", "isAlarm", "(I)Z"⟩, 42) := ⟨⟨by decide +kernel, by decide +kernel⟩, List.mem_of_getElem? (i := 884) (by decide +kernel), List.mem_of_getElem? (i := 1124) (by decide +kernel), List.mem_of_getElem? (i := 1125) (by decide +kernel)⟩
theorem lw_p45 : lw_okq (⟨"ShareKeeperModel", "isWorseIn", "(IIII)Z"⟩, 42) := ⟨⟨by decide +kernel, by decide +kernel⟩, List.mem_of_getElem? (i := 884) (by decide +kernel), List.mem_of_getElem? (i := 1128) (by decide +kernel), List.mem_of_getElem? (i := 1129) (by decide +kernel)⟩
theorem lw_p46 : lw_okq (⟨"ShareKeeperModel", "isWorse", "(IIJJ)Z"⟩, 42) := ⟨⟨by decide +kernel, by decide +kernel⟩, List.mem_of_getElem? (i := 884) (by decide +kernel), List.mem_of_getElem? (i := 1132) (by decide +kernel), List.mem_of_getElem? (i := 1133) (by decide +kernel)⟩
theorem lw_p47 : lw_okq (⟨"ShareKeeperModel", "soonestOf", "(IIIIII)I"⟩, 42) := ⟨⟨by decide +kernel, by decide +kernel⟩, List.mem_of_getElem? (i := 884) (by decide +kernel), List.mem_of_getElem? (i := 1141) (by decide +kernel), List.mem_of_getElem? (i := 1142) (by decide +kernel)⟩
def lw_privs_3 : List (MethodName × Nat) := [(⟨"ShareKeeperModel", "isService", "(I)Z"⟩, 42), (⟨"ShareKeeperModel", "sums", "(III)V"⟩, 42), (⟨"ShareKeeperModel", "addTick", "(II)V"⟩, 42), (⟨"ShareKeeperModel", "isPromise", "(I)Z"⟩, 42), (⟨"ShareKeeperModel", "spans", "(II)V"⟩, 42), (⟨"ShareKeeperModel", "isGrace", "(II)Z"⟩, 42), (⟨"ShareKeeperModel", "leftOf", "(IJJ)J"⟩, 42), (⟨"ShareKeeperModel", "least", "(I)J"⟩, 42), (⟨"ShareKeeperModel", "greatest", "(I)J"⟩, 42), (⟨"ShareKeeperModel", "isWhole", "(I)Z"⟩, 42), (⟨"ShareKeeperModel", "settledAt", "(I)I"⟩, 42), (⟨"ShareKeeperModel", "marks", "(IZI)J"⟩, 42), (⟨"ShareKeeperModel", "isAlarm", "(I)Z"⟩, 42), (⟨"ShareKeeperModel", "isWorseIn", "(IIII)Z"⟩, 42), (⟨"ShareKeeperModel", "isWorse", "(IIJJ)Z"⟩, 42), (⟨"ShareKeeperModel", "soonestOf", "(IIIIII)I"⟩, 42)]
theorem lw_r3 : ∀ q ∈ lw_privs_3, lw_okq q := List.forall_mem_cons.mpr ⟨lw_p32, List.forall_mem_cons.mpr ⟨lw_p33, List.forall_mem_cons.mpr ⟨lw_p34, List.forall_mem_cons.mpr ⟨lw_p35, List.forall_mem_cons.mpr ⟨lw_p36, List.forall_mem_cons.mpr ⟨lw_p37, List.forall_mem_cons.mpr ⟨lw_p38, List.forall_mem_cons.mpr ⟨lw_p39, List.forall_mem_cons.mpr ⟨lw_p40, List.forall_mem_cons.mpr ⟨lw_p41, List.forall_mem_cons.mpr ⟨lw_p42, List.forall_mem_cons.mpr ⟨lw_p43, List.forall_mem_cons.mpr ⟨lw_p44, List.forall_mem_cons.mpr ⟨lw_p45, List.forall_mem_cons.mpr ⟨lw_p46, List.forall_mem_cons.mpr ⟨lw_p47, fun _ h => absurd h List.not_mem_nil⟩⟩⟩⟩⟩⟩⟩⟩⟩⟩⟩⟩⟩⟩⟩⟩
theorem lw_p48 : lw_okq (⟨"ShareKeeperModel", "isSteadyWorse", "(IIIIII)Z"⟩, 42) := ⟨⟨by decide +kernel, by decide +kernel⟩, List.mem_of_getElem? (i := 884) (by decide +kernel), List.mem_of_getElem? (i := 1145) (by decide +kernel), List.mem_of_getElem? (i := 1146) (by decide +kernel)⟩
theorem lw_p49 : lw_okq (⟨"ShareKeeperModel", "sumsTo", "(I)V"⟩, 42) := ⟨⟨by decide +kernel, by decide +kernel⟩, List.mem_of_getElem? (i := 884) (by decide +kernel), List.mem_of_getElem? (i := 1154) (by decide +kernel), List.mem_of_getElem? (i := 1155) (by decide +kernel)⟩
theorem lw_p50 : lw_okq (⟨"ShareKeeperModel", "ringsTill", "(IIII)I"⟩, 42) := ⟨⟨by decide +kernel, by decide +kernel⟩, List.mem_of_getElem? (i := 884) (by decide +kernel), List.mem_of_getElem? (i := 1158) (by decide +kernel), List.mem_of_getElem? (i := 1159) (by decide +kernel)⟩
theorem lw_p51 : lw_okq (⟨"ShareKeeperModel", "isWorseTo", "(IIII)Z"⟩, 42) := ⟨⟨by decide +kernel, by decide +kernel⟩, List.mem_of_getElem? (i := 884) (by decide +kernel), List.mem_of_getElem? (i := 1162) (by decide +kernel), List.mem_of_getElem? (i := 1163) (by decide +kernel)⟩
theorem lw_p52 : lw_okq (⟨"ShareKeeperModel", "isChange", "(I)Z"⟩, 42) := ⟨⟨by decide +kernel, by decide +kernel⟩, List.mem_of_getElem? (i := 884) (by decide +kernel), List.mem_of_getElem? (i := 1175) (by decide +kernel), List.mem_of_getElem? (i := 1176) (by decide +kernel)⟩
theorem lw_p53 : lw_okq (⟨"ShareKeeperModel", "room", "(I)J"⟩, 42) := ⟨⟨by decide +kernel, by decide +kernel⟩, List.mem_of_getElem? (i := 884) (by decide +kernel), List.mem_of_getElem? (i := 1179) (by decide +kernel), List.mem_of_getElem? (i := 1180) (by decide +kernel)⟩
def lw_privs_4 : List (MethodName × Nat) := [(⟨"ShareKeeperModel", "isSteadyWorse", "(IIIIII)Z"⟩, 42), (⟨"ShareKeeperModel", "sumsTo", "(I)V"⟩, 42), (⟨"ShareKeeperModel", "ringsTill", "(IIII)I"⟩, 42), (⟨"ShareKeeperModel", "isWorseTo", "(IIII)Z"⟩, 42), (⟨"ShareKeeperModel", "isChange", "(I)Z"⟩, 42), (⟨"ShareKeeperModel", "room", "(I)J"⟩, 42)]
theorem lw_r4 : ∀ q ∈ lw_privs_4, lw_okq q := List.forall_mem_cons.mpr ⟨lw_p48, List.forall_mem_cons.mpr ⟨lw_p49, List.forall_mem_cons.mpr ⟨lw_p50, List.forall_mem_cons.mpr ⟨lw_p51, List.forall_mem_cons.mpr ⟨lw_p52, List.forall_mem_cons.mpr ⟨lw_p53, fun _ h => absurd h List.not_mem_nil⟩⟩⟩⟩⟩⟩
def lw_privs : List (MethodName × Nat) := lw_privs_1 ++ (lw_privs_2 ++ (lw_privs_3 ++ (lw_privs_4)))
def lw_tbl : List Cond := k2_sels lw_privs ++ tables_1
theorem lw_privs_ok : ∀ q ∈ lw_privs, lw_okq q := by
  show ∀ q ∈ lw_privs_1 ++ (lw_privs_2 ++ (lw_privs_3 ++ (lw_privs_4))), lw_okq q
  exact List.forall_mem_append.mpr ⟨lw_r1, List.forall_mem_append.mpr ⟨lw_r2, List.forall_mem_append.mpr ⟨lw_r3, lw_r4⟩⟩⟩
/-- the words that may be handed on to a callee -/
def xt : List Cond := lw_tbl.filter goodWord
/-- the words of a method: its own code, and all of xt -/
def xW (y : MethodName) (c : ByteArray) (n : Nat) (r : Option FieldType) : List Cond := .code y c n r :: xt
theorem xt_of {w : Cond} (h : w ∈ lw_tbl) (g : goodWord w = true) : w ∈ xt := List.mem_filter.mpr ⟨h, g⟩
theorem xt_lw {w : Cond} (h : w ∈ xt) : w ∈ lw_tbl := (List.mem_filter.mp h).1
theorem xt_good {big : List Cond} (hb : ∀ w ∈ xt, w ∈ big) : GoodIn big xt := fun w hw => ⟨hb w hw, good_of_word (List.mem_filter.mp hw).2⟩
theorem xW_good {y y' : MethodName} {c c' : ByteArray} {n n' : Nat} {r r' : Option FieldType} (h : Cond.code y' c' n' r' ∈ xt) : GoodIn (xW y c n r) (xW y' c' n' r') := by
  intro w hw
  rcases List.mem_cons.mp hw with e | e
  · subst e
    exact ⟨List.mem_cons_of_mem _ h, good_of_word (List.mem_filter.mp h).2⟩
  · exact ⟨List.mem_cons_of_mem _ e, good_of_word (List.mem_filter.mp e).2⟩
end
section
/-! ===== BEGIN printed: names, fields, word lists, decode rows ===== -/
def RX0 : String := "ShareKeeper$Alarm"
def TX0 : u_T := fun k => match k with
  | 0 => ("ShareKeeper$Alarm", "promise", "LShareKeeper$Promise;", true)
  | 1 => ("ShareKeeper$Alarm", "longSpan", "I", true)
  | 2 => ("ShareKeeper$Alarm", "shortSpan", "I", true)
  | _ => ("ShareKeeper$Alarm", "rate", "I", true)
def tyX0 : Nat → FieldType := fun k => match k with
  | 0 => .object "ShareKeeper$Promise"
  | 1 => .int
  | 2 => .int
  | _ => .int
abbrev wsX00 : List Cond := u_ws RX0 TX0 4
theorem nmX0 : ∀ a, a < 4 → ∀ b, b < 4 → a ≠ b → (TX0 a).2.1 ≠ (TX0 b).2.1 := by decide +kernel
theorem tyX0_ok : ∀ k, k < 4 → parseFieldDescriptor (TX0 k).2.2.1 = some (tyX0 k) := by decide +kernel
abbrev cX0_init : ByteArray := prog_2_method_1_code
def yX0_init : MethodName := ⟨RX0, "<init>", "(LShareKeeper$Promise;III)V"⟩
abbrev cX0_ringsIn : ByteArray := prog_2_method_2_code
def yX0_ringsIn : MethodName := ⟨RX0, "ringsIn", "(LShareKeeper$History;I)Z"⟩
abbrev cX0_isOver : ByteArray := prog_2_method_3_code
def yX0_isOver : MethodName := ⟨RX0, "isOver", "(LShareKeeper$History;II)Z"⟩
def RX1 : String := "ShareKeeper$AlarmSearch"
def TX1 : u_T := fun k => match k with
  | 0 => ("ShareKeeper$AlarmSearch", "levels", "[I", true)
  | 1 => ("ShareKeeper$AlarmSearch", "reached", "[I", true)
  | 2 => ("ShareKeeper$AlarmSearch", "ticksAtLevel", "[I", true)
  | 3 => ("ShareKeeper$AlarmSearch", "rateLevel", "I", false)
  | _ => ("ShareKeeper$AlarmSearch", "rateRings", "I", false)
def tyX1 : Nat → FieldType := fun k => match k with
  | 0 => .array .int
  | 1 => .array .int
  | 2 => .array .int
  | 3 => .int
  | _ => .int
abbrev wsX10 : List Cond := u_ws RX1 TX1 5
theorem nmX1 : ∀ a, a < 5 → ∀ b, b < 5 → a ≠ b → (TX1 a).2.1 ≠ (TX1 b).2.1 := by decide +kernel
theorem tyX1_ok : ∀ k, k < 5 → parseFieldDescriptor (TX1 k).2.2.1 = some (tyX1 k) := by decide +kernel
abbrev cX1_init : ByteArray := prog_3_method_1_code
def yX1_init : MethodName := ⟨RX1, "<init>", "()V"⟩
abbrev cX1_find : ByteArray := prog_3_method_2_code
def yX1_find : MethodName := ⟨RX1, "find", "(LShareKeeper$Promise;LShareKeeper$SteadyHistory;II)I"⟩
abbrev cX1_noteHistory : ByteArray := prog_3_method_3_code
def yX1_noteHistory : MethodName := ⟨RX1, "noteHistory", "(LShareKeeper$SteadyHistory;II)V"⟩
abbrev cX1_measure : ByteArray := prog_3_method_4_code
def yX1_measure : MethodName := ⟨RX1, "measure", "(LShareKeeper$History;II)Z"⟩
abbrev cX1_levelOf : ByteArray := prog_3_method_5_code
def yX1_levelOf : MethodName := ⟨RX1, "levelOf", "(JI)I"⟩
abbrev cX1_noteReached : ByteArray := prog_3_method_6_code
def yX1_noteReached : MethodName := ⟨RX1, "noteReached", "()V"⟩
abbrev cX1_noteRings : ByteArray := prog_3_method_7_code
def yX1_noteRings : MethodName := ⟨RX1, "noteRings", "()V"⟩
abbrev cX1_choose : ByteArray := prog_3_method_8_code
def yX1_choose : MethodName := ⟨RX1, "choose", "()I"⟩
abbrev cX1_chooseRate : ByteArray := prog_3_method_9_code
def yX1_chooseRate : MethodName := ⟨RX1, "chooseRate", "(I)V"⟩
abbrev cX1_pairOf : ByteArray := prog_3_method_10_code
def yX1_pairOf : MethodName := ⟨RX1, "pairOf", "(II)I"⟩
def RX2 : String := "ShareKeeper$Change"
def TX2 : u_T := fun k => match k with
  | 0 => ("ShareKeeper$Change", "promise", "I", true)
  | 1 => ("ShareKeeper$Change", "guess", "I", true)
  | 2 => ("ShareKeeper$Change", "worth", "I", true)
  | 3 => ("ShareKeeper$Change", "state", "I", false)
  | _ => ("ShareKeeper$Change", "cost", "I", false)
def tyX2 : Nat → FieldType := fun k => match k with
  | 0 => .int
  | 1 => .int
  | 2 => .int
  | 3 => .int
  | _ => .int
abbrev wsX20 : List Cond := u_ws RX2 TX2 5
theorem nmX2 : ∀ a, a < 5 → ∀ b, b < 5 → a ≠ b → (TX2 a).2.1 ≠ (TX2 b).2.1 := by decide +kernel
theorem tyX2_ok : ∀ k, k < 5 → parseFieldDescriptor (TX2 k).2.2.1 = some (tyX2 k) := by decide +kernel
abbrev cX2_init : ByteArray := prog_4_method_1_code
def yX2_init : MethodName := ⟨RX2, "<init>", "(III)V"⟩
def RX3 : String := "ShareKeeper$History"
def TX3 : u_T := fun k => match k with
  | _ => ("", "", "", false)
def tyX3 : Nat → FieldType := fun k => match k with
  | _ => .int
abbrev wsX30 : List Cond := u_ws RX3 TX3 0
theorem nmX3 : ∀ a, a < 0 → ∀ b, b < 0 → a ≠ b → (TX3 a).2.1 ≠ (TX3 b).2.1 := by decide +kernel
theorem tyX3_ok : ∀ k, k < 0 → parseFieldDescriptor (TX3 k).2.2.1 = some (tyX3 k) := by decide +kernel
def RX4 : String := "ShareKeeper$Parts"
def TX4 : u_T := fun k => match k with
  | 0 => ("ShareKeeper$Parts", "bad", "[I", true)
  | _ => ("ShareKeeper$Parts", "size", "I", false)
def tyX4 : Nat → FieldType := fun k => match k with
  | 0 => .array .int
  | _ => .int
abbrev wsX40 : List Cond := u_ws RX4 TX4 2
theorem nmX4 : ∀ a, a < 2 → ∀ b, b < 2 → a ≠ b → (TX4 a).2.1 ≠ (TX4 b).2.1 := by decide +kernel
theorem tyX4_ok : ∀ k, k < 2 → parseFieldDescriptor (TX4 k).2.2.1 = some (tyX4 k) := by decide +kernel
abbrev cX4_init : ByteArray := prog_6_method_1_code
def yX4_init : MethodName := ⟨RX4, "<init>", "()V"⟩
abbrev cX4_size : ByteArray := prog_6_method_2_code
def yX4_size : MethodName := ⟨RX4, "size", "()I"⟩
abbrev cX4_clear : ByteArray := prog_6_method_3_code
def yX4_clear : MethodName := ⟨RX4, "clear", "()V"⟩
abbrev cX4_add : ByteArray := prog_6_method_4_code
def yX4_add : MethodName := ⟨RX4, "add", "(I)I"⟩
abbrev cX4_fitInto : ByteArray := prog_6_method_5_code
def yX4_fitInto : MethodName := ⟨RX4, "fitInto", "(I)Z"⟩
abbrev cX4_leastBad : ByteArray := prog_6_method_6_code
def yX4_leastBad : MethodName := ⟨RX4, "leastBad", "(II)I"⟩
abbrev cX4_greatestBad : ByteArray := prog_6_method_7_code
def yX4_greatestBad : MethodName := ⟨RX4, "greatestBad", "(II)I"⟩
abbrev cX4_mostMeeting : ByteArray := prog_6_method_8_code
def yX4_mostMeeting : MethodName := ⟨RX4, "mostMeeting", "(IIZ)I"⟩
abbrev cX4_canMeet : ByteArray := prog_6_method_9_code
def yX4_canMeet : MethodName := ⟨RX4, "canMeet", "(IIIZ)Z"⟩
def RX5 : String := "ShareKeeper$Planner"
def TX5 : u_T := fun k => match k with
  | 0 => ("ShareKeeper$Planner", "numbers", "[I", true)
  | 1 => ("ShareKeeper$Planner", "guesses", "[I", true)
  | 2 => ("ShareKeeper$Planner", "worths", "[I", true)
  | 3 => ("ShareKeeper$Planner", "worthFrom", "[I", true)
  | 4 => ("ShareKeeper$Planner", "chosen", "[I", true)
  | 5 => ("ShareKeeper$Planner", "offered", "I", false)
  | 6 => ("ShareKeeper$Planner", "chosenSize", "I", false)
  | 7 => ("ShareKeeper$Planner", "bestMask", "I", false)
  | 8 => ("ShareKeeper$Planner", "bestSize", "I", false)
  | _ => ("ShareKeeper$Planner", "bestWorth", "I", false)
def tyX5 : Nat → FieldType := fun k => match k with
  | 0 => .array .int
  | 1 => .array .int
  | 2 => .array .int
  | 3 => .array .int
  | 4 => .array .int
  | 5 => .int
  | 6 => .int
  | 7 => .int
  | 8 => .int
  | _ => .int
abbrev wsX50 : List Cond := u_ws RX5 TX5 10
theorem nmX5 : ∀ a, a < 10 → ∀ b, b < 10 → a ≠ b → (TX5 a).2.1 ≠ (TX5 b).2.1 := by decide +kernel
theorem tyX5_ok : ∀ k, k < 10 → parseFieldDescriptor (TX5 k).2.2.1 = some (tyX5 k) := by decide +kernel
abbrev cX5_init : ByteArray := prog_7_method_1_code
def yX5_init : MethodName := ⟨RX5, "<init>", "()V"⟩
abbrev cX5_clear : ByteArray := prog_7_method_2_code
def yX5_clear : MethodName := ⟨RX5, "clear", "()V"⟩
abbrev cX5_offer : ByteArray := prog_7_method_3_code
def yX5_offer : MethodName := ⟨RX5, "offer", "(III)V"⟩
abbrev cX5_choose : ByteArray := prog_7_method_4_code
def yX5_choose : MethodName := ⟨RX5, "choose", "(I)I"⟩
abbrev cX5_chosenAt : ByteArray := prog_7_method_5_code
def yX5_chosenAt : MethodName := ⟨RX5, "chosenAt", "(I)I"⟩
abbrev cX5_addUpWorths : ByteArray := prog_7_method_6_code
def yX5_addUpWorths : MethodName := ⟨RX5, "addUpWorths", "()V"⟩
abbrev cX5_explore : ByteArray := prog_7_method_7_code
def yX5_explore : MethodName := ⟨RX5, "explore", "(IIII)V"⟩
abbrev cX5_branch : ByteArray := prog_7_method_8_code
def yX5_branch : MethodName := ⟨RX5, "branch", "(IIII)V"⟩
abbrev cX5_isBetter : ByteArray := prog_7_method_9_code
def yX5_isBetter : MethodName := ⟨RX5, "isBetter", "(II)Z"⟩
abbrev cX5_keepBest : ByteArray := prog_7_method_10_code
def yX5_keepBest : MethodName := ⟨RX5, "keepBest", "()V"⟩
def RX6 : String := "ShareKeeper$Promise"
def TX6 : u_T := fun k => match k with
  | 0 => ("ShareKeeper$Promise", "service", "LShareKeeper$Service;", true)
  | 1 => ("ShareKeeper$Promise", "width", "I", true)
  | 2 => ("ShareKeeper$Promise", "share", "I", true)
  | 3 => ("ShareKeeper$Promise", "fixed", "Z", true)
  | 4 => ("ShareKeeper$Promise", "leftOut", "[Z", true)
  | _ => ("ShareKeeper$Promise", "graceRows", "I", false)
def tyX6 : Nat → FieldType := fun k => match k with
  | 0 => .object "ShareKeeper$Service"
  | 1 => .int
  | 2 => .int
  | 3 => .boolean
  | 4 => .array .boolean
  | _ => .int
abbrev wsX60 : List Cond := u_ws RX6 TX6 6
theorem nmX6 : ∀ a, a < 6 → ∀ b, b < 6 → a ≠ b → (TX6 a).2.1 ≠ (TX6 b).2.1 := by decide +kernel
theorem tyX6_ok : ∀ k, k < 6 → parseFieldDescriptor (TX6 k).2.2.1 = some (tyX6 k) := by decide +kernel
abbrev cX6_init : ByteArray := prog_8_method_1_code
def yX6_init : MethodName := ⟨RX6, "<init>", "(LShareKeeper$Service;IIZ)V"⟩
abbrev cX6_leaveOut : ByteArray := prog_8_method_2_code
def yX6_leaveOut : MethodName := ⟨RX6, "leaveOut", "(II)Z"⟩
abbrev cX6_slack : ByteArray := prog_8_method_3_code
def yX6_slack : MethodName := ⟨RX6, "slack", "()I"⟩
abbrev cX6_asks : ByteArray := prog_8_method_4_code
def yX6_asks : MethodName := ⟨RX6, "asks", "(I)I"⟩
abbrev cX6_bad : ByteArray := prog_8_method_5_code
def yX6_bad : MethodName := ⟨RX6, "bad", "(I)I"⟩
abbrev cX6_left : ByteArray := prog_8_method_6_code
def yX6_left : MethodName := ⟨RX6, "left", "(I)I"⟩
abbrev cX6_leastLeft : ByteArray := prog_8_method_7_code
def yX6_leastLeft : MethodName := ⟨RX6, "leastLeft", "(II)I"⟩
abbrev cX6_mostLeft : ByteArray := prog_8_method_8_code
def yX6_mostLeft : MethodName := ⟨RX6, "mostLeft", "(II)I"⟩
abbrev cX6_verdict : ByteArray := prog_8_method_9_code
def yX6_verdict : MethodName := ⟨RX6, "verdict", "(II)I"⟩
abbrev cX6_settledFrom : ByteArray := prog_8_method_10_code
def yX6_settledFrom : MethodName := ⟨RX6, "settledFrom", "(I)I"⟩
abbrev cX6_firstBroken : ByteArray := prog_8_method_11_code
def yX6_firstBroken : MethodName := ⟨RX6, "firstBroken", "(I)I"⟩
abbrev cX6_firstOfSpan : ByteArray := prog_8_method_12_code
def yX6_firstOfSpan : MethodName := ⟨RX6, "firstOfSpan", "(I)I"⟩
abbrev cX6_lastOfSpan : ByteArray := prog_8_method_13_code
def yX6_lastOfSpan : MethodName := ⟨RX6, "lastOfSpan", "(I)I"⟩
abbrev cX6_isIn : ByteArray := prog_8_method_14_code
def yX6_isIn : MethodName := ⟨RX6, "isIn", "(I)Z"⟩
abbrev cX6_asksAt : ByteArray := prog_8_method_15_code
def yX6_asksAt : MethodName := ⟨RX6, "asksAt", "(I)I"⟩
abbrev cX6_badAt : ByteArray := prog_8_method_16_code
def yX6_badAt : MethodName := ⟨RX6, "badAt", "(I)I"⟩
abbrev cX6_toCome : ByteArray := prog_8_method_17_code
def yX6_toCome : MethodName := ⟨RX6, "toCome", "(II)I"⟩
abbrev cX6_leftOf : ByteArray := prog_8_method_18_code
def yX6_leftOf : MethodName := ⟨RX6, "leftOf", "(II)I"⟩
def RX7 : String := "ShareKeeper$Service"
def TX7 : u_T := fun k => match k with
  | 0 => ("ShareKeeper$Service", "sources", "Ljava/util/List;", true)
  | 1 => ("ShareKeeper$Service", "asks", "[I", true)
  | _ => ("ShareKeeper$Service", "bad", "[I", true)
def tyX7 : Nat → FieldType := fun k => match k with
  | 0 => .object "java/util/List"
  | 1 => .array .int
  | _ => .array .int
abbrev wsX70 : List Cond := u_ws RX7 TX7 3
theorem nmX7 : ∀ a, a < 3 → ∀ b, b < 3 → a ≠ b → (TX7 a).2.1 ≠ (TX7 b).2.1 := by decide +kernel
theorem tyX7_ok : ∀ k, k < 3 → parseFieldDescriptor (TX7 k).2.2.1 = some (tyX7 k) := by decide +kernel
abbrev cX7_init : ByteArray := prog_9_method_1_code
def yX7_init : MethodName := ⟨RX7, "<init>", "()V"⟩
abbrev cX7_add : ByteArray := prog_9_method_2_code
def yX7_add : MethodName := ⟨RX7, "add", "(III)V"⟩
abbrev cX7_asksIn : ByteArray := prog_9_method_3_code
def yX7_asksIn : MethodName := ⟨RX7, "asksIn", "(II)I"⟩
abbrev cX7_badIn : ByteArray := prog_9_method_4_code
def yX7_badIn : MethodName := ⟨RX7, "badIn", "(II)I"⟩
abbrev cX7_asksAt : ByteArray := prog_9_method_5_code
def yX7_asksAt : MethodName := ⟨RX7, "asksAt", "(I)I"⟩
abbrev cX7_badAt : ByteArray := prog_9_method_6_code
def yX7_badAt : MethodName := ⟨RX7, "badAt", "(I)I"⟩
abbrev cX7_toComeIn : ByteArray := prog_9_method_7_code
def yX7_toComeIn : MethodName := ⟨RX7, "toComeIn", "(III)I"⟩
abbrev cX7_toComeAt : ByteArray := prog_9_method_8_code
def yX7_toComeAt : MethodName := ⟨RX7, "toComeAt", "(II)I"⟩
abbrev cX7_latest : ByteArray := prog_9_method_9_code
def yX7_latest : MethodName := ⟨RX7, "latest", "()I"⟩
abbrev cX7_total : ByteArray := prog_9_method_10_code
def yX7_total : MethodName := ⟨RX7, "total", "([III)I"⟩
def RX8 : String := "ShareKeeper$Source"
def TX8 : u_T := fun k => match k with
  | 0 => ("ShareKeeper$Source", "late", "I", true)
  | 1 => ("ShareKeeper$Source", "service", "LShareKeeper$Service;", true)
  | 2 => ("ShareKeeper$Source", "most", "I", true)
  | 3 => ("ShareKeeper$Source", "came", "[I", true)
  | _ => ("ShareKeeper$Source", "taken", "[Z", true)
def tyX8 : Nat → FieldType := fun k => match k with
  | 0 => .int
  | 1 => .object "ShareKeeper$Service"
  | 2 => .int
  | 3 => .array .int
  | _ => .array .boolean
abbrev wsX80 : List Cond := u_ws RX8 TX8 5
theorem nmX8 : ∀ a, a < 5 → ∀ b, b < 5 → a ≠ b → (TX8 a).2.1 ≠ (TX8 b).2.1 := by decide +kernel
theorem tyX8_ok : ∀ k, k < 5 → parseFieldDescriptor (TX8 k).2.2.1 = some (tyX8 k) := by decide +kernel
abbrev cX8_init : ByteArray := prog_10_method_1_code
def yX8_init : MethodName := ⟨RX8, "<init>", "(LShareKeeper$Service;II)V"⟩
abbrev cX8_refusal : ByteArray := prog_10_method_2_code
def yX8_refusal : MethodName := ⟨RX8, "refusal", "(IIII)I"⟩
abbrev cX8_take : ByteArray := prog_10_method_3_code
def yX8_take : MethodName := ⟨RX8, "take", "(IIII)V"⟩
abbrev cX8_toCome : ByteArray := prog_10_method_4_code
def yX8_toCome : MethodName := ⟨RX8, "toCome", "(II)I"⟩
abbrev cX8_isOpen : ByteArray := prog_10_method_5_code
def yX8_isOpen : MethodName := ⟨RX8, "isOpen", "(II)Z"⟩
def RX9 : String := "ShareKeeper$SteadyHistory"
def TX9 : u_T := fun k => match k with
  | 0 => ("ShareKeeper$SteadyHistory", "goodTicks", "I", true)
  | _ => ("ShareKeeper$SteadyHistory", "badEach", "I", true)
def tyX9 : Nat → FieldType := fun k => match k with
  | 0 => .int
  | _ => .int
abbrev wsX90 : List Cond := u_ws RX9 TX9 2
theorem nmX9 : ∀ a, a < 2 → ∀ b, b < 2 → a ≠ b → (TX9 a).2.1 ≠ (TX9 b).2.1 := by decide +kernel
theorem tyX9_ok : ∀ k, k < 2 → parseFieldDescriptor (TX9 k).2.2.1 = some (tyX9 k) := by decide +kernel
abbrev cX9_init : ByteArray := prog_11_method_1_code
def yX9_init : MethodName := ⟨RX9, "<init>", "(II)V"⟩
abbrev cX9_asksIn : ByteArray := prog_11_method_2_code
def yX9_asksIn : MethodName := ⟨RX9, "asksIn", "(II)I"⟩
abbrev cX9_badIn : ByteArray := prog_11_method_3_code
def yX9_badIn : MethodName := ⟨RX9, "badIn", "(II)I"⟩
def RX10 : String := "ShareKeeper"
def TX10 : u_T := fun k => match k with
  | 0 => ("ShareKeeper", "services", "Ljava/util/List;", true)
  | 1 => ("ShareKeeper", "sources", "Ljava/util/List;", true)
  | 2 => ("ShareKeeper", "promises", "Ljava/util/List;", true)
  | 3 => ("ShareKeeper", "alarms", "Ljava/util/List;", true)
  | 4 => ("ShareKeeper", "changes", "Ljava/util/List;", true)
  | 5 => ("ShareKeeper", "parts", "LShareKeeper$Parts;", true)
  | 6 => ("ShareKeeper", "planner", "LShareKeeper$Planner;", true)
  | 7 => ("ShareKeeper", "alarmSearch", "LShareKeeper$AlarmSearch;", true)
  | 8 => ("ShareKeeper", "now", "I", false)
  | 9 => ("ShareKeeper", "countsTaken", "I", false)
  | _ => ("ShareKeeper", "countsAgain", "I", false)
def tyX10 : Nat → FieldType := fun k => match k with
  | 0 => .object "java/util/List"
  | 1 => .object "java/util/List"
  | 2 => .object "java/util/List"
  | 3 => .object "java/util/List"
  | 4 => .object "java/util/List"
  | 5 => .object "ShareKeeper$Parts"
  | 6 => .object "ShareKeeper$Planner"
  | 7 => .object "ShareKeeper$AlarmSearch"
  | 8 => .int
  | 9 => .int
  | _ => .int
abbrev wsX100 : List Cond := u_ws RX10 TX10 11
theorem nmX10 : ∀ a, a < 11 → ∀ b, b < 11 → a ≠ b → (TX10 a).2.1 ≠ (TX10 b).2.1 := by decide +kernel
theorem tyX10_ok : ∀ k, k < 11 → parseFieldDescriptor (TX10 k).2.2.1 = some (tyX10 k) := by decide +kernel
abbrev cX10_init : ByteArray := prog_1_method_1_code
def yX10_init : MethodName := ⟨RX10, "<init>", "()V"⟩
abbrev cX10_service : ByteArray := prog_1_method_2_code
def yX10_service : MethodName := ⟨RX10, "service", "()I"⟩
abbrev cX10_source : ByteArray := prog_1_method_3_code
def yX10_source : MethodName := ⟨RX10, "source", "(III)I"⟩
abbrev cX10_count : ByteArray := prog_1_method_4_code
def yX10_count : MethodName := ⟨RX10, "count", "(IIIII)I"⟩
abbrev cX10_ticks : ByteArray := prog_1_method_5_code
def yX10_ticks : MethodName := ⟨RX10, "ticks", "(I)I"⟩
abbrev cX10_promise : ByteArray := prog_1_method_6_code
def yX10_promise : MethodName := ⟨RX10, "promise", "(IIIZ)I"⟩
abbrev cX10_grace : ByteArray := prog_1_method_7_code
def yX10_grace : MethodName := ⟨RX10, "grace", "(III)Z"⟩
abbrev cX10_sum : ByteArray := prog_1_method_8_code
def yX10_sum : MethodName := ⟨RX10, "sum", "(IIII)I"⟩
abbrev cX10_span : ByteArray := prog_1_method_9_code
def yX10_span : MethodName := ⟨RX10, "span", "(III)I"⟩
abbrev cX10_broken : ByteArray := prog_1_method_10_code
def yX10_broken : MethodName := ⟨RX10, "broken", "(II)I"⟩
abbrev cX10_part : ByteArray := prog_1_method_11_code
def yX10_part : MethodName := ⟨RX10, "part", "(I)I"⟩
abbrev cX10_made : ByteArray := prog_1_method_12_code
def yX10_made : MethodName := ⟨RX10, "made", "(III)I"⟩
abbrev cX10_alarm : ByteArray := prog_1_method_13_code
def yX10_alarm : MethodName := ⟨RX10, "alarm", "(IIII)I"⟩
abbrev cX10_rings : ByteArray := prog_1_method_14_code
def yX10_rings : MethodName := ⟨RX10, "rings", "(II)I"⟩
abbrev cX10_soonest : ByteArray := prog_1_method_15_code
def yX10_soonest : MethodName := ⟨RX10, "soonest", "(IIII)I"⟩
abbrev cX10_best : ByteArray := prog_1_method_16_code
def yX10_best : MethodName := ⟨RX10, "best", "(IIII)I"⟩
abbrev cX10_change : ByteArray := prog_1_method_17_code
def yX10_change : MethodName := ⟨RX10, "change", "(III)I"⟩
abbrev cX10_let : ByteArray := prog_1_method_18_code
def yX10_let : MethodName := ⟨RX10, "let", "(I)Z"⟩
abbrev cX10_settle : ByteArray := prog_1_method_19_code
def yX10_settle : MethodName := ⟨RX10, "settle", "(II)Z"⟩
abbrev cX10_plan : ByteArray := prog_1_method_20_code
def yX10_plan : MethodName := ⟨RX10, "plan", "(I)I"⟩
abbrev cX10_planned : ByteArray := prog_1_method_21_code
def yX10_planned : MethodName := ⟨RX10, "planned", "(I)I"⟩
abbrev cX10_look : ByteArray := prog_1_method_22_code
def yX10_look : MethodName := ⟨RX10, "look", "(II)I"⟩
abbrev cX10_desk : ByteArray := prog_1_method_23_code
def yX10_desk : MethodName := ⟨RX10, "desk", "(I)I"⟩
abbrev cX10_within : ByteArray := prog_1_method_24_code
def yX10_within : MethodName := ⟨RX10, "within", "(III)Z"⟩
abbrev cX10_isSteady : ByteArray := prog_1_method_25_code
def yX10_isSteady : MethodName := ⟨RX10, "isSteady", "(II)Z"⟩
abbrev cX10_serviceAt : ByteArray := prog_1_method_26_code
def yX10_serviceAt : MethodName := ⟨RX10, "serviceAt", "(I)LShareKeeper$Service;"⟩
abbrev cX10_sourceAt : ByteArray := prog_1_method_27_code
def yX10_sourceAt : MethodName := ⟨RX10, "sourceAt", "(I)LShareKeeper$Source;"⟩
abbrev cX10_promiseAt : ByteArray := prog_1_method_28_code
def yX10_promiseAt : MethodName := ⟨RX10, "promiseAt", "(I)LShareKeeper$Promise;"⟩
abbrev cX10_alarmAt : ByteArray := prog_1_method_29_code
def yX10_alarmAt : MethodName := ⟨RX10, "alarmAt", "(I)LShareKeeper$Alarm;"⟩
abbrev cX10_changeAt : ByteArray := prog_1_method_30_code
def yX10_changeAt : MethodName := ⟨RX10, "changeAt", "(I)LShareKeeper$Change;"⟩
abbrev cX10_roomOf : ByteArray := prog_1_method_31_code
def yX10_roomOf : MethodName := ⟨RX10, "roomOf", "(I)I"⟩
def RX11 : String := "ShareKeeperModel"
def TX11 : u_T := fun k => match k with
  | 0 => ("ShareKeeperModel", "thrown", "I", false)
  | 1 => ("ShareKeeperModel", "services", "I", false)
  | 2 => ("ShareKeeperModel", "sources", "I", false)
  | 3 => ("ShareKeeperModel", "serviceOf", "[I", true)
  | 4 => ("ShareKeeperModel", "late", "[I", true)
  | 5 => ("ShareKeeperModel", "most", "[I", true)
  | 6 => ("ShareKeeperModel", "asks", "[I", true)
  | 7 => ("ShareKeeperModel", "bads", "[I", true)
  | 8 => ("ShareKeeperModel", "isTaken", "[Z", true)
  | 9 => ("ShareKeeperModel", "now", "I", false)
  | 10 => ("ShareKeeperModel", "taken", "I", false)
  | 11 => ("ShareKeeperModel", "again", "I", false)
  | 12 => ("ShareKeeperModel", "sumAsks", "J", false)
  | 13 => ("ShareKeeperModel", "sumBads", "J", false)
  | 14 => ("ShareKeeperModel", "sumOpen", "J", false)
  | 15 => ("ShareKeeperModel", "promises", "I", false)
  | 16 => ("ShareKeeperModel", "about", "[I", true)
  | 17 => ("ShareKeeperModel", "wide", "[I", true)
  | 18 => ("ShareKeeperModel", "share", "[I", true)
  | 19 => ("ShareKeeperModel", "isFixed", "[Z", true)
  | 20 => ("ShareKeeperModel", "graces", "[I", true)
  | 21 => ("ShareKeeperModel", "graceLow", "[I", true)
  | 22 => ("ShareKeeperModel", "graceHigh", "[I", true)
  | 23 => ("ShareKeeperModel", "lastOf", "I", false)
  | 24 => ("ShareKeeperModel", "parts", "I", false)
  | 25 => ("ShareKeeperModel", "part", "[I", true)
  | 26 => ("ShareKeeperModel", "alarms", "I", false)
  | 27 => ("ShareKeeperModel", "alarmOf", "[I", true)
  | 28 => ("ShareKeeperModel", "alarmA", "[I", true)
  | 29 => ("ShareKeeperModel", "alarmB", "[I", true)
  | 30 => ("ShareKeeperModel", "alarmR", "[I", true)
  | 31 => ("ShareKeeperModel", "allTo", "[J", true)
  | 32 => ("ShareKeeperModel", "badTo", "[J", true)
  | 33 => ("ShareKeeperModel", "changes", "I", false)
  | 34 => ("ShareKeeperModel", "changeOf", "[I", true)
  | 35 => ("ShareKeeperModel", "guess", "[I", true)
  | 36 => ("ShareKeeperModel", "worth", "[I", true)
  | 37 => ("ShareKeeperModel", "state", "[I", true)
  | 38 => ("ShareKeeperModel", "cost", "[I", true)
  | 39 => ("ShareKeeperModel", "plans", "I", false)
  | 40 => ("ShareKeeperModel", "planned", "[I", true)
  | _ => ("ShareKeeperModel", "choice", "[I", true)
def tyX11 : Nat → FieldType := fun k => match k with
  | 0 => .int
  | 1 => .int
  | 2 => .int
  | 3 => .array .int
  | 4 => .array .int
  | 5 => .array .int
  | 6 => .array .int
  | 7 => .array .int
  | 8 => .array .boolean
  | 9 => .int
  | 10 => .int
  | 11 => .int
  | 12 => .long
  | 13 => .long
  | 14 => .long
  | 15 => .int
  | 16 => .array .int
  | 17 => .array .int
  | 18 => .array .int
  | 19 => .array .boolean
  | 20 => .array .int
  | 21 => .array .int
  | 22 => .array .int
  | 23 => .int
  | 24 => .int
  | 25 => .array .int
  | 26 => .int
  | 27 => .array .int
  | 28 => .array .int
  | 29 => .array .int
  | 30 => .array .int
  | 31 => .array .long
  | 32 => .array .long
  | 33 => .int
  | 34 => .array .int
  | 35 => .array .int
  | 36 => .array .int
  | 37 => .array .int
  | 38 => .array .int
  | 39 => .int
  | 40 => .array .int
  | _ => .array .int
abbrev wsX110 : List Cond := u_ws RX11 TX11 42
theorem nmX11 : ∀ a, a < 42 → ∀ b, b < 42 → a ≠ b → (TX11 a).2.1 ≠ (TX11 b).2.1 := by decide +kernel
theorem tyX11_ok : ∀ k, k < 42 → parseFieldDescriptor (TX11 k).2.2.1 = some (tyX11 k) := by decide +kernel
abbrev cX11_init : ByteArray := prog_13_method_1_code
def yX11_init : MethodName := ⟨RX11, "<init>", "()V"⟩
abbrev cX11_thrown : ByteArray := prog_13_method_2_code
def yX11_thrown : MethodName := ⟨RX11, "thrown", "()I"⟩
abbrev cX11_service : ByteArray := prog_13_method_3_code
def yX11_service : MethodName := ⟨RX11, "service", "()I"⟩
abbrev cX11_isService : ByteArray := prog_13_method_4_code
def yX11_isService : MethodName := ⟨RX11, "isService", "(I)Z"⟩
abbrev cX11_source : ByteArray := prog_13_method_5_code
def yX11_source : MethodName := ⟨RX11, "source", "(III)I"⟩
abbrev cX11_count : ByteArray := prog_13_method_6_code
def yX11_count : MethodName := ⟨RX11, "count", "(IIIII)I"⟩
abbrev cX11_ticks : ByteArray := prog_13_method_7_code
def yX11_ticks : MethodName := ⟨RX11, "ticks", "(I)I"⟩
abbrev cX11_addTick : ByteArray := prog_13_method_8_code
def yX11_addTick : MethodName := ⟨RX11, "addTick", "(II)V"⟩
abbrev cX11_sums : ByteArray := prog_13_method_9_code
def yX11_sums : MethodName := ⟨RX11, "sums", "(III)V"⟩
abbrev cX11_sum : ByteArray := prog_13_method_10_code
def yX11_sum : MethodName := ⟨RX11, "sum", "(IIII)I"⟩
abbrev cX11_promise : ByteArray := prog_13_method_11_code
def yX11_promise : MethodName := ⟨RX11, "promise", "(IIIZ)I"⟩
abbrev cX11_isPromise : ByteArray := prog_13_method_12_code
def yX11_isPromise : MethodName := ⟨RX11, "isPromise", "(I)Z"⟩
abbrev cX11_grace : ByteArray := prog_13_method_13_code
def yX11_grace : MethodName := ⟨RX11, "grace", "(III)Z"⟩
abbrev cX11_isGrace : ByteArray := prog_13_method_14_code
def yX11_isGrace : MethodName := ⟨RX11, "isGrace", "(II)Z"⟩
abbrev cX11_spans : ByteArray := prog_13_method_15_code
def yX11_spans : MethodName := ⟨RX11, "spans", "(II)V"⟩
abbrev cX11_leftOf : ByteArray := prog_13_method_16_code
def yX11_leftOf : MethodName := ⟨RX11, "leftOf", "(IJJ)J"⟩
abbrev cX11_least : ByteArray := prog_13_method_17_code
def yX11_least : MethodName := ⟨RX11, "least", "(I)J"⟩
abbrev cX11_greatest : ByteArray := prog_13_method_18_code
def yX11_greatest : MethodName := ⟨RX11, "greatest", "(I)J"⟩
abbrev cX11_isWhole : ByteArray := prog_13_method_19_code
def yX11_isWhole : MethodName := ⟨RX11, "isWhole", "(I)Z"⟩
abbrev cX11_settledAt : ByteArray := prog_13_method_20_code
def yX11_settledAt : MethodName := ⟨RX11, "settledAt", "(I)I"⟩
abbrev cX11_span : ByteArray := prog_13_method_21_code
def yX11_span : MethodName := ⟨RX11, "span", "(III)I"⟩
abbrev cX11_broken : ByteArray := prog_13_method_22_code
def yX11_broken : MethodName := ⟨RX11, "broken", "(II)I"⟩
abbrev cX11_part : ByteArray := prog_13_method_23_code
def yX11_part : MethodName := ⟨RX11, "part", "(I)I"⟩
abbrev cX11_marks : ByteArray := prog_13_method_24_code
def yX11_marks : MethodName := ⟨RX11, "marks", "(IZI)J"⟩
abbrev cX11_made : ByteArray := prog_13_method_25_code
def yX11_made : MethodName := ⟨RX11, "made", "(III)I"⟩
abbrev cX11_alarm : ByteArray := prog_13_method_26_code
def yX11_alarm : MethodName := ⟨RX11, "alarm", "(IIII)I"⟩
abbrev cX11_isAlarm : ByteArray := prog_13_method_27_code
def yX11_isAlarm : MethodName := ⟨RX11, "isAlarm", "(I)Z"⟩
abbrev cX11_isWorse : ByteArray := prog_13_method_28_code
def yX11_isWorse : MethodName := ⟨RX11, "isWorse", "(IIJJ)Z"⟩
abbrev cX11_isWorseIn : ByteArray := prog_13_method_29_code
def yX11_isWorseIn : MethodName := ⟨RX11, "isWorseIn", "(IIII)Z"⟩
abbrev cX11_rings : ByteArray := prog_13_method_30_code
def yX11_rings : MethodName := ⟨RX11, "rings", "(II)I"⟩
abbrev cX11_isSteadyWorse : ByteArray := prog_13_method_31_code
def yX11_isSteadyWorse : MethodName := ⟨RX11, "isSteadyWorse", "(IIIIII)Z"⟩
abbrev cX11_soonestOf : ByteArray := prog_13_method_32_code
def yX11_soonestOf : MethodName := ⟨RX11, "soonestOf", "(IIIIII)I"⟩
abbrev cX11_soonest : ByteArray := prog_13_method_33_code
def yX11_soonest : MethodName := ⟨RX11, "soonest", "(IIII)I"⟩
abbrev cX11_sumsTo : ByteArray := prog_13_method_34_code
def yX11_sumsTo : MethodName := ⟨RX11, "sumsTo", "(I)V"⟩
abbrev cX11_isWorseTo : ByteArray := prog_13_method_35_code
def yX11_isWorseTo : MethodName := ⟨RX11, "isWorseTo", "(IIII)Z"⟩
abbrev cX11_ringsTill : ByteArray := prog_13_method_36_code
def yX11_ringsTill : MethodName := ⟨RX11, "ringsTill", "(IIII)I"⟩
abbrev cX11_best : ByteArray := prog_13_method_37_code
def yX11_best : MethodName := ⟨RX11, "best", "(IIII)I"⟩
abbrev cX11_change : ByteArray := prog_13_method_38_code
def yX11_change : MethodName := ⟨RX11, "change", "(III)I"⟩
abbrev cX11_isChange : ByteArray := prog_13_method_39_code
def yX11_isChange : MethodName := ⟨RX11, "isChange", "(I)Z"⟩
abbrev cX11_room : ByteArray := prog_13_method_40_code
def yX11_room : MethodName := ⟨RX11, "room", "(I)J"⟩
abbrev cX11_let : ByteArray := prog_13_method_41_code
def yX11_let : MethodName := ⟨RX11, "let", "(I)Z"⟩
abbrev cX11_settle : ByteArray := prog_13_method_42_code
def yX11_settle : MethodName := ⟨RX11, "settle", "(II)Z"⟩
abbrev cX11_plan : ByteArray := prog_13_method_43_code
def yX11_plan : MethodName := ⟨RX11, "plan", "(I)I"⟩
abbrev cX11_planned : ByteArray := prog_13_method_44_code
def yX11_planned : MethodName := ⟨RX11, "planned", "(I)I"⟩
abbrev cX11_look : ByteArray := prog_13_method_45_code
def yX11_look : MethodName := ⟨RX11, "look", "(II)I"⟩
abbrev cX11_desk : ByteArray := prog_13_method_46_code
def yX11_desk : MethodName := ⟨RX11, "desk", "(I)I"⟩
def RJx145de : String := "java/io/Serializable"
def TJx145de : u_T := fun k => match k with
  | _ => ("", "", "", false)
def tyJx145de : Nat → FieldType := fun k => match k with
  | _ => .int
abbrev wsJx145de0 : List Cond := u_ws RJx145de TJx145de 0
theorem nmJx145de : ∀ a, a < 0 → ∀ b, b < 0 → a ≠ b → (TJx145de a).2.1 ≠ (TJx145de b).2.1 := by decide +kernel
theorem tyJx145de_ok : ∀ k, k < 0 → parseFieldDescriptor (TJx145de k).2.2.1 = some (tyJx145de k) := by decide +kernel
def RJx8e188 : String := "java/lang/Cloneable"
def TJx8e188 : u_T := fun k => match k with
  | _ => ("", "", "", false)
def tyJx8e188 : Nat → FieldType := fun k => match k with
  | _ => .int
abbrev wsJx8e1880 : List Cond := u_ws RJx8e188 TJx8e188 0
theorem nmJx8e188 : ∀ a, a < 0 → ∀ b, b < 0 → a ≠ b → (TJx8e188 a).2.1 ≠ (TJx8e188 b).2.1 := by decide +kernel
theorem tyJx8e188_ok : ∀ k, k < 0 → parseFieldDescriptor (TJx8e188 k).2.2.1 = some (tyJx8e188 k) := by decide +kernel
def RJ6 : String := "java/lang/Integer"
def TJ6 : u_T := fun k => match k with
  | _ => ("", "", "", false)
def tyJ6 : Nat → FieldType := fun k => match k with
  | _ => .int
abbrev wsJ60 : List Cond := u_ws RJ6 TJ6 0
theorem nmJ6 : ∀ a, a < 0 → ∀ b, b < 0 → a ≠ b → (TJ6 a).2.1 ≠ (TJ6 b).2.1 := by decide +kernel
theorem tyJ6_ok : ∀ k, k < 0 → parseFieldDescriptor (TJ6 k).2.2.1 = some (tyJ6 k) := by decide +kernel
abbrev cJ6_bitCount_0f7a4 : ByteArray := prog_17_method_49_code
def yJ6_bitCount_0f7a4 : MethodName := ⟨RJ6, "bitCount", "(I)I"⟩
def RJxab1ab : String := "java/lang/Iterable"
def TJxab1ab : u_T := fun k => match k with
  | _ => ("", "", "", false)
def tyJxab1ab : Nat → FieldType := fun k => match k with
  | _ => .int
abbrev wsJxab1ab0 : List Cond := u_ws RJxab1ab TJxab1ab 0
theorem nmJxab1ab : ∀ a, a < 0 → ∀ b, b < 0 → a ≠ b → (TJxab1ab a).2.1 ≠ (TJxab1ab b).2.1 := by decide +kernel
theorem tyJxab1ab_ok : ∀ k, k < 0 → parseFieldDescriptor (TJxab1ab k).2.2.1 = some (tyJxab1ab k) := by decide +kernel
def RJ9 : String := "java/lang/Math"
def TJ9 : u_T := fun k => match k with
  | _ => ("", "", "", false)
def tyJ9 : Nat → FieldType := fun k => match k with
  | _ => .int
abbrev wsJ90 : List Cond := u_ws RJ9 TJ9 0
theorem nmJ9 : ∀ a, a < 0 → ∀ b, b < 0 → a ≠ b → (TJ9 a).2.1 ≠ (TJ9 b).2.1 := by decide +kernel
theorem tyJ9_ok : ∀ k, k < 0 → parseFieldDescriptor (TJ9 k).2.2.1 = some (tyJ9 k) := by decide +kernel
abbrev cJ9_max_7cf53 : ByteArray := prog_19_method_65_code
def yJ9_max_7cf53 : MethodName := ⟨RJ9, "max", "(II)I"⟩
abbrev cJ9_min_7cf53 : ByteArray := prog_19_method_69_code
def yJ9_min_7cf53 : MethodName := ⟨RJ9, "min", "(II)I"⟩
abbrev cJ9_min_f86c9 : ByteArray := prog_19_method_70_code
def yJ9_min_f86c9 : MethodName := ⟨RJ9, "min", "(JJ)J"⟩
def RJ10 : String := "java/lang/System"
def TJ10 : u_T := fun k => match k with
  | _ => ("", "", "", false)
def tyJ10 : Nat → FieldType := fun k => match k with
  | _ => .int
abbrev wsJ100 : List Cond := u_ws RJ10 TJ10 0
theorem nmJ10 : ∀ a, a < 0 → ∀ b, b < 0 → a ≠ b → (TJ10 a).2.1 ≠ (TJ10 b).2.1 := by decide +kernel
theorem tyJ10_ok : ∀ k, k < 0 → parseFieldDescriptor (TJ10 k).2.2.1 = some (tyJ10 k) := by decide +kernel
def RJxa1e45 : String := "java/util/AbstractCollection"
def TJxa1e45 : u_T := fun k => match k with
  | _ => ("", "", "", false)
def tyJxa1e45 : Nat → FieldType := fun k => match k with
  | _ => .int
abbrev wsJxa1e450 : List Cond := u_ws RJxa1e45 TJxa1e45 0
theorem nmJxa1e45 : ∀ a, a < 0 → ∀ b, b < 0 → a ≠ b → (TJxa1e45 a).2.1 ≠ (TJxa1e45 b).2.1 := by decide +kernel
theorem tyJxa1e45_ok : ∀ k, k < 0 → parseFieldDescriptor (TJxa1e45 k).2.2.1 = some (tyJxa1e45 k) := by decide +kernel
abbrev cJxa1e45_init_da8c8 : ByteArray := prog_23_method_1_code
def yJxa1e45_init_da8c8 : MethodName := ⟨RJxa1e45, "<init>", "()V"⟩
def RJxc12de : String := "java/util/AbstractList"
def TJxc12de : u_T := fun k => match k with
  | _ => ("", "", "", false)
def tyJxc12de : Nat → FieldType := fun k => match k with
  | _ => .int
abbrev wsJxc12de0 : List Cond := u_ws RJxc12de TJxc12de 0
theorem nmJxc12de : ∀ a, a < 0 → ∀ b, b < 0 → a ≠ b → (TJxc12de a).2.1 ≠ (TJxc12de b).2.1 := by decide +kernel
theorem tyJxc12de_ok : ∀ k, k < 0 → parseFieldDescriptor (TJxc12de k).2.2.1 = some (tyJxc12de k) := by decide +kernel
abbrev cJxc12de_init_da8c8 : ByteArray := prog_24_method_1_code
def yJxc12de_init_da8c8 : MethodName := ⟨RJxc12de, "<init>", "()V"⟩
def RJx4a65c : String := "java/util/ArrayList"
def TJx4a65c : u_T := fun k => match k with
  | 0 => ("java/util/AbstractList", "modCount", "I", false)
  | 1 => ("java/util/ArrayList", "elementData", "[Ljava/lang/Object;", false)
  | _ => ("java/util/ArrayList", "size", "I", false)
def tyJx4a65c : Nat → FieldType := fun k => match k with
  | 0 => .int
  | 1 => .array (.object "java/lang/Object")
  | _ => .int
abbrev wsJx4a65c0 : List Cond := u_ws RJx4a65c TJx4a65c 3
theorem nmJx4a65c : ∀ a, a < 3 → ∀ b, b < 3 → a ≠ b → (TJx4a65c a).2.1 ≠ (TJx4a65c b).2.1 := by decide +kernel
theorem tyJx4a65c_ok : ∀ k, k < 3 → parseFieldDescriptor (TJx4a65c k).2.2.1 = some (tyJx4a65c k) := by decide +kernel
abbrev cJx4a65c_init_da8c8 : ByteArray := prog_25_method_2_code
def yJx4a65c_init_da8c8 : MethodName := ⟨RJx4a65c, "<init>", "()V"⟩
abbrev cJx4a65c_grow_92f84 : ByteArray := prog_25_method_6_code
def yJx4a65c_grow_92f84 : MethodName := ⟨RJx4a65c, "grow", "(I)[Ljava/lang/Object;"⟩
abbrev cJx4a65c_grow_d5877 : ByteArray := prog_25_method_7_code
def yJx4a65c_grow_d5877 : MethodName := ⟨RJx4a65c, "grow", "()[Ljava/lang/Object;"⟩
abbrev cJx4a65c_size_8abf5 : ByteArray := prog_25_method_8_code
def yJx4a65c_size_8abf5 : MethodName := ⟨RJx4a65c, "size", "()I"⟩
abbrev cJx4a65c_isEmpty_aae02 : ByteArray := prog_25_method_9_code
def yJx4a65c_isEmpty_aae02 : MethodName := ⟨RJx4a65c, "isEmpty", "()Z"⟩
abbrev cJx4a65c_elementData_915e3 : ByteArray := prog_25_method_18_code
def yJx4a65c_elementData_915e3 : MethodName := ⟨RJx4a65c, "elementData", "(I)Ljava/lang/Object;"⟩
abbrev cJx4a65c_get_915e3 : ByteArray := prog_25_method_20_code
def yJx4a65c_get_915e3 : MethodName := ⟨RJx4a65c, "get", "(I)Ljava/lang/Object;"⟩
abbrev cJx4a65c_add_72be8 : ByteArray := prog_25_method_24_code
def yJx4a65c_add_72be8 : MethodName := ⟨RJx4a65c, "add", "(Ljava/lang/Object;[Ljava/lang/Object;I)V"⟩
abbrev cJx4a65c_add_9ea2d : ByteArray := prog_25_method_25_code
def yJx4a65c_add_9ea2d : MethodName := ⟨RJx4a65c, "add", "(Ljava/lang/Object;)Z"⟩
def RJ7 : String := "java/util/Arrays"
def TJ7 : u_T := fun k => match k with
  | _ => ("", "", "", false)
def tyJ7 : Nat → FieldType := fun k => match k with
  | _ => .int
abbrev wsJ70 : List Cond := u_ws RJ7 TJ7 0
theorem nmJ7 : ∀ a, a < 0 → ∀ b, b < 0 → a ≠ b → (TJ7 a).2.1 ≠ (TJ7 b).2.1 := by decide +kernel
theorem tyJ7_ok : ∀ k, k < 0 → parseFieldDescriptor (TJ7 k).2.2.1 = some (tyJ7 k) := by decide +kernel
abbrev cJ7_fill_53178 : ByteArray := prog_26_method_103_code
def yJ7_fill_53178 : MethodName := ⟨RJ7, "fill", "([II)V"⟩
abbrev cJ7_copyOf_1904c : ByteArray := prog_26_method_119_code
def yJ7_copyOf_1904c : MethodName := ⟨RJ7, "copyOf", "([Ljava/lang/Object;I)[Ljava/lang/Object;"⟩
abbrev cJ7_copyOf_6403c : ByteArray := prog_26_method_120_code
def yJ7_copyOf_6403c : MethodName := ⟨RJ7, "copyOf", "([Ljava/lang/Object;ILjava/lang/Class;)[Ljava/lang/Object;"⟩
def RJx5ef63 : String := "java/util/Collection"
def TJx5ef63 : u_T := fun k => match k with
  | _ => ("", "", "", false)
def tyJx5ef63 : Nat → FieldType := fun k => match k with
  | _ => .int
abbrev wsJx5ef630 : List Cond := u_ws RJx5ef63 TJx5ef63 0
theorem nmJx5ef63 : ∀ a, a < 0 → ∀ b, b < 0 → a ≠ b → (TJx5ef63 a).2.1 ≠ (TJx5ef63 b).2.1 := by decide +kernel
theorem tyJx5ef63_ok : ∀ k, k < 0 → parseFieldDescriptor (TJx5ef63 k).2.2.1 = some (tyJx5ef63 k) := by decide +kernel
def RJxbd725 : String := "java/util/List"
def TJxbd725 : u_T := fun k => match k with
  | _ => ("", "", "", false)
def tyJxbd725 : Nat → FieldType := fun k => match k with
  | _ => .int
abbrev wsJxbd7250 : List Cond := u_ws RJxbd725 TJxbd725 0
theorem nmJxbd725 : ∀ a, a < 0 → ∀ b, b < 0 → a ≠ b → (TJxbd725 a).2.1 ≠ (TJxbd725 b).2.1 := by decide +kernel
theorem tyJxbd725_ok : ∀ k, k < 0 → parseFieldDescriptor (TJxbd725 k).2.2.1 = some (tyJxbd725 k) := by decide +kernel
def RJ15 : String := "java/util/Objects"
def TJ15 : u_T := fun k => match k with
  | _ => ("", "", "", false)
def tyJ15 : Nat → FieldType := fun k => match k with
  | _ => .int
abbrev wsJ150 : List Cond := u_ws RJ15 TJ15 0
theorem nmJ15 : ∀ a, a < 0 → ∀ b, b < 0 → a ≠ b → (TJ15 a).2.1 ≠ (TJ15 b).2.1 := by decide +kernel
theorem tyJ15_ok : ∀ k, k < 0 → parseFieldDescriptor (TJ15 k).2.2.1 = some (tyJ15 k) := by decide +kernel
abbrev cJ15_checkIndex_7cf53 : ByteArray := prog_30_method_17_code
def yJ15_checkIndex_7cf53 : MethodName := ⟨RJ15, "checkIndex", "(II)I"⟩
def RJxf0a74 : String := "java/util/RandomAccess"
def TJxf0a74 : u_T := fun k => match k with
  | _ => ("", "", "", false)
def tyJxf0a74 : Nat → FieldType := fun k => match k with
  | _ => .int
abbrev wsJxf0a740 : List Cond := u_ws RJxf0a74 TJxf0a74 0
theorem nmJxf0a74 : ∀ a, a < 0 → ∀ b, b < 0 → a ≠ b → (TJxf0a74 a).2.1 ≠ (TJxf0a74 b).2.1 := by decide +kernel
theorem tyJxf0a74_ok : ∀ k, k < 0 → parseFieldDescriptor (TJxf0a74 k).2.2.1 = some (tyJxf0a74 k) := by decide +kernel
def RJxa66e6 : String := "java/util/SequencedCollection"
def TJxa66e6 : u_T := fun k => match k with
  | _ => ("", "", "", false)
def tyJxa66e6 : Nat → FieldType := fun k => match k with
  | _ => .int
abbrev wsJxa66e60 : List Cond := u_ws RJxa66e6 TJxa66e6 0
theorem nmJxa66e6 : ∀ a, a < 0 → ∀ b, b < 0 → a ≠ b → (TJxa66e6 a).2.1 ≠ (TJxa66e6 b).2.1 := by decide +kernel
theorem tyJxa66e6_ok : ∀ k, k < 0 → parseFieldDescriptor (TJxa66e6 k).2.2.1 = some (tyJxa66e6 k) := by decide +kernel
def RJ8 : String := "jdk/internal/util/ArraysSupport"
def TJ8 : u_T := fun k => match k with
  | _ => ("", "", "", false)
def tyJ8 : Nat → FieldType := fun k => match k with
  | _ => .int
abbrev wsJ80 : List Cond := u_ws RJ8 TJ8 0
theorem nmJ8 : ∀ a, a < 0 → ∀ b, b < 0 → a ≠ b → (TJ8 a).2.1 ≠ (TJ8 b).2.1 := by decide +kernel
theorem tyJ8_ok : ∀ k, k < 0 → parseFieldDescriptor (TJ8 k).2.2.1 = some (tyJ8 k) := by decide +kernel
abbrev cJ8_newLength_cabcc : ByteArray := prog_33_method_27_code
def yJ8_newLength_cabcc : MethodName := ⟨RJ8, "newLength", "(III)I"⟩
abbrev cJ8_hugeLength_7cf53 : ByteArray := prog_33_method_28_code
def yJ8_hugeLength_7cf53 : MethodName := ⟨RJ8, "hugeLength", "(II)I"⟩
def RJ3 : String := "jdk/internal/util/Preconditions"
def TJ3 : u_T := fun k => match k with
  | _ => ("", "", "", false)
def tyJ3 : Nat → FieldType := fun k => match k with
  | _ => .int
abbrev wsJ30 : List Cond := u_ws RJ3 TJ3 0
theorem nmJ3 : ∀ a, a < 0 → ∀ b, b < 0 → a ≠ b → (TJ3 a).2.1 ≠ (TJ3 b).2.1 := by decide +kernel
theorem tyJ3_ok : ∀ k, k < 0 → parseFieldDescriptor (TJ3 k).2.2.1 = some (tyJ3 k) := by decide +kernel
abbrev cJ3_checkIndex_8e157 : ByteArray := prog_34_method_11_code
def yJ3_checkIndex_8e157 : MethodName := ⟨RJ3, "checkIndex", "(IILjava/util/function/BiFunction;)I"⟩
def RL : String := "ShareKeeperLaw"
abbrev cL_span : ByteArray := method_3_code
def yL_span : MethodName := ⟨RL, "span", "(LShareKeeper;III[J)I"⟩
abbrev cL_law : ByteArray := code
def yL_law : MethodName := ⟨RL, "law", "([I)Z"⟩
abbrev vwCl : List vw_C := [(RJx4a65c, TJx4a65c, 3), (RX0, TX0, 4), (RX1, TX1, 5), (RX2, TX2, 5), (RX4, TX4, 2), (RX5, TX5, 10), (RX6, TX6, 6), (RX7, TX7, 3), (RX8, TX8, 5), (RX9, TX9, 2), (RX10, TX10, 11), (RX11, TX11, 42)]
end
section
/-! The heap as a function: constants (0: the first address that may be written, 1: the empty list's array, 2 .. 5: the classes of int[], boolean[], long[], Object[]), the size, the cells. -/
abbrev xH : Type := Nat × (Nat → Option va_E)
def xTy (c : Nat → Nat) : List (ClassId × FieldType) := [(c 2, .int), (c 3, .boolean), (c 4, .long), (c 5, .object "java/lang/Object")]
def xA (c : Nat → Nat) : Nat → Prop := fun q => c 0 ≤ q
/-- calls by an interface: class, the interface's method, the class's method -/
def xFs : List (String × MethodName × MethodName) := [(RX7, ⟨"ShareKeeper$History", "asksIn", "(II)I"⟩, yX7_asksIn), (RX9, ⟨"ShareKeeper$History", "asksIn", "(II)I"⟩, yX9_asksIn), (RX7, ⟨"ShareKeeper$History", "badIn", "(II)I"⟩, yX7_badIn), (RX9, ⟨"ShareKeeper$History", "badIn", "(II)I"⟩, yX9_badIn), (RJx4a65c, ⟨"java/util/List", "size", "()I"⟩, yJx4a65c_size_8abf5), (RJx4a65c, ⟨"java/util/List", "get", "(I)Ljava/lang/Object;"⟩, yJx4a65c_get_915e3), (RJx4a65c, ⟨"java/util/List", "isEmpty", "()Z"⟩, yJx4a65c_isEmpty_aae02), (RJx4a65c, ⟨"java/util/List", "add", "(Ljava/lang/Object;)Z"⟩, yJx4a65c_add_9ea2d)]
def xE (c : Nat → Nat) (U : State) (H : Heap) : Prop := va_Z "java/util/ArrayList" "DEFAULTCAPACITY_EMPTY_ELEMENTDATA" "[Ljava/lang/Object;" (.ref (c 1)) (xA c) U H ∧ ∀ q ∈ xFs, va_Fw q.1 q.2.1 q.2.2 U
def xR (D : va_G) (G : Nat → Nat) (h : xH) (U : State) (H : Heap) : Prop := H.size = h.1 ∧ G 0 ≤ h.1 ∧ va_K D vwCl (xTy G) U ∧ xE G U H ∧ ∀ a e, h.2 a = some e → va_at D vwCl (a, e) H
/-- a cell is written -/
def xs (h : xH) (a : Nat) (e : va_E) : xH := (h.1, fun b => if b = a then some e else h.2 b)
/-- a cell is made -/
def xn (h : xH) (e : va_E) : xH := (h.1 + 1, fun b => if b = h.1 then some e else h.2 b)
theorem xFs_ok : ∀ q ∈ xFs, q.2.1.cls ≠ "java/lang/invoke/MethodHandle" ∧ q.2.1.cls ≠ "java/lang/invoke/VarHandle" := by decide +kernel
theorem xE.moved {c : Nat → Nat} {u U : State} {H : Heap} (hvm : u.vm.Alike U.vm) (h : xE c u H) : xE c U H := ⟨h.1.moved hvm, fun q hq => (h.2 q hq).moved (xFs_ok q hq) hvm⟩
theorem xR.moved {D : va_G} {G : Nat → Nat} {h : xH} {u U : State} {H : Heap} (hvm : u.vm.Alike U.vm) (r : xR D G h u H) : xR D G h U H := ⟨r.1, r.2.1, r.2.2.1.moved hvm, r.2.2.2.1.moved hvm, r.2.2.2.2⟩
theorem xR.lt {D : va_G} {G : Nat → Nat} {h : xH} {U : State} {H : Heap} (r : xR D G h U H) {a : Nat} {e : va_E} (ha : h.2 a = some e) : a < H.size := (r.2.2.2.2 a e ha).lt
theorem xR.set {D : va_G} {G : Nat → Nat} {h : xH} {U : State} {H H1 : Heap} {a : Nat} {e' : va_E} (r : xR D G h U H) (hlo : G 0 ≤ a) (he : va_at D vwCl (a, e') H1) (z : H1.size = H.size) (oq : ∀ q : Nat, q ≠ a → H1[q]? = H[q]?) : xR D G (xs h a e') U H1 := by
  obtain ⟨r1, r2, r3, r4, r5⟩ := r
  refine ⟨by rw [z]; exact r1, r2, r3, ⟨r4.1.kept (fun q _ hq => oq q (fun e => hq (by rw [e]; exact hlo))), r4.2⟩, fun b e hb => ?_⟩
  by_cases hba : b = a
  · subst hba
    simp only [xs, if_true] at hb
    cases hb
    exact he
  · simp only [xs, if_neg hba] at hb
    exact (r5 b e hb).kept (oq b hba)
theorem xR.new {D : va_G} {G : Nat → Nat} {h : xH} {U : State} {H H1 : Heap} {e' : va_E} (r : xR D G h U H) (he : va_at D vwCl (h.1, e') H1) (z : H1.size = H.size + 1) (oq : ∀ q : Nat, q < H.size → H1[q]? = H[q]?) : xR D G (xn h e') U H1 := by
  obtain ⟨r1, r2, r3, r4, r5⟩ := r
  refine ⟨by rw [z, r1]; rfl, Nat.le_succ_of_le r2, r3, ⟨r4.1.kept (fun q h1 _ => oq q h1), r4.2⟩, fun b e hb => ?_⟩
  by_cases hba : b = h.1
  · subst hba
    simp only [xn, if_true] at hb
    cases hb
    exact he
  · simp only [xn, if_neg hba] at hb
    exact (r5 b e hb).kept (oq b (r5 b e hb).lt)
/-! reads and writes -/
def xf (h : xH) (o : Option Nat) (ci k : Nat) : Option Value := o.bind fun a => (h.2 a).bind fun e => match e with
  | .inr q => if q.1 = ci then q.2[k]? else none
  | .inl _ => none
def gI (h : xH) (o : Option Nat) (ci k : Nat) : Option Int32 := (xf h o ci k).bind fun v => match v with
  | .int x => some x
  | _ => none
def gJ (h : xH) (o : Option Nat) (ci k : Nat) : Option Int64 := (xf h o ci k).bind fun v => match v with
  | .long x => some x
  | _ => none
def gR (h : xH) (o : Option Nat) (ci k : Nat) : Option (Option Nat) := (xf h o ci k).bind fun v => match v with
  | .ref x => some (some x)
  | .null => some none
  | _ => none
def xp (G : Nat → Nat) (h : xH) (o : Option Nat) (ci k : Nat) (v : Value) : Option xH := o.bind fun a => (h.2 a).bind fun e => match e with
  | .inr q => if q.1 = ci ∧ k < q.2.length ∧ G 0 ≤ a then some (xs h a (.inr (ci, q.2.set k v))) else none
  | .inl _ => none
def ldI (t : Nat) (G : Nat → Nat) (h : xH) (o : Option Nat) (i : Int32) : Option Int32 := o.bind fun a => (h.2 a).bind fun e => match e with
  | .inl (c, n, .inl f) => if c = G t ∧ ¬ (i < 0 ∨ n ≤ i.toNatClampNeg) then some (f i.toNatClampNeg) else none
  | _ => none
def ldJ (G : Nat → Nat) (h : xH) (o : Option Nat) (i : Int32) : Option Int64 := o.bind fun a => (h.2 a).bind fun e => match e with
  | .inl (c, n, .inr (.inl f)) => if c = G 4 ∧ ¬ (i < 0 ∨ n ≤ i.toNatClampNeg) then some (f i.toNatClampNeg) else none
  | _ => none
def ldR (G : Nat → Nat) (h : xH) (o : Option Nat) (i : Int32) : Option (Option Nat) := o.bind fun a => (h.2 a).bind fun e => match e with
  | .inl (c, n, .inr (.inr (.inr (.inr f)))) => if c = G 5 ∧ ¬ (i < 0 ∨ n ≤ i.toNatClampNeg) then some (f i.toNatClampNeg) else none
  | _ => none
def stI (t : Nat) (G : Nat → Nat) (h : xH) (o : Option Nat) (i x : Int32) : Option xH := o.bind fun a => (h.2 a).bind fun e => match e with
  | .inl (c, n, .inl f) => if c = G t ∧ G 0 ≤ a ∧ ¬ (i < 0 ∨ n ≤ i.toNatClampNeg) then some (xs h a (.inl (c, n, .inl (upd f i.toNatClampNeg x)))) else none
  | _ => none
def stJ (G : Nat → Nat) (h : xH) (o : Option Nat) (i : Int32) (x : Int64) : Option xH := o.bind fun a => (h.2 a).bind fun e => match e with
  | .inl (c, n, .inr (.inl f)) => if c = G 4 ∧ G 0 ≤ a ∧ ¬ (i < 0 ∨ n ≤ i.toNatClampNeg) then some (xs h a (.inl (c, n, .inr (.inl (vp_updL f i.toNatClampNeg x))))) else none
  | _ => none
def aln (G : Nat → Nat) (h : xH) (o : Option Nat) : Option Int32 := o.bind fun a => (h.2 a).bind fun e => match e with
  | .inl (c, n, _) => if c = G 2 ∨ c = G 3 ∨ c = G 4 ∨ c = G 5 then some (Int32.ofNat n) else none
  | _ => none
/-- an object of a class -/
def xc (h : xH) (o : Option Nat) (ci : Nat) : Option Nat := o.bind fun a => (h.2 a).bind fun e => match e with
  | .inr q => if q.1 = ci then some a else none
  | .inl _ => none
theorem xf_spec {h : xH} {o : Option Nat} {ci k : Nat} {v : Value} (e : xf h o ci k = some v) : ∃ a fs, o = some a ∧ h.2 a = some (.inr (ci, fs)) ∧ fs[k]? = some v := by
  unfold xf at e
  obtain ⟨a, ho, e1⟩ := Option.bind_eq_some_iff.mp e
  clear e
  subst ho
  obtain ⟨c, h1, e⟩ := Option.bind_eq_some_iff.mp e1
  clear e1
  rcases c with c | ⟨c, fs⟩
  · cases e
  · dsimp only at e
    split at e
    · rename_i hc
      subst hc
      exact ⟨a, fs, rfl, h1, e⟩
    · cases e
theorem gI_spec {h : xH} {o : Option Nat} {ci k : Nat} {x : Int32} (e : gI h o ci k = some x) : ∃ a fs, o = some a ∧ h.2 a = some (.inr (ci, fs)) ∧ fs[k]? = some (.int x) := by
  unfold gI at e
  obtain ⟨v, h1, e1⟩ := Option.bind_eq_some_iff.mp e
  clear e
  cases v <;> first | cases e1 | skip
  exact xf_spec h1
theorem gJ_spec {h : xH} {o : Option Nat} {ci k : Nat} {x : Int64} (e : gJ h o ci k = some x) : ∃ a fs, o = some a ∧ h.2 a = some (.inr (ci, fs)) ∧ fs[k]? = some (.long x) := by
  unfold gJ at e
  obtain ⟨v, h1, e1⟩ := Option.bind_eq_some_iff.mp e
  clear e
  cases v <;> first | cases e1 | skip
  exact xf_spec h1
theorem gR_spec {h : xH} {o : Option Nat} {ci k : Nat} {x : Option Nat} (e : gR h o ci k = some x) : ∃ a fs, o = some a ∧ h.2 a = some (.inr (ci, fs)) ∧ fs[k]? = some (va_rf x) := by
  unfold gR at e
  obtain ⟨v, h1, e1⟩ := Option.bind_eq_some_iff.mp e
  clear e
  cases v <;> first | cases e1 | skip
  · exact xf_spec h1
  · exact xf_spec h1
theorem xp_spec {G : Nat → Nat} {h h' : xH} {o : Option Nat} {ci k : Nat} {v : Value} (e : xp G h o ci k v = some h') : ∃ a fs, o = some a ∧ h.2 a = some (.inr (ci, fs)) ∧ k < fs.length ∧ G 0 ≤ a ∧ h' = xs h a (.inr (ci, fs.set k v)) := by
  unfold xp at e
  obtain ⟨a, ho, e1⟩ := Option.bind_eq_some_iff.mp e
  clear e
  subst ho
  obtain ⟨c, h1, e⟩ := Option.bind_eq_some_iff.mp e1
  clear e1
  rcases c with c | ⟨c, fs⟩
  · cases e
  · dsimp only at e
    split at e
    · rename_i hc
      obtain ⟨rfl, h2, h3⟩ := hc
      cases e
      exact ⟨a, fs, rfl, h1, h2, h3, rfl⟩
    · cases e
theorem xc_spec {h : xH} {o : Option Nat} {ci a : Nat} (e : xc h o ci = some a) : o = some a ∧ ∃ fs, h.2 a = some (.inr (ci, fs)) := by
  unfold xc at e
  obtain ⟨a', ho, e1⟩ := Option.bind_eq_some_iff.mp e
  clear e
  subst ho
  obtain ⟨c, h1, e⟩ := Option.bind_eq_some_iff.mp e1
  clear e1
  rcases c with c | ⟨c, fs⟩
  · cases e
  · dsimp only at e
    split at e
    · rename_i hc
      subst hc
      cases e
      exact ⟨rfl, fs, h1⟩
    · cases e
theorem ldI_spec {G : Nat → Nat} {t : Nat} {h : xH} {o : Option Nat} {i x : Int32} (e : ldI t G h o i = some x) : ∃ a n f, o = some a ∧ h.2 a = some (.inl (G t, n, .inl f)) ∧ vp_in i n ∧ x = f i.toNatClampNeg := by
  unfold ldI at e
  obtain ⟨a, ho, e1⟩ := Option.bind_eq_some_iff.mp e
  clear e
  subst ho
  obtain ⟨c, h1, e⟩ := Option.bind_eq_some_iff.mp e1
  clear e1
  rcases c with ⟨c, n, f | f⟩ | c
  · dsimp only at e
    split at e
    · rename_i hc
      obtain ⟨rfl, h2⟩ := hc
      cases e
      exact ⟨a, n, f, rfl, h1, h2, rfl⟩
    · cases e
  · cases e
  · cases e
theorem ldJ_spec {G : Nat → Nat} {h : xH} {o : Option Nat} {i : Int32} {x : Int64} (e : ldJ G h o i = some x) : ∃ a n f, o = some a ∧ h.2 a = some (.inl (G 4, n, .inr (.inl f))) ∧ vp_in i n ∧ x = f i.toNatClampNeg := by
  unfold ldJ at e
  obtain ⟨a, ho, e1⟩ := Option.bind_eq_some_iff.mp e
  clear e
  subst ho
  obtain ⟨c, h1, e⟩ := Option.bind_eq_some_iff.mp e1
  clear e1
  rcases c with ⟨c, n, f | f | f⟩ | c
  · cases e
  · dsimp only at e
    split at e
    · rename_i hc
      obtain ⟨rfl, h2⟩ := hc
      cases e
      exact ⟨a, n, f, rfl, h1, h2, rfl⟩
    · cases e
  · cases e
  · cases e
theorem ldR_spec {G : Nat → Nat} {h : xH} {o : Option Nat} {i : Int32} {x : Option Nat} (e : ldR G h o i = some x) : ∃ a n f, o = some a ∧ h.2 a = some (.inl (G 5, n, .inr (.inr (.inr (.inr f))))) ∧ vp_in i n ∧ x = f i.toNatClampNeg := by
  unfold ldR at e
  obtain ⟨a, ho, e1⟩ := Option.bind_eq_some_iff.mp e
  clear e
  subst ho
  obtain ⟨c, h1, e⟩ := Option.bind_eq_some_iff.mp e1
  clear e1
  rcases c with ⟨c, n, f | f | f | f | f⟩ | c
  · cases e
  · cases e
  · cases e
  · cases e
  · dsimp only at e
    split at e
    · rename_i hc
      obtain ⟨rfl, h2⟩ := hc
      cases e
      exact ⟨a, n, f, rfl, h1, h2, rfl⟩
    · cases e
  · cases e
theorem stI_spec {G : Nat → Nat} {t : Nat} {h h' : xH} {o : Option Nat} {i x : Int32} (e : stI t G h o i x = some h') : ∃ a n f, o = some a ∧ h.2 a = some (.inl (G t, n, .inl f)) ∧ G 0 ≤ a ∧ vp_in i n ∧ h' = xs h a (.inl (G t, n, .inl (upd f i.toNatClampNeg x))) := by
  unfold stI at e
  obtain ⟨a, ho, e1⟩ := Option.bind_eq_some_iff.mp e
  clear e
  subst ho
  obtain ⟨c, h1, e⟩ := Option.bind_eq_some_iff.mp e1
  clear e1
  rcases c with ⟨c, n, f | f⟩ | c
  · dsimp only at e
    split at e
    · rename_i hc
      obtain ⟨rfl, h2, h3⟩ := hc
      cases e
      exact ⟨a, n, f, rfl, h1, h2, h3, rfl⟩
    · cases e
  · cases e
  · cases e
theorem stJ_spec {G : Nat → Nat} {h h' : xH} {o : Option Nat} {i : Int32} {x : Int64} (e : stJ G h o i x = some h') : ∃ a n f, o = some a ∧ h.2 a = some (.inl (G 4, n, .inr (.inl f))) ∧ G 0 ≤ a ∧ vp_in i n ∧ h' = xs h a (.inl (G 4, n, .inr (.inl (vp_updL f i.toNatClampNeg x)))) := by
  unfold stJ at e
  obtain ⟨a, ho, e1⟩ := Option.bind_eq_some_iff.mp e
  clear e
  subst ho
  obtain ⟨c, h1, e⟩ := Option.bind_eq_some_iff.mp e1
  clear e1
  rcases c with ⟨c, n, f | f | f⟩ | c
  · cases e
  · dsimp only at e
    split at e
    · rename_i hc
      obtain ⟨rfl, h2, h3⟩ := hc
      cases e
      exact ⟨a, n, f, rfl, h1, h2, h3, rfl⟩
    · cases e
  · cases e
  · cases e
theorem aln_spec {G : Nat → Nat} {h : xH} {o : Option Nat} {x : Int32} (e : aln G h o = some x) : ∃ (a : Nat) (c : ClassId) (n : Nat) (f : (Nat → Int32) ⊕ (Nat → Int64) ⊕ (Nat → UInt32) ⊕ (Nat → UInt64) ⊕ (Nat → Option Nat)) (t0 : Nat) (ty : FieldType), o = some a ∧ h.2 a = some (.inl (c, n, f)) ∧ (xTy G)[t0]? = some (c, ty) ∧ x = Int32.ofNat n := by
  unfold aln at e
  obtain ⟨a, ho, e1⟩ := Option.bind_eq_some_iff.mp e
  clear e
  subst ho
  obtain ⟨c, h1, e⟩ := Option.bind_eq_some_iff.mp e1
  clear e1
  rcases c with ⟨c, n, f⟩ | c
  · dsimp only at e
    split at e
    · rename_i hc
      cases e
      rcases hc with rfl | rfl | rfl | rfl
      · exact ⟨a, _, n, f, 0, _, rfl, h1, rfl, rfl⟩
      · exact ⟨a, _, n, f, 1, _, rfl, h1, rfl, rfl⟩
      · exact ⟨a, _, n, f, 2, _, rfl, h1, rfl, rfl⟩
      · exact ⟨a, _, n, f, 3, _, rfl, h1, rfl, rfl⟩
    · cases e
  · cases e
end
section
section XROWS
variable {p : Program} {l : Launch} {e : Env} {R : Room} {s : State} {m : MethodId} {args : Array Value} {below : List Frame} {meth : Method} {c : Code} {H : Heap} {locs : List Loc} {cells slots : Nat} {Q : State → Prop}
variable {cc : ByteArray} {pc : Nat} {ls : Array Slot} {rest : List Value} {D : va_G} {G : Nat → Nat} {h h' : xH} {H0 : Heap} {o : Option Nat}
/-- a field's value, of any kind -/
theorem x_get (hexec : p.tables.exec = Jvm.exec) (hb : c.code = cc) {own ref C : String} {T : u_T} {N ci index : Nat} {Ts : List Cond} (hts : ∀ w ∈ Ts, w.before args s = true) (hin : ∀ w ∈ u_ws C T N, w ∈ Ts) (hown : s.vm.findClass own = some m.cls) (hR : xR D G h s H) (hc : vwCl[ci]? = some (C, T, N)) (k : Nat) (hk : k < N) (hlink : Cond.fieldLink own index ref (T k).2.1 (T k).2.2.1 ∈ Ts) (hsame : (T k).1 = ref) {v : Value} (hv : ∃ a fs, o = some a ∧ h.2 a = some (.inr (ci, fs)) ∧ fs[k]? = some v) (hdg : decode cc pc = .ok (.getfield index, 3))
    (kk : W p l e R s m args below meth c H locs cells slots Q (F0 m (pc + 3) ls (v :: rest))) : W p l e R s m args below meth c H locs cells slots Q (F0 m pc ls (va_rf o :: rest)) := by
  obtain ⟨a, fs, rfl, h1, h2⟩ := hv
  subst hsame
  exact va_get (D := D) (cl := vwCl) (ws := [(a, .inr (ci, fs))]) hexec hb hts hin hown hR.2.2.1 (fun j q hq => by
    have hz : j < 1 := (List.getElem?_eq_some_iff.mp hq).1
    rw [show j = 0 by omega] at hq
    cases hq
    exact hR.2.2.2.2 a _ h1) 0 rfl hc k hk (hts _ hlink) (fun _ z => z) h2 hdg kk
theorem x_getI (hexec : p.tables.exec = Jvm.exec) (hb : c.code = cc) {own ref C : String} {T : u_T} {N ci index : Nat} {Ts : List Cond} (hts : ∀ w ∈ Ts, w.before args s = true) (hin : ∀ w ∈ u_ws C T N, w ∈ Ts) (hown : s.vm.findClass own = some m.cls) (hR : xR D G h s H) (hc : vwCl[ci]? = some (C, T, N)) (k : Nat) (hk : k < N) (hlink : Cond.fieldLink own index ref (T k).2.1 (T k).2.2.1 ∈ Ts) (hsame : (T k).1 = ref) {v : Int32} (hv : gI h o ci k = some v) (hdg : decode cc pc = .ok (.getfield index, 3))
    (kk : W p l e R s m args below meth c H locs cells slots Q (F0 m (pc + 3) ls (.int v :: rest))) : W p l e R s m args below meth c H locs cells slots Q (F0 m pc ls (va_rf o :: rest)) := x_get hexec hb hts hin hown hR hc k hk hlink hsame (gI_spec hv) hdg kk
theorem x_getJ (hexec : p.tables.exec = Jvm.exec) (hb : c.code = cc) {own ref C : String} {T : u_T} {N ci index : Nat} {Ts : List Cond} (hts : ∀ w ∈ Ts, w.before args s = true) (hin : ∀ w ∈ u_ws C T N, w ∈ Ts) (hown : s.vm.findClass own = some m.cls) (hR : xR D G h s H) (hc : vwCl[ci]? = some (C, T, N)) (k : Nat) (hk : k < N) (hlink : Cond.fieldLink own index ref (T k).2.1 (T k).2.2.1 ∈ Ts) (hsame : (T k).1 = ref) {v : Int64} (hv : gJ h o ci k = some v) (hdg : decode cc pc = .ok (.getfield index, 3))
    (kk : W p l e R s m args below meth c H locs cells slots Q (F0 m (pc + 3) ls (.long v :: rest))) : W p l e R s m args below meth c H locs cells slots Q (F0 m pc ls (va_rf o :: rest)) := x_get hexec hb hts hin hown hR hc k hk hlink hsame (gJ_spec hv) hdg kk
theorem x_getR (hexec : p.tables.exec = Jvm.exec) (hb : c.code = cc) {own ref C : String} {T : u_T} {N ci index : Nat} {Ts : List Cond} (hts : ∀ w ∈ Ts, w.before args s = true) (hin : ∀ w ∈ u_ws C T N, w ∈ Ts) (hown : s.vm.findClass own = some m.cls) (hR : xR D G h s H) (hc : vwCl[ci]? = some (C, T, N)) (k : Nat) (hk : k < N) (hlink : Cond.fieldLink own index ref (T k).2.1 (T k).2.2.1 ∈ Ts) (hsame : (T k).1 = ref) {v : Option Nat} (hv : gR h o ci k = some v) (hdg : decode cc pc = .ok (.getfield index, 3))
    (kk : W p l e R s m args below meth c H locs cells slots Q (F0 m (pc + 3) ls (va_rf v :: rest))) : W p l e R s m args below meth c H locs cells slots Q (F0 m pc ls (va_rf o :: rest)) := x_get hexec hb hts hin hown hR hc k hk hlink hsame (gR_spec hv) hdg kk
/-- a field that is not final is written -/
theorem x_put (hexec : p.tables.exec = Jvm.exec) (hb : c.code = cc) {own ref C : String} {T : u_T} {N ci index : Nat} {Ts : List Cond} (hts : ∀ w ∈ Ts, w.before args s = true) (hin : ∀ w ∈ u_ws C T N, w ∈ Ts) {ty0 : Nat → FieldType} (hty : ∀ k, k < N → parseFieldDescriptor (T k).2.2.1 = some (ty0 k)) (hnm : ∀ a, a < N → ∀ b, b < N → a ≠ b → (T a).2.1 ≠ (T b).2.1) (hown : s.vm.findClass own = some m.cls) (hR : xR D G h s H) (hS0 : va_S (xA G) H0 H locs) (hc : vwCl[ci]? = some (C, T, N)) (k : Nat) (hk : k < N) (hlink : Cond.fieldLink own index ref (T k).2.1 (T k).2.2.1 ∈ Ts) (hsame : (T k).1 = ref) (hfin : (T k).2.2.2 = false) {v : Value} (hn : narrow (ty0 k) v = v) (hfit : fits (ty0 k) v = true) (hv : xp G h o ci k v = some h') (hdg : decode cc pc = .ok (.putfield index, 3))
    (kk : ∀ (H1 : Heap) (locs1 : List Loc), xR D G h' s H1 → va_S (xA G) H0 H1 locs1 → W p l e R s m args below meth c H1 locs1 cells slots Q (F0 m (pc + 3) ls rest)) : W p l e R s m args below meth c H locs cells slots Q (F0 m pc ls (v :: va_rf o :: rest)) := by
  obtain ⟨a, fs, rfl, he, hl, hlo, rfl⟩ := xp_spec hv
  subst hsame
  have hap := va_apart (own := own) hts hin ty0 hty hnm hR.2.2.1 hc
  obtain ⟨r, h1, cell, q1, q2, q3, q4⟩ := hR.2.2.2.2 a _ he
  have hr : r = (C, T, N) := Option.some.inj (h1.symm.trans hc)
  subst hr
  obtain ⟨hS, hfc, kC, hkC, hkind⟩ := hR.2.2.1.1 ci _ hc
  obtain ⟨cf, kf, fi, f, hi, hsl⟩ := hS k hk
  have hlay := hts _ (hin _ (u_in_lay hk))
  unfold u_lay at hlay
  rw [if_neg (by rw [hfin]; decide)] at hlay
  have hst := (u_facts hfc hkC (u_lays hts hin hk) hi).1
  have h6 := u_store hfc hkC hkind hlay hi (hty k hk) hn hfit
  refine W.putK hexec hb (f := f) ⟨hown, hts _ hlink, ⟨_, _, _, hi⟩, hst⟩ (by rw [q2]; exact h6) q1 q3 (by rw [hsl]; exact k2_hasslot (q4 k hk)) rfl rfl hdg fun H' e1 e2 e3 => ?_
  rw [hsl] at e1 ⊢
  exact kk H' _ (hR.set hlo ⟨_, hc, t_OB.to (V := updV (vp_V fs) k v) ⟨_, e1, q2, q3, t_set q4 hap hk v⟩ (fun j _ => vp_updV_set hl v j)⟩ e2 e3) (hS0.put e2 e3 hlo)
/-- a final field, in the constructor -/
theorem x_putF (hexec : p.tables.exec = Jvm.exec) (hb : c.code = cc) {own ref C : String} {T : u_T} {N ci index : Nat} {Ts : List Cond} (hts : ∀ w ∈ Ts, w.before args s = true) (hin : ∀ w ∈ u_ws C T N, w ∈ Ts) {ty0 : Nat → FieldType} (hty : ∀ k, k < N → parseFieldDescriptor (T k).2.2.1 = some (ty0 k)) (hnm : ∀ a, a < N → ∀ b, b < N → a ≠ b → (T a).2.1 ≠ (T b).2.1) (hown : s.vm.findClass own = some m.cls) (hR : xR D G h s H) (hS0 : va_S (xA G) H0 H locs) (hc : vwCl[ci]? = some (C, T, N)) (k : Nat) (hk : k < N) (hlink : Cond.fieldLink own index ref (T k).2.1 (T k).2.2.1 ∈ Ts) (hsame : (T k).1 = ref) (hfin : (T k).2.2.2 = true) (hin2 : meth.name = "<init>") (hdecl : (T k).1 = own) {v : Value} (hn : narrow (ty0 k) v = v) (hfit : fits (ty0 k) v = true) (hv : xp G h o ci k v = some h') (hdg : decode cc pc = .ok (.putfield index, 3))
    (kk : ∀ (H1 : Heap) (locs1 : List Loc), xR D G h' s H1 → va_S (xA G) H0 H1 locs1 → W p l e R s m args below meth c H1 locs1 cells slots Q (F0 m (pc + 3) ls rest)) : W p l e R s m args below meth c H locs cells slots Q (F0 m pc ls (v :: va_rf o :: rest)) := by
  obtain ⟨a, fs, rfl, he, hl, hlo, rfl⟩ := xp_spec hv
  subst hsame
  have hap := va_apart (own := own) hts hin ty0 hty hnm hR.2.2.1 hc
  obtain ⟨r, h1, cell, q1, q2, q3, q4⟩ := hR.2.2.2.2 a _ he
  have hr : r = (C, T, N) := Option.some.inj (h1.symm.trans hc)
  subst hr
  obtain ⟨hS, hfc, kC, hkC, hkind⟩ := hR.2.2.1.1 ci _ hc
  obtain ⟨cf, kf, fi, f, hi, hsl⟩ := hS k hk
  have hlay := hts _ (hin _ (u_in_lay hk))
  unfold u_lay at hlay
  rw [if_pos hfin] at hlay
  have hst := (u_facts hfc hkC (u_lays hts hin hk) hi).1
  have hcf : m.cls = cf := by
    obtain ⟨_, _, c', _, _, _, -, -, hf', -, -, -, hown2, -⟩ := Cond.laysFinal_spec hlay
    have e1 : c' = cf := by have := hi.symm.trans hf'; simp at this; exact this.1.symm
    rw [hdecl] at hown2
    rw [← e1]; exact Option.some.inj (hown.symm.trans hown2)
  have h6 := u_fits hfc hkC hkind (Or.inr hlay) hi (hty k hk) hn hfit
  refine W.putFinK hexec hb hown (hts _ hlink) hi hst hcf hin2 (by rw [q2]; exact h6) q1 q3 (by rw [hsl]; exact k2_hasslot (q4 k hk)) rfl rfl hdg fun H' e1 e2 e3 => ?_
  rw [hsl] at e1 ⊢
  exact kk H' _ (hR.set hlo ⟨_, hc, t_OB.to (V := updV (vp_V fs) k v) ⟨_, e1, q2, q3, t_set q4 hap hk v⟩ (fun j _ => vp_updV_set hl v j)⟩ e2 e3) (hS0.put e2 e3 hlo)
theorem xR.one {U : State} (hR : xR D G h U H) {a : Nat} {x : va_E} (ha : h.2 a = some x) : va_P D vwCl [(a, x)] H := fun j q hq => by
  have hz : j < 1 := (List.getElem?_eq_some_iff.mp hq).1
  rw [show j = 0 by omega] at hq
  cases hq
  exact hR.2.2.2.2 a _ ha
theorem x_ild (hexec : p.tables.exec = Jvm.exec) (hb : c.code = cc) (hR : xR D G h s H) {i v : Int32} (hv : ldI 2 G h o i = some v) (hdg : decode cc pc = .ok (.iaload, 1))
    (kk : W p l e R s m args below meth c H locs cells slots Q (F0 m (pc + 1) ls (.int v :: rest))) : W p l e R s m args below meth c H locs cells slots Q (F0 m pc ls (.int i :: va_rf o :: rest)) := by
  obtain ⟨a, n, f, rfl, h1, h2, rfl⟩ := ldI_spec hv
  exact va_iald (D := D) (cl := vwCl) hexec hb hR.2.2.1 (hR.one h1) 0 0 rfl rfl h2 hdg kk
theorem x_zld (hexec : p.tables.exec = Jvm.exec) (hb : c.code = cc) (hR : xR D G h s H) {i v : Int32} (hv : ldI 3 G h o i = some v) (hdg : decode cc pc = .ok (.baload, 1))
    (kk : W p l e R s m args below meth c H locs cells slots Q (F0 m (pc + 1) ls (.int v :: rest))) : W p l e R s m args below meth c H locs cells slots Q (F0 m pc ls (.int i :: va_rf o :: rest)) := by
  obtain ⟨a, n, f, rfl, h1, h2, rfl⟩ := ldI_spec hv
  exact va_zald (D := D) (cl := vwCl) hexec hb hR.2.2.1 (hR.one h1) 0 1 rfl rfl h2 hdg kk
theorem x_lld (hexec : p.tables.exec = Jvm.exec) (hb : c.code = cc) (hR : xR D G h s H) {i : Int32} {v : Int64} (hv : ldJ G h o i = some v) (hdg : decode cc pc = .ok (.laload, 1))
    (kk : W p l e R s m args below meth c H locs cells slots Q (F0 m (pc + 1) ls (.long v :: rest))) : W p l e R s m args below meth c H locs cells slots Q (F0 m pc ls (.int i :: va_rf o :: rest)) := by
  obtain ⟨a, n, f, rfl, h1, h2, rfl⟩ := ldJ_spec hv
  exact va_lald (D := D) (cl := vwCl) hexec hb hR.2.2.1 (hR.one h1) 0 2 rfl rfl h2 hdg kk
theorem x_ald (hexec : p.tables.exec = Jvm.exec) (hb : c.code = cc) (hR : xR D G h s H) {i : Int32} {v : Option Nat} (hv : ldR G h o i = some v) (hdg : decode cc pc = .ok (.aaload, 1))
    (kk : W p l e R s m args below meth c H locs cells slots Q (F0 m (pc + 1) ls (va_rf v :: rest))) : W p l e R s m args below meth c H locs cells slots Q (F0 m pc ls (.int i :: va_rf o :: rest)) := by
  obtain ⟨a, n, f, rfl, h1, h2, rfl⟩ := ldR_spec hv
  exact va_aldq (D := D) (cl := vwCl) hexec hb hR.2.2.1 (hR.one h1) 0 3 rfl rfl h2 hdg kk
theorem x_aln (hexec : p.tables.exec = Jvm.exec) (hb : c.code = cc) (hR : xR D G h s H) {v : Int32} (hv : aln G h o = some v) (hdg : decode cc pc = .ok (.arraylength, 1))
    (kk : W p l e R s m args below meth c H locs cells slots Q (F0 m (pc + 1) ls (.int v :: rest))) : W p l e R s m args below meth c H locs cells slots Q (F0 m pc ls (va_rf o :: rest)) := by
  obtain ⟨a, cA, n, f, t0, ty, rfl, h1, h2, rfl⟩ := aln_spec hv
  exact va_alen (D := D) (cl := vwCl) hexec hb hR.2.2.1 (hR.one h1) 0 t0 rfl h2 rfl hdg kk
theorem x_ist (hexec : p.tables.exec = Jvm.exec) (hb : c.code = cc) (hR : xR D G h s H) (hS : va_S (xA G) H0 H locs) {i x : Int32} (hv : stI 2 G h o i x = some h') (hdg : decode cc pc = .ok (.iastore, 1))
    (kk : ∀ (H1 : Heap) (locs1 : List Loc), xR D G h' s H1 → va_S (xA G) H0 H1 locs1 → W p l e R s m args below meth c H1 locs1 cells slots Q (F0 m (pc + 1) ls rest)) : W p l e R s m args below meth c H locs cells slots Q (F0 m pc ls (.int x :: .int i :: va_rf o :: rest)) := by
  obtain ⟨a, n, f, rfl, ha, hlo, hin, rfl⟩ := stI_spec hv
  refine W.iast hexec hb (hR.2.2.2.2 a _ ha) ((hR.2.2.1.2 0 _ rfl).1 n (fun j => .int (f j))) (fun q => by cases q) (by show ¬ (i < 0 ∨ (arrV _ _ _).slots.size ≤ _); rw [arrV_size]; exact hin) rfl rfl hdg fun H1 e z oq => ?_
  refine kk H1 _ (hR.set hlo ?_ z oq) (hS.put z oq hlo)
  show H1[a]? = some (vp_cell _ _)
  rw [e]
  rw [vp_cell_i, vp_cell_i, arrV_store]
  congr 2
  funext q
  by_cases hq : q = i.toNatClampNeg
  · subst hq
    simp [updV, upd]
  · simp [updV, upd, hq]
theorem x_zst (hexec : p.tables.exec = Jvm.exec) (hb : c.code = cc) (hR : xR D G h s H) (hS : va_S (xA G) H0 H locs) {i x : Int32} (hv : stI 3 G h o i (vp_nar .boolean x) = some h') (hdg : decode cc pc = .ok (.bastore, 1))
    (kk : ∀ (H1 : Heap) (locs1 : List Loc), xR D G h' s H1 → va_S (xA G) H0 H1 locs1 → W p l e R s m args below meth c H1 locs1 cells slots Q (F0 m (pc + 1) ls rest)) : W p l e R s m args below meth c H locs cells slots Q (F0 m pc ls (.int x :: .int i :: va_rf o :: rest)) := by
  obtain ⟨a, n, f, rfl, ha, hlo, hin, rfl⟩ := stI_spec hv
  refine W.zast hexec hb (hR.2.2.2.2 a _ ha) ((hR.2.2.1.2 1 _ rfl).1 n (fun j => .int (f j))) (fun q => by cases q) (by show ¬ (i < 0 ∨ (arrV _ _ _).slots.size ≤ _); rw [arrV_size]; exact hin) rfl rfl hdg fun H1 e z oq => ?_
  refine kk H1 _ (hR.set hlo ?_ z oq) (hS.put z oq hlo)
  show H1[a]? = some (vp_cell _ _)
  rw [e]
  rw [vp_cell_i, vp_cell_i, arrV_store]
  congr 2
  funext q
  by_cases hq : q = i.toNatClampNeg
  · subst hq
    simp [updV, upd, vp_nar]
    try rfl
  · simp [updV, upd, hq]
theorem x_lst (hexec : p.tables.exec = Jvm.exec) (hb : c.code = cc) (hR : xR D G h s H) (hS : va_S (xA G) H0 H locs) {i : Int32} {x : Int64} (hv : stJ G h o i x = some h') (hdg : decode cc pc = .ok (.lastore, 1))
    (kk : ∀ (H1 : Heap) (locs1 : List Loc), xR D G h' s H1 → va_S (xA G) H0 H1 locs1 → W p l e R s m args below meth c H1 locs1 cells slots Q (F0 m (pc + 1) ls rest)) : W p l e R s m args below meth c H locs cells slots Q (F0 m pc ls (.long x :: .int i :: va_rf o :: rest)) := by
  obtain ⟨a, n, f, rfl, ha, hlo, hin, rfl⟩ := stJ_spec hv
  refine W.last hexec hb (hR.2.2.2.2 a _ ha) ((hR.2.2.1.2 2 _ rfl).1 n (fun j => .long (f j))) (fun q => by cases q) (by show ¬ (i < 0 ∨ (arrV _ _ _).slots.size ≤ _); rw [arrV_size]; exact hin) rfl rfl hdg fun H1 e z oq => ?_
  refine kk H1 _ (hR.set hlo ?_ z oq) (hS.put z oq hlo)
  show H1[a]? = some (vp_cell _ _)
  rw [e]
  rw [vp_cell_l, vp_cell_l, arrV_store]
  congr 2
  funext q
  by_cases hq : q = i.toNatClampNeg
  · subst hq
    simp [updV, vp_updL]
  · simp [updV, vp_updL, hq]
end XROWS
end
section
/-- a method's start: these arguments, this heap -/
def xPc (D : va_G) (G : Nat → Nat) (h : xH) (as : List Value) : Array Value → State → Prop := va_Pc as (fun U => xR D G h U U.heap)
/-- a method's end: this answer, this heap; what lies below G 0 is as it was -/
def xQ (D : va_G) (G : Nat → Nat) (v : Option Value) (h' : xH) : Array Value → State → Outcome → State → Prop := fun _ st oc t => oc = .returned v ∧ xR D G h' t t.heap ∧ va_F (xA G) st t
/-- THE CONTRACT of a method at a heap and arguments: its answer and the heap behind it -/
def xC (l : Launch) (y : MethodName) (b : ByteArray) (n : Nat) (r : Option FieldType) (rm : Room) (D : va_G) (G : Nat → Nat) (h : xH) (as : List Value) (v : Option Value) (h' : xH) : Prop := Met l y (xW y b n r) rm (xPc D G h as) (xQ D G v h') rm.cells rm.slots (xA G)
/-- what the tables say of a method -/
def xM (y : MethodName) (b : ByteArray) (n : Nat) (r : Option FieldType) (k : Nat) : Prop := Cond.code y b n r ∈ xt ∧ Cond.initialized y.cls ∈ xt ∧ (y.cls ≠ "java/lang/invoke/MethodHandle" ∧ y.cls ≠ "java/lang/invoke/VarHandle") ∧ (parseMethodDescriptor y.desc).map (fun d => d.parameters.length) = some k
theorem xPc_blind {D : va_G} {G : Nat → Nat} {h : xH} {as : List Value} : FrameBlind (xPc D G h as) := fun a U g mk q => ⟨q.1, xR.moved (u := U) (U := U.calling g mk a) (Vm.Alike.refl U.vm) q.2⟩
section XCALLS
variable {p : Program} {l : Launch} {e : Env} {R : Room} {s : State} {m : MethodId} {args : Array Value} {below : List Frame} {meth : Method} {c : Code} {H : Heap} {locs : List Loc} {cells slots : Nat} {Q : State → Prop}
variable {cc : ByteArray} {pc : Nat} {ls : Array Slot} {rest st0 : List Value} {D : va_G} {G : Nat → Nat} {h h' : xH} {H0 : Heap} {o : Option Nat}
variable {y : MethodName} {b : ByteArray} {n k nL index : Nat} {r : Option FieldType} {rm : Room} {v : Option Value} {As : List Value} {own : String}
theorem xcallB (hts : ∀ w ∈ xt, w.before args s = true) (hf : xM y b n r k) (hl : Cond.methodLink own index y ∈ xt) (hroom : rm.frames + 1 ≤ R.frames ∧ 8 + (n + 11) + rm.locals ≤ R.locals) : CallB R s args own index y b n r (xW y b n r) rm rm.cells rm.slots k :=
  callB_of (Ts := xt) k hts (fun w hw => (List.mem_cons.mp hw).elim (fun e => ⟨e ▸ hf.1, good_of_word (List.mem_filter.mp (e ▸ hf.1)).2⟩) (fun e => ⟨e, good_of_word (List.mem_filter.mp e).2⟩)) rfl rfl rfl (hts _ hf.2.1) (hts _ hl) ⟨hf.2.2.1.1, hf.2.2.1.2, hf.2.2.2⟩ hroom
/-- behind a call -/
theorem x_ret (hr : va_Run p l e R s m args below meth c H locs cells slots rm.cells rm.slots (F0 m pc ls st0) rest (xQ D G v h' As.toArray) (xA G)) (hS : va_S (xA G) H0 H locs)
    (kk : ∀ (H1 : Heap) (locs1 : List Loc), xR D G h' s H1 → va_S (xA G) H0 H1 locs1 → W p l e R s m args below meth c H1 locs1 (cells + rm.cells) (slots + rm.slots) Q (F0 m (pc + 3) ls (v.toList ++ rest))) : W p l e R s m args below meth c H locs cells slots Q (F0 m pc ls st0) := by
  intro T hT X
  obtain ⟨v1, st₀, t, T', L, h0, X', hL, e1, e2, ⟨hv, hR, hz, hk⟩, st⟩ := hr T hT X
  cases hv
  rw [h0] at hz hk
  rw [← e1] at hR hz hk
  obtain ⟨t2, a1, b1⟩ := kk T'.heap (locs ++ L) (hR.moved (by rw [← e2]; exact X'.warmed.alike.symm))
    ⟨Nat.le_trans hS.1 hz, fun q h1 h2 => by rw [hk q (Nat.lt_of_lt_of_le h1 hS.1) h2]; exact hS.2.1 q h1 h2, fun q hq => by
      rcases List.mem_append.mp hq with h | h
      · exact hS.2.2 q h
      · exact hL q h⟩ T' rfl X'
  exact ⟨t2, st t2 a1, b1⟩
theorem x_ret5 (hr : va_Run5 p l e R s m args below meth c H locs cells slots rm.cells rm.slots (F0 m pc ls st0) rest (xQ D G v h' As.toArray) (xA G)) (hS : va_S (xA G) H0 H locs)
    (kk : ∀ (H1 : Heap) (locs1 : List Loc), xR D G h' s H1 → va_S (xA G) H0 H1 locs1 → W p l e R s m args below meth c H1 locs1 (cells + rm.cells) (slots + rm.slots) Q (F0 m (pc + 5) ls (v.toList ++ rest))) : W p l e R s m args below meth c H locs cells slots Q (F0 m pc ls st0) := by
  intro T hT X
  obtain ⟨v1, st₀, t, T', L, h0, X', hL, e1, e2, ⟨hv, hR, hz, hk⟩, st⟩ := hr T hT X
  cases hv
  rw [h0] at hz hk
  rw [← e1] at hR hz hk
  obtain ⟨t2, a1, b1⟩ := kk T'.heap (locs ++ L) (hR.moved (by rw [← e2]; exact X'.warmed.alike.symm))
    ⟨Nat.le_trans hS.1 hz, fun q h1 h2 => by rw [hk q (Nat.lt_of_lt_of_le h1 hS.1) h2]; exact hS.2.1 q h1 h2, fun q hq => by
      rcases List.mem_append.mp hq with h | h
      · exact hS.2.2 q h
      · exact hL q h⟩ T' rfl X'
  exact ⟨t2, st t2 a1, b1⟩
theorem xR.recv {a ci : Nat} {q : vw_C} {fs : List Value} (hR : xR D G h s H) (hc : vwCl[ci]? = some q) (ha : h.2 a = some (.inr (ci, fs))) : ∃ cell : Cell, H[a]? = some cell ∧ cell.vm.isStatics = false ∧ s.vm.findClass q.1 = some cell.cls := va_recv hR.2.2.1 (hR.one ha) hc (q0 := 0) rfl
theorem x_callS (hexec : p.tables.exec = Jvm.exec) (hb : c.code = cc) (hml : c.maxLocals = nL) (hown : s.vm.findClass own = some m.cls) (hts : ∀ w ∈ xt, w.before args s = true) (hR : xR D G h s H) (hS : va_S (xA G) H0 H locs) (hM : xC l y b n r rm D G h As v h') (hf : xM y b n r k) (hl : Cond.methodLink own index y ∈ xt) (hst : Cond.static y ∈ xt)
    (hn : As.length = k) (hsize : ls.size = nL) (hstack : st0 = As.reverse ++ rest) (hW : (rest.map fun v => v.category).sum ≤ 8) (hdg : decode cc pc = .ok (.invokestatic index, 3)) (hroom : rm.frames + 1 ≤ R.frames ∧ 8 + (n + 11) + rm.locals ≤ R.locals) (hcs : cells + rm.cells ≤ R.cells ∧ slots + rm.slots ≤ R.slots) {st1 : List Value} (hst1 : v.toList ++ rest = st1)
    (kk : ∀ (H1 : Heap) (locs1 : List Loc), xR D G h' s H1 → va_S (xA G) H0 H1 locs1 → W p l e R s m args below meth c H1 locs1 (cells + rm.cells) (slots + rm.slots) Q (F0 m (pc + 3) ls st1)) : W p l e R s m args below meth c H locs cells slots Q (F0 m pc ls st0) := by
  subst hst1
  exact x_ret (va_runS (rest := rest) (g := F0 m pc ls st0) ⟨hexec, hb, hml, hown, hts⟩ hM ⟨xcallB hts hf hl hroom, hts _ hst⟩ ⟨xPc_blind, fun U hU hW => ⟨rfl, by show xR D G h U U.heap; rw [hU]; exact hR.moved hW.alike⟩⟩ rfl hn hsize hstack (by show 2 * 0 + _ ≤ 8; omega) hdg hcs) hS kk
theorem x_callV (hexec : p.tables.exec = Jvm.exec) (hb : c.code = cc) (hml : c.maxLocals = nL) (hown : s.vm.findClass own = some m.cls) (hts : ∀ w ∈ xt, w.before args s = true) (hR : xR D G h s H) (hS : va_S (xA G) H0 H locs) {a ci : Nat} {q : vw_C} (hxc : xc h o ci = some a) (hc : vwCl[ci]? = some q) (hq : q.1 = y.cls) (hM : xC l y b n r rm D G h (.ref a :: As) v h') (hf : xM y b n r k) (hl : Cond.methodLink own index y ∈ xt) (hin : Cond.instanceMethod y ∈ xt) (hse : Cond.selects y.cls y y ∈ xt)
    (hn : As.length = k) (hsize : ls.size = nL) (hstack : st0 = As.reverse ++ va_rf o :: rest) (hW : (rest.map fun v => v.category).sum ≤ 8) (hdg : decode cc pc = .ok (.invokevirtual index, 3)) (hroom : rm.frames + 1 ≤ R.frames ∧ 8 + (n + 11) + rm.locals ≤ R.locals) (hcs : cells + rm.cells ≤ R.cells ∧ slots + rm.slots ≤ R.slots) {st1 : List Value} (hst1 : v.toList ++ rest = st1)
    (kk : ∀ (H1 : Heap) (locs1 : List Loc), xR D G h' s H1 → va_S (xA G) H0 H1 locs1 → W p l e R s m args below meth c H1 locs1 (cells + rm.cells) (slots + rm.slots) Q (F0 m (pc + 3) ls st1)) : W p l e R s m args below meth c H locs cells slots Q (F0 m pc ls st0) := by
  subst hst1
  obtain ⟨rfl, fs, ha⟩ := xc_spec hxc
  exact x_ret (As := .ref a :: As) (va_runV (C := y.cls) (b := a) (rest := rest) (g := F0 m pc ls st0) ⟨hexec, hb, hml, hown, hts⟩ hM ⟨xcallB hts hf hl hroom, hts _ hin, hts _ hse⟩ ⟨xPc_blind, by rw [← hq]; exact hR.recv hc ha, fun U hU hW => ⟨rfl, by show xR D G h U U.heap; rw [hU]; exact hR.moved hW.alike⟩⟩ rfl hn hsize hstack (by show 2 * 0 + _ ≤ 8; omega) hdg hcs) hS kk
theorem x_callI (hexec : p.tables.exec = Jvm.exec) (hb : c.code = cc) (hml : c.maxLocals = nL) (hown : s.vm.findClass own = some m.cls) (hts : ∀ w ∈ xt, w.before args s = true) (hR : xR D G h s H) (hS : va_S (xA G) H0 H locs) {a : Nat} (ho : o = some a) (hM : xC l y b n none rm D G h (.ref a :: As) v h') (hf : xM y b n none k) (hl : Cond.methodLink own index y ∈ xt) (hin : Cond.instanceMethod y ∈ xt) (hy1 : y.name = "<init>")
    (hn : As.length = k) (hsize : ls.size = nL) (hstack : st0 = As.reverse ++ va_rf o :: rest) (hW : (rest.map fun v => v.category).sum ≤ 8) (hdg : decode cc pc = .ok (.invokespecial index, 3)) (hroom : rm.frames + 1 ≤ R.frames ∧ 8 + (n + 11) + rm.locals ≤ R.locals) (hcs : cells + rm.cells ≤ R.cells ∧ slots + rm.slots ≤ R.slots) {st1 : List Value} (hst1 : v.toList ++ rest = st1)
    (kk : ∀ (H1 : Heap) (locs1 : List Loc), xR D G h' s H1 → va_S (xA G) H0 H1 locs1 → W p l e R s m args below meth c H1 locs1 (cells + rm.cells) (slots + rm.slots) Q (F0 m (pc + 3) ls st1)) : W p l e R s m args below meth c H locs cells slots Q (F0 m pc ls st0) := by
  subst hst1
  subst ho
  exact x_ret (As := .ref a :: As) (va_runI (b := a) (rest := rest) (g := F0 m pc ls st0) ⟨hexec, hb, hml, hown, hts⟩ hM ⟨xcallB hts hf hl hroom, hy1, hts _ hin⟩ ⟨xPc_blind, fun U hU hW => ⟨rfl, by show xR D G h U U.heap; rw [hU]; exact hR.moved hW.alike⟩⟩ rfl hn hsize hstack (by show 2 * 0 + _ ≤ 8; omega) hdg hcs) hS kk
theorem x_callF (hexec : p.tables.exec = Jvm.exec) (hb : c.code = cc) (hml : c.maxLocals = nL) (hown : s.vm.findClass own = some m.cls) (hts : ∀ w ∈ xt, w.before args s = true) (hR : xR D G h s H) (hS : va_S (xA G) H0 H locs) {a ci count : Nat} {q : vw_C} {x : MethodName} (hxc : xc h o ci = some a) (hc : vwCl[ci]? = some q) (hq : (q.1, x, y) ∈ xFs) (hM : xC l y b n r rm D G h (.ref a :: As) v h') (hf : xM y b n r k) (hl : Cond.methodLink own index x ∈ xt) (hin : Cond.instanceMethod y ∈ xt) (hse : Cond.selects q.1 x y ∈ xt) (hdn : (parseMethodDescriptor x.desc).map (fun d => d.parameters.length) = some k)
    (hn : As.length = k) (hsize : ls.size = nL) (hstack : st0 = As.reverse ++ va_rf o :: rest) (hW : (rest.map fun v => v.category).sum ≤ 8) (hdg : decode cc pc = .ok (.invokeinterface index count, 5)) (hroom : rm.frames + 1 ≤ R.frames ∧ 8 + (n + 11) + rm.locals ≤ R.locals) (hcs : cells + rm.cells ≤ R.cells ∧ slots + rm.slots ≤ R.slots) {st1 : List Value} (hst1 : v.toList ++ rest = st1)
    (kk : ∀ (H1 : Heap) (locs1 : List Loc), xR D G h' s H1 → va_S (xA G) H0 H1 locs1 → W p l e R s m args below meth c H1 locs1 (cells + rm.cells) (slots + rm.slots) Q (F0 m (pc + 5) ls st1)) : W p l e R s m args below meth c H locs cells slots Q (F0 m pc ls st0) := by
  subst hst1
  obtain ⟨rfl, fs, ha⟩ := xc_spec hxc
  have hT : GoodIn xt (va_wsF own index q.1 x y (xW y b n r)) := by
    refine fun w hw => ?_
    have key : w ∈ xt := by
      simp only [va_wsF, List.mem_append, List.mem_cons, List.not_mem_nil, or_false] at hw
      rcases hw with (rfl | rfl | rfl | rfl) | hw
      · exact hl
      · exact hse
      · exact hin
      · exact hf.2.1
      · exact (List.mem_cons.mp hw).elim (fun e => e ▸ hf.1) (fun e => e)
    exact ⟨key, good_of_word (List.mem_filter.mp key).2⟩
  exact x_ret5 (As := .ref a :: As) (va_runF (C := q.1) (b := a) (rest := rest) (g := F0 m pc ls st0) (hR.2.2.1.1 ci q hc).2 ⟨hexec, hb, hml, hown, hts⟩ hM (va_cwF k hts hT rfl rfl rfl (hR.2.2.2.1.2 _ hq) ⟨(xFs_ok _ hq).1, (xFs_ok _ hq).2, hdn⟩ hroom) ⟨xPc_blind, hR.recv hc ha, fun U hU hW => ⟨rfl, by show xR D G h U U.heap; rw [hU]; exact hR.moved hW.alike⟩⟩ rfl hn hsize hstack (by show 2 * 0 + _ ≤ 8; omega) hdg hcs) hS kk
end XCALLS
end
section
section XMISC
variable {p : Program} {l : Launch} {e : Env} {R : Room} {s : State} {m : MethodId} {args : Array Value} {below : List Frame} {meth : Method} {c : Code} {H : Heap} {locs : List Loc} {cells slots : Nat} {Q : State → Prop}
variable {cc : ByteArray} {pc : Nat} {ls : Array Slot} {rest : List Value} {D : va_G} {G : Nat → Nat} {h h' : xH} {H0 : Heap} {o : Option Nat}
theorem x_aload_n (hexec : p.tables.exec = Jvm.exec) (hb : c.code = cc) {k : Fin 4} {i : Nat} (hdg : decode cc pc = .ok (.aload_n k, 1)) (hi : (k : Nat) = i) (hl : ls[i]? = some (.val (va_rf o)))
    (kk : W p l e R s m args below meth c H locs cells slots Q (F0 m (pc + 1) ls (va_rf o :: rest))) : W p l e R s m args below meth c H locs cells slots Q (F0 m pc ls rest) := by
  cases o with
  | none => exact lv_aload_nN hexec hb hdg hi hl kk
  | some a => exact lv_aload_n hexec hb hdg hi hl kk
theorem x_aload (hexec : p.tables.exec = Jvm.exec) (hb : c.code = cc) {i : Nat} (hdg : decode cc pc = .ok (.aload i, 2)) (hl : ls[i]? = some (.val (va_rf o)))
    (kk : W p l e R s m args below meth c H locs cells slots Q (F0 m (pc + 2) ls (va_rf o :: rest))) : W p l e R s m args below meth c H locs cells slots Q (F0 m pc ls rest) := by
  cases o with
  | none => exact lv_aloadN hexec hb hdg hl kk
  | some a => exact lv_aload hexec hb hdg hl kk
theorem x_astore_n (hexec : p.tables.exec = Jvm.exec) (hb : c.code = cc) {k : Fin 4} {i nL : Nat} {lv lv' : List (Nat × Value)} (hdg : decode cc pc = .ok (.astore_n k, 1)) (hi : (k : Nat) = i) (hl : lv_has ls nL lv) (hn : i < nL) (hl' : (i, va_rf o) :: lv.filter (fun q => !(q.1 == i) && !(q.1 + 1 == i && q.2.category == 2)) = lv')
    (kk : ∀ ls : Array Slot, lv_has ls nL lv' → W p l e R s m args below meth c H locs cells slots Q (F0 m (pc + 1) ls rest)) : W p l e R s m args below meth c H locs cells slots Q (F0 m pc ls (va_rf o :: rest)) := by
  cases o with
  | none => exact lv_astore_nN hexec hb hdg hi hl hn hl' kk
  | some a => exact lv_astore_n hexec hb hdg hi hl hn hl' kk
theorem x_astore (hexec : p.tables.exec = Jvm.exec) (hb : c.code = cc) {i nL : Nat} {lv lv' : List (Nat × Value)} (hdg : decode cc pc = .ok (.astore i, 2)) (hl : lv_has ls nL lv) (hn : i < nL) (hl' : (i, va_rf o) :: lv.filter (fun q => !(q.1 == i) && !(q.1 + 1 == i && q.2.category == 2)) = lv')
    (kk : ∀ ls : Array Slot, lv_has ls nL lv' → W p l e R s m args below meth c H locs cells slots Q (F0 m (pc + 2) ls rest)) : W p l e R s m args below meth c H locs cells slots Q (F0 m pc ls (va_rf o :: rest)) := by
  cases o with
  | none => exact lv_astoreN hexec hb hdg hl hn hl' kk
  | some a => exact lv_astore hexec hb hdg hl hn hl' kk
theorem x_ifnull (hexec : p.tables.exec = Jvm.exec) (hb : c.code = cc) {off : Int} {tgt : Nat} (hdg : decode cc pc = .ok (.ifnull off, 3)) (ht : (pc : Int) + off = (tgt : Int)) (kt : o = none → W p l e R s m args below meth c H locs cells slots Q (F0 m tgt ls rest)) (kf : ¬ o = none → W p l e R s m args below meth c H locs cells slots Q (F0 m (pc + 3) ls rest)) : W p l e R s m args below meth c H locs cells slots Q (F0 m pc ls (va_rf o :: rest)) := by
  cases o with
  | none => exact lv_ifnullN hexec hb hdg ht (kt rfl)
  | some a => exact lv_ifnull hexec hb hdg (kf (fun z => by cases z))
theorem x_ifnonnull (hexec : p.tables.exec = Jvm.exec) (hb : c.code = cc) {off : Int} {tgt : Nat} (hdg : decode cc pc = .ok (.ifnonnull off, 3)) (ht : (pc : Int) + off = (tgt : Int)) (kt : ¬ o = none → W p l e R s m args below meth c H locs cells slots Q (F0 m tgt ls rest)) (kf : o = none → W p l e R s m args below meth c H locs cells slots Q (F0 m (pc + 3) ls rest)) : W p l e R s m args below meth c H locs cells slots Q (F0 m pc ls (va_rf o :: rest)) := by
  cases o with
  | none => exact lv_ifnonnullN hexec hb hdg (kf rfl)
  | some a => exact lv_ifnonnull hexec hb hdg ht (kt (fun z => by cases z))
/-- a cast to the object's own class; null passes -/
theorem x_cast (hexec : p.tables.exec = Jvm.exec) (hb : c.code = cc) {own : String} {index ci : Nat} {q : vw_C} (hown : s.vm.findClass own = some m.cls) {Ts : List Cond} (hts : ∀ w ∈ Ts, w.before args s = true) (hR : xR D G h s H) (hc : vwCl[ci]? = some q) (hlink : Cond.classLink own index q.1 ∈ Ts) (hv : o = none ∨ ∃ a, xc h o ci = some a) (hdg : decode cc pc = .ok (.checkcast index, 3))
    (kk : W p l e R s m args below meth c H locs cells slots Q (F0 m (pc + 3) ls (va_rf o :: rest))) : W p l e R s m args below meth c H locs cells slots Q (F0 m pc ls (va_rf o :: rest)) := by
  rcases hv with rfl | ⟨a, ha⟩
  · exact lv_castN hexec hb hdg kk
  · obtain ⟨rfl, fs, hf⟩ := xc_spec ha
    exact va_castS hexec hb hown (hts _ hlink) (hR.2.2.1.1 ci q hc).2 (hR.recv hc hf) hdg kk
/-- the empty list's array -/
theorem x_gets (hexec : p.tables.exec = Jvm.exec) (hb : c.code = cc) {own : String} {index : Nat} (hown : s.vm.findClass own = some m.cls) {Ts : List Cond} (hts : ∀ w ∈ Ts, w.before args s = true) (hR : xR D G h s H) (hlink : Cond.fieldLink own index "java/util/ArrayList" "DEFAULTCAPACITY_EMPTY_ELEMENTDATA" "[Ljava/lang/Object;" ∈ Ts) (hdg : decode cc pc = .ok (.getstatic index, 3))
    (kk : W p l e R s m args below meth c H locs cells slots Q (F0 m (pc + 3) ls (va_rf (some (G 1)) :: rest))) : W p l e R s m args below meth c H locs cells slots Q (F0 m pc ls rest) := by
  obtain ⟨cf, kf, fi, f, a, cell, h1, h2, h3, h4, h5, h6, h7, h8⟩ := hR.2.2.2.1.1
  exact W.gets hexec hb hown (hts _ hlink) h1 h2 h3 h4 h5 (fun e => by rw [e] at h6; cases h6) h7 rfl hdg kk
theorem x_new (hexec : p.tables.exec = Jvm.exec) (hb : c.code = cc) {own C : String} {T : u_T} {N ci index : Nat} {Ts : List Cond} (hts : ∀ w ∈ Ts, w.before args s = true) (hin : ∀ w ∈ u_ws C T N, w ∈ Ts) {ty : Nat → FieldType} (hty : ∀ k, k < N → parseFieldDescriptor (T k).2.2.1 = some (ty k)) (hown : s.vm.findClass own = some m.cls) (hcl : Cond.classLink own index C ∈ Ts) (hinst : Cond.instantiable C N ∈ Ts) (hini : Cond.initialized C ∈ Ts)
    (hR : xR D G h s H) (hS : va_S (xA G) H0 H locs) (hc : vwCl[ci]? = some (C, T, N)) {fs : List Value} (hfs : (List.range N).map (fun j => defaultValue (ty j)) = fs) (hcells : cells + 1 ≤ R.cells) (hslots : slots + N ≤ R.slots) (hdg : decode cc pc = .ok (.new index, 3))
    (kk : ∀ (H1 : Heap), xR D G (xn h (.inr (ci, fs))) s H1 → va_S (xA G) H0 H1 locs → W p l e R s m args below meth c H1 locs (cells + 1) (slots + N) Q (F0 m (pc + 3) ls (va_rf (some h.1) :: rest))) : W p l e R s m args below meth c H locs cells slots Q (F0 m pc ls rest) := by
  have hKn := hR.2.2.1.1 ci _ hc
  refine W.newcK hexec hb hown (hts _ hcl) (hts _ hinst) (hts _ hini) rfl hdg hcells hslots hKn.2.1 hR.1 fun H1 kC hkC e1 z1 o1 => ?_
  refine kk H1 (hR.new ⟨_, hc, (u_born ty hts hin hKn hkC e1 hty).to (fun j hj => ?_)⟩ (by rw [z1, hR.1]) (fun q hq => o1 q (by rw [← hR.1]; exact hq))) ⟨by rw [z1, ← hR.1]; exact Nat.le_succ_of_le hS.1, fun x h1 h2 => (o1 x (by rw [← hR.1]; exact Nat.lt_of_lt_of_le h1 hS.1)).trans (hS.2.1 x h1 h2), hS.2.2⟩
  subst hfs
  simp [vp_V, hj]
theorem xarr {U : State} {t0 : Nat} {cA cB : ClassId} {ty : FieldType} (hR : xR D G h U H) (h1 : (xTy G)[t0]? = some (cA, ty)) (hty : ty = .int ∨ ty = .boolean ∨ ty = .long) (h2 : U.vm.findClass ("[" ++ ty.toString) = some cB) : cB = cA := by
  have h3 := (hR.2.2.1.2 t0 _ h1).2
  rcases hty with rfl | rfl | rfl <;> exact Option.some.inj (h2.symm.trans h3)
/-- an array of zeros: of int, of boolean -/
theorem x_newI (hexec : p.tables.exec = Jvm.exec) (hb : c.code = cc) {Ts : List Cond} (hts : ∀ w ∈ Ts, w.before args s = true) (harr : Cond.arrayClass .int ∈ Ts) (hR : xR D G h s H) (hS : va_S (xA G) H0 H locs) {n : Int32} {N : Nat} (hn : ¬ n < 0) (hN : n.toNatClampNeg = N) (hbytes : N ≤ 100000) (hcells : cells + 1 ≤ R.cells) (hslots : slots + N ≤ R.slots) (hdg : decode cc pc = .ok (.newarray .int, 2))
    (kk : ∀ (H1 : Heap), xR D G (xn h (.inl (G 2, N, .inl (fun _ => 0)))) s H1 → va_S (xA G) H0 H1 locs → W p l e R s m args below meth c H1 locs (cells + 1) (slots + N) Q (F0 m (pc + 2) ls (va_rf (some h.1) :: rest))) : W p l e R s m args below meth c H locs cells slots Q (F0 m pc ls (.int n :: rest)) := by
  refine va_newaK hexec hb (atype := .int) (hts _ harr) rfl hdg rfl hn hN (by show N * 4 ≤ _; omega) hcells hslots hR.1 fun H1 cA e1 z1 o1 hAr hNm => ?_
  have hcA := xarr hR (t0 := 0) rfl (Or.inl rfl) hNm
  subst hcA
  exact kk H1 (hR.new (by exact e1) (by rw [z1, hR.1]) (fun q hq => o1 q (by rw [← hR.1]; exact hq))) ⟨by rw [z1, ← hR.1]; exact Nat.le_succ_of_le hS.1, fun x h1 h2 => (o1 x (by rw [← hR.1]; exact Nat.lt_of_lt_of_le h1 hS.1)).trans (hS.2.1 x h1 h2), hS.2.2⟩
theorem x_newZ (hexec : p.tables.exec = Jvm.exec) (hb : c.code = cc) {Ts : List Cond} (hts : ∀ w ∈ Ts, w.before args s = true) (harr : Cond.arrayClass .boolean ∈ Ts) (hR : xR D G h s H) (hS : va_S (xA G) H0 H locs) {n : Int32} {N : Nat} (hn : ¬ n < 0) (hN : n.toNatClampNeg = N) (hbytes : N ≤ 100000) (hcells : cells + 1 ≤ R.cells) (hslots : slots + N ≤ R.slots) (hdg : decode cc pc = .ok (.newarray .boolean, 2))
    (kk : ∀ (H1 : Heap), xR D G (xn h (.inl (G 3, N, .inl (fun _ => 0)))) s H1 → va_S (xA G) H0 H1 locs → W p l e R s m args below meth c H1 locs (cells + 1) (slots + N) Q (F0 m (pc + 2) ls (va_rf (some h.1) :: rest))) : W p l e R s m args below meth c H locs cells slots Q (F0 m pc ls (.int n :: rest)) := by
  refine va_newaK hexec hb (atype := .boolean) (hts _ harr) rfl hdg rfl hn hN (by show N * 1 ≤ _; omega) hcells hslots hR.1 fun H1 cA e1 z1 o1 hAr hNm => ?_
  have hcA := xarr hR (t0 := 1) rfl (Or.inr (Or.inl rfl)) hNm
  subst hcA
  exact kk H1 (hR.new (by exact e1) (by rw [z1, hR.1]) (fun q hq => o1 q (by rw [← hR.1]; exact hq))) ⟨by rw [z1, ← hR.1]; exact Nat.le_succ_of_le hS.1, fun x h1 h2 => (o1 x (by rw [← hR.1]; exact Nat.lt_of_lt_of_le h1 hS.1)).trans (hS.2.1 x h1 h2), hS.2.2⟩
theorem x_newJ (hexec : p.tables.exec = Jvm.exec) (hb : c.code = cc) {Ts : List Cond} (hts : ∀ w ∈ Ts, w.before args s = true) (harr : Cond.arrayClass .long ∈ Ts) (hR : xR D G h s H) (hS : va_S (xA G) H0 H locs) {n : Int32} {N : Nat} (hn : ¬ n < 0) (hN : n.toNatClampNeg = N) (hbytes : N ≤ 100000) (hcells : cells + 1 ≤ R.cells) (hslots : slots + N ≤ R.slots) (hdg : decode cc pc = .ok (.newarray .long, 2))
    (kk : ∀ (H1 : Heap), xR D G (xn h (.inl (G 4, N, .inr (.inl (fun _ => 0))))) s H1 → va_S (xA G) H0 H1 locs → W p l e R s m args below meth c H1 locs (cells + 1) (slots + N) Q (F0 m (pc + 2) ls (va_rf (some h.1) :: rest))) : W p l e R s m args below meth c H locs cells slots Q (F0 m pc ls (.int n :: rest)) := by
  refine va_newaK hexec hb (atype := .long) (hts _ harr) rfl hdg rfl hn hN (by show N * 8 ≤ _; omega) hcells hslots hR.1 fun H1 cA e1 z1 o1 hAr hNm => ?_
  have hcA := xarr hR (t0 := 2) rfl (Or.inr (Or.inr rfl)) hNm
  subst hcA
  exact kk H1 (hR.new (by exact e1) (by rw [z1, hR.1]) (fun q hq => o1 q (by rw [← hR.1]; exact hq))) ⟨by rw [z1, ← hR.1]; exact Nat.le_succ_of_le hS.1, fun x h1 h2 => (o1 x (by rw [← hR.1]; exact Nat.lt_of_lt_of_le h1 hS.1)).trans (hS.2.1 x h1 h2), hS.2.2⟩
theorem x_oinit (hexec : p.tables.exec = Jvm.exec) (hb : c.code = cc) {own : String} {index : Nat} (hown : s.vm.findClass own = some m.cls) (hml : c.maxLocals = ls.size) {Ts : List Cond} (hts : ∀ w ∈ Ts, w.before args s = true) (hl : Cond.methodLink own index Lib.objectInit ∈ Ts) (hi : Cond.instanceMethod Lib.objectInit ∈ Ts) (hcd : Cond.code Lib.objectInit ⟨#[0xb1]⟩ 1 none ∈ Ts) {a : Nat} (ho : o = some a) (hdg : decode cc pc = .ok (.invokespecial index, 3)) (hframes : 1 ≤ R.frames) (hW : (rest.map fun v => v.category).sum ≤ 8) (hlocals : 20 ≤ R.locals)
    (kk : W p l e R s m args below meth c H locs cells slots Q (F0 m (pc + 3) ls rest)) : W p l e R s m args below meth c H locs cells slots Q (F0 m pc ls (va_rf o :: rest)) := by
  subst ho
  exact W.objInit (g := F0 m pc ls (.ref a :: rest)) (a := a) (rest := rest) hexec hb hown (hts _ hl) (hts _ hi) (hts _ hcd) rfl hml.symm rfl hdg hframes (by show 2 * 0 + _ + 12 ≤ _; omega) kk
section XEND
variable {rm : Room}
theorem x_iret (hexec : p.tables.exec = Jvm.exec) (hb : c.code = cc) {v : Int32} {ty : FieldType} (hr : meth.sig.returnType = some ty) (hn : narrow ty (.int v) = .int v) (hlk : meth.locks = false) (hR : xR D G h s H) (hS : va_S (xA G) s.heap H locs) (hc : cells ≤ rm.cells) (hs : slots ≤ rm.slots) (hdg : decode cc pc = .ok (.ireturn, 1)) : W p l e R s m args below meth c H locs cells slots (MQ below (xQ D G (some (.int v)) h) args s rm.cells rm.slots (xA G)) (F0 m pc ls [.int v]) :=
  W.widen hc hs (W.zret hexec hb hr hn (fun t ht hW => ⟨rfl, by rw [ht]; exact hR.moved hW.alike, hS.F ht⟩) hS.2.2 hdg hlk)
theorem x_lret (hexec : p.tables.exec = Jvm.exec) (hb : c.code = cc) {v : Int64} (hr : meth.sig.returnType = some .long) (hlk : meth.locks = false) (hR : xR D G h s H) (hS : va_S (xA G) s.heap H locs) (hc : cells ≤ rm.cells) (hs : slots ≤ rm.slots) (hdg : decode cc pc = .ok (.lreturn, 1)) : W p l e R s m args below meth c H locs cells slots (MQ below (xQ D G (some (.long v)) h) args s rm.cells rm.slots (xA G)) (F0 m pc ls [.long v]) :=
  W.widen hc hs (W.lret hexec hb hr (fun t ht hW => ⟨rfl, by rw [ht]; exact hR.moved hW.alike, hS.F ht⟩) hS.2.2 hdg hlk)
theorem x_vret (hexec : p.tables.exec = Jvm.exec) (hb : c.code = cc) (hr : meth.sig.returnType = none) (hlk : meth.locks = false) (hR : xR D G h s H) (hS : va_S (xA G) s.heap H locs) (hc : cells ≤ rm.cells) (hs : slots ≤ rm.slots) (hdg : decode cc pc = .ok (.return_, 1)) : W p l e R s m args below meth c H locs cells slots (MQ below (xQ D G none h) args s rm.cells rm.slots (xA G)) (F0 m pc ls []) :=
  W.widen hc hs (W.vret hexec hb hr (fun t ht hW => ⟨rfl, by rw [ht]; exact hR.moved hW.alike, hS.F ht⟩) hS.2.2 hdg hlk)
theorem x_aret (hexec : p.tables.exec = Jvm.exec) (hb : c.code = cc) {rt : FieldType} (hr : meth.sig.returnType = some rt) (hrt : (∃ n, rt = .object n) ∨ ∃ t, rt = .array t) (hlk : meth.locks = false) (hR : xR D G h s H) (hS : va_S (xA G) s.heap H locs) (hc : cells ≤ rm.cells) (hs : slots ≤ rm.slots) (hdg : decode cc pc = .ok (.areturn, 1)) : W p l e R s m args below meth c H locs cells slots (MQ below (xQ D G (some (va_rf o)) h) args s rm.cells rm.slots (xA G)) (F0 m pc ls [va_rf o]) :=
  W.widen hc hs (W.aret hexec hb hr hrt (by cases o with | none => exact Or.inl rfl | some a => exact Or.inr ⟨a, rfl⟩) (fun t ht hW => ⟨rfl, by rw [ht]; exact hR.moved hW.alike, hS.F ht⟩) hS.2.2 hdg hlk)
end XEND
end XMISC
/-- A METHOD'S BODY: from its entry -/
theorem xC_of {l : Launch} {y : MethodName} {b : ByteArray} {n : Nat} {r : Option FieldType} {rm : Room} {D : va_G} {G : Nat → Nat} {h h' : xH} {as : List Value} {v : Option Value} (hy : plainName y.cls = true) (hn : (lg_sl as).length ≤ n)
    (body : ∀ (p : Program) (e : Env) (s : State) (m : MethodId) (args : Array Value) (below : List Frame) (meth : Method) (c : Code) (ls : Array Slot), p.tables.exec = Jvm.exec → c.code = b → meth.sig.returnType = r → meth.locks = false → c.maxLocals = n → s.vm.findClass y.cls = some m.cls → meth.name = y.name → (∀ w ∈ xt, w.before args s = true) → xR D G h s s.heap → va_S (xA G) s.heap s.heap [] → lv_has ls n (lv_args 0 as) →
      W p l e rm s m args below meth c s.heap [] 0 0 (MQ below (xQ D G v h') args s rm.cells rm.slots (xA G)) (F0 m 0 ls [])) : xC l y b n r rm D G h as v h' := by
  refine Met.ofW (cc := b) (maxL := n) (ret := r) hy rfl ?_
  intro p e s m args below meth c s₁ B hml hv
  obtain ⟨rfl, hR⟩ := hv
  have hl := lv_entry as (n := n) hn
  rw [lg_entry_eq]
  have hts := atoms_spec (ws := xW y b n r) B.pre
  exact body p e s m _ below meth c _ B.exec B.bytes B.returns B.notSynchronized hml (findClass_of_methodNamed B.named) (name_of_methodNamed B.named B.method).1 (fun w hw => hts w (List.mem_cons_of_mem _ hw)) hR va_S.rf hl
end
section
/-! small words of the functions that a program lays, and what their answers say -/
def xl {α β : Type} (a : α) (f : α → β) : β := f a
theorem xlet {α β : Type} {a v : α} {f : α → β} {r : β} (e : v = a) (h : xl a f = r) : f v = r := by subst e; exact h
theorem xbind {α β : Type} {x : Option α} {f : α → Option β} {r : β} (h : x.bind f = some r) : ∃ a, x = some a ∧ f a = some r := Option.bind_eq_some_iff.mp h
theorem xift {c : Prop} [Decidable c] {α : Type} {a b r : α} (hc : c) (h : (if c then a else b) = r) : a = r := by rw [if_pos hc] at h; exact h
theorem xiff {c : Prop} [Decidable c] {α : Type} {a b r : α} (hc : ¬ c) (h : (if c then a else b) = r) : b = r := by rw [if_neg hc] at h; exact h
def xg {α : Type} (c : Prop) [Decidable c] (x : Option α) : Option α := if c then x else none
theorem xguard {α : Type} {c : Prop} [Decidable c] {x : Option α} {r : α} (h : xg c x = some r) : c ∧ x = some r := by
  unfold xg at h
  split at h
  · rename_i hc
    exact ⟨hc, h⟩
  · cases h
def xk {α : Type} (h : xH) (o : Option Nat) (ci : Nat) (x : Option α) : Option α := if o = none ∨ (xc h o ci).isSome then x else none
theorem xkguard {α : Type} {h : xH} {o : Option Nat} {ci : Nat} {x : Option α} {r : α} (e : xk h o ci x = some r) : (o = none ∨ ∃ a, xc h o ci = some a) ∧ x = some r := by
  unfold xk at e
  split at e
  · rename_i hc
    exact ⟨hc.imp id Option.isSome_iff_exists.mp, e⟩
  · cases e
/-- the bound of every loop: far above what a run needs -/
def xN : Nat := 200000
def nO (h : xH) (ci : Nat) (fs : List Value) : Option (Nat × xH) := some (h.1, xn h (.inr (ci, fs)))
def nAI (G : Nat → Nat) (h : xH) (n : Nat) : Option (Nat × xH) := some (h.1, xn h (.inl (G 2, n, .inl (fun _ => 0))))
def nAZ (G : Nat → Nat) (h : xH) (n : Nat) : Option (Nat × xH) := some (h.1, xn h (.inl (G 3, n, .inl (fun _ => 0))))
def nAJ (G : Nat → Nat) (h : xH) (n : Nat) : Option (Nat × xH) := some (h.1, xn h (.inl (G 4, n, .inr (.inl (fun _ => 0)))))
theorem xrf_cat {o : Option Nat} : (va_rf o).category = 1 := by cases o <;> rfl
theorem xnarZ {v : Int32} (h : v = 0 ∨ v = 1) : narrow .boolean (.int v) = .int v := by rcases h with rfl | rfl <;> rfl
theorem xfitZ {v : Int32} (h : v = 0 ∨ v = 1) : fits .boolean (.int v) = true := by rcases h with rfl | rfl <;> rfl
theorem xnarR {o : Option Nat} {C : String} : narrow (.object C) (va_rf o) = va_rf o := by cases o <;> rfl
theorem xfitR {o : Option Nat} {C : String} : fits (.object C) (va_rf o) = true := by cases o <;> rfl
theorem xnarRA {o : Option Nat} {t : FieldType} : narrow (.array t) (va_rf o) = va_rf o := by cases o <;> rfl
theorem xfitRA {o : Option Nat} {t : FieldType} : fits (.array t) (va_rf o) = true := by cases o <;> rfl
/-- one of two classes behind an interface -/
def xI {α : Type} (h : xH) (o : Option Nat) (c0 c1 : Nat) (f g : Nat → Option α) : Option α := match xc h o c0 with
  | some a => f a
  | none => (xc h o c1).bind g
theorem xI_or {α : Type} {h : xH} {o : Option Nat} {c0 c1 : Nat} {f g : Nat → Option α} {r : α} {P Q : Nat → Prop} (e : xI h o c0 c1 f g = some r) (hf : ∀ z, f z = some r → P z) (hg : ∀ z, g z = some r → Q z) : (∃ a, xc h o c0 = some a ∧ P a) ∨ (∃ a, xc h o c1 = some a ∧ Q a) := by
  unfold xI at e
  split at e
  · rename_i a ha
    exact Or.inl ⟨a, ha, hf a e⟩
  · obtain ⟨a, ha, e2⟩ := xbind e
    exact Or.inr ⟨a, ha, hg a e2⟩
section XAUX
variable {p : Program} {l : Launch} {e : Env} {R : Room} {s : State} {m : MethodId} {args : Array Value} {below : List Frame} {meth : Method} {c : Code} {H : Heap} {locs : List Loc} {cells slots : Nat} {Q : State → Prop}
variable {cc : ByteArray} {pc : Nat} {ls : Array Slot} {rest st0 : List Value} {D : va_G} {G : Nat → Nat} {h h' : xH} {H0 : Heap} {o : Option Nat}
theorem x_newO (hexec : p.tables.exec = Jvm.exec) (hb : c.code = cc) {own C : String} {T : u_T} {N ci index : Nat} {Ts : List Cond} (hts : ∀ w ∈ Ts, w.before args s = true) (hin : ∀ w ∈ u_ws C T N, w ∈ Ts) {ty : Nat → FieldType} (hty : ∀ k, k < N → parseFieldDescriptor (T k).2.2.1 = some (ty k)) (hown : s.vm.findClass own = some m.cls) (hcl : Cond.classLink own index C ∈ Ts) (hinst : Cond.instantiable C N ∈ Ts) (hini : Cond.initialized C ∈ Ts)
    (hR : xR D G h s H) (hS : va_S (xA G) H0 H locs) (hc : vwCl[ci]? = some (C, T, N)) {fs : List Value} (hfs : (List.range N).map (fun j => defaultValue (ty j)) = fs) (hcells : cells + 1 ≤ R.cells) (hslots : slots + N ≤ R.slots) {q : Nat} (hv : nO h ci fs = some (q, h')) (hdg : decode cc pc = .ok (.new index, 3))
    (kk : ∀ (H1 : Heap), xR D G h' s H1 → va_S (xA G) H0 H1 locs → W p l e R s m args below meth c H1 locs (cells + 1) (slots + N) Q (F0 m (pc + 3) ls (va_rf (some q) :: rest))) : W p l e R s m args below meth c H locs cells slots Q (F0 m pc ls rest) := by
  cases hv
  exact x_new hexec hb hts hin hty hown hcl hinst hini hR hS hc hfs hcells hslots hdg kk
theorem x_nAI (hexec : p.tables.exec = Jvm.exec) (hb : c.code = cc) {Ts : List Cond} (hts : ∀ w ∈ Ts, w.before args s = true) (harr : Cond.arrayClass .int ∈ Ts) (hR : xR D G h s H) (hS : va_S (xA G) H0 H locs) {n : Int32} {N : Nat} (hn : ¬ n < 0) (hN : n.toNatClampNeg = N) (hbytes : N ≤ 100000) (hcells : cells + 1 ≤ R.cells) (hslots : slots + N ≤ R.slots) {q : Nat} (hv : nAI G h N = some (q, h')) (hdg : decode cc pc = .ok (.newarray .int, 2))
    (kk : ∀ (H1 : Heap), xR D G h' s H1 → va_S (xA G) H0 H1 locs → W p l e R s m args below meth c H1 locs (cells + 1) (slots + N) Q (F0 m (pc + 2) ls (va_rf (some q) :: rest))) : W p l e R s m args below meth c H locs cells slots Q (F0 m pc ls (.int n :: rest)) := by
  cases hv
  exact x_newI hexec hb hts harr hR hS hn hN hbytes hcells hslots hdg kk
theorem x_nAZ (hexec : p.tables.exec = Jvm.exec) (hb : c.code = cc) {Ts : List Cond} (hts : ∀ w ∈ Ts, w.before args s = true) (harr : Cond.arrayClass .boolean ∈ Ts) (hR : xR D G h s H) (hS : va_S (xA G) H0 H locs) {n : Int32} {N : Nat} (hn : ¬ n < 0) (hN : n.toNatClampNeg = N) (hbytes : N ≤ 100000) (hcells : cells + 1 ≤ R.cells) (hslots : slots + N ≤ R.slots) {q : Nat} (hv : nAZ G h N = some (q, h')) (hdg : decode cc pc = .ok (.newarray .boolean, 2))
    (kk : ∀ (H1 : Heap), xR D G h' s H1 → va_S (xA G) H0 H1 locs → W p l e R s m args below meth c H1 locs (cells + 1) (slots + N) Q (F0 m (pc + 2) ls (va_rf (some q) :: rest))) : W p l e R s m args below meth c H locs cells slots Q (F0 m pc ls (.int n :: rest)) := by
  cases hv
  exact x_newZ hexec hb hts harr hR hS hn hN hbytes hcells hslots hdg kk
theorem x_nAJ (hexec : p.tables.exec = Jvm.exec) (hb : c.code = cc) {Ts : List Cond} (hts : ∀ w ∈ Ts, w.before args s = true) (harr : Cond.arrayClass .long ∈ Ts) (hR : xR D G h s H) (hS : va_S (xA G) H0 H locs) {n : Int32} {N : Nat} (hn : ¬ n < 0) (hN : n.toNatClampNeg = N) (hbytes : N ≤ 100000) (hcells : cells + 1 ≤ R.cells) (hslots : slots + N ≤ R.slots) {q : Nat} (hv : nAJ G h N = some (q, h')) (hdg : decode cc pc = .ok (.newarray .long, 2))
    (kk : ∀ (H1 : Heap), xR D G h' s H1 → va_S (xA G) H0 H1 locs → W p l e R s m args below meth c H1 locs (cells + 1) (slots + N) Q (F0 m (pc + 2) ls (va_rf (some q) :: rest))) : W p l e R s m args below meth c H locs cells slots Q (F0 m pc ls (.int n :: rest)) := by
  cases hv
  exact x_newJ hexec hb hts harr hR hS hn hN hbytes hcells hslots hdg kk
theorem x_callF2 {y0 y1 x : MethodName} {b0 b1 : ByteArray} {n0 n1 k nL index count ci0 ci1 : Nat} {r0 r1 : Option FieldType} {rm0 rm1 : Room} {v : Option Value} {As : List Value} {own : String} {q0 q1 : vw_C} (hexec : p.tables.exec = Jvm.exec) (hb : c.code = cc) (hml : c.maxLocals = nL) (hown : s.vm.findClass own = some m.cls) (hts : ∀ w ∈ xt, w.before args s = true) (hR : xR D G h s H) (hS : va_S (xA G) H0 H locs) (hc0 : vwCl[ci0]? = some q0) (hc1 : vwCl[ci1]? = some q1) (hq0 : (q0.1, x, y0) ∈ xFs) (hq1 : (q1.1, x, y1) ∈ xFs)
    (hd : (∃ a, xc h o ci0 = some a ∧ xC l y0 b0 n0 r0 rm0 D G h (.ref a :: As) v h) ∨ (∃ a, xc h o ci1 = some a ∧ xC l y1 b1 n1 r1 rm1 D G h (.ref a :: As) v h)) (hf0 : xM y0 b0 n0 r0 k) (hf1 : xM y1 b1 n1 r1 k) (hl : Cond.methodLink own index x ∈ xt) (hin0 : Cond.instanceMethod y0 ∈ xt) (hin1 : Cond.instanceMethod y1 ∈ xt) (hse0 : Cond.selects q0.1 x y0 ∈ xt) (hse1 : Cond.selects q1.1 x y1 ∈ xt) (hdn : (parseMethodDescriptor x.desc).map (fun d => d.parameters.length) = some k)
    (z0 : rm0.cells = 0) (z0' : rm0.slots = 0) (z1 : rm1.cells = 0) (z1' : rm1.slots = 0) (hn : As.length = k) (hsize : ls.size = nL) (hstack : st0 = As.reverse ++ va_rf o :: rest) (hW : (rest.map fun v => v.category).sum ≤ 8) (hdg : decode cc pc = .ok (.invokeinterface index count, 5)) (hroom0 : rm0.frames + 1 ≤ R.frames ∧ 8 + (n0 + 11) + rm0.locals ≤ R.locals) (hroom1 : rm1.frames + 1 ≤ R.frames ∧ 8 + (n1 + 11) + rm1.locals ≤ R.locals) (hcs : cells ≤ R.cells ∧ slots ≤ R.slots) {st1 : List Value} (hst1 : v.toList ++ rest = st1)
    (kk : ∀ (H1 : Heap) (locs1 : List Loc), xR D G h s H1 → va_S (xA G) H0 H1 locs1 → W p l e R s m args below meth c H1 locs1 cells slots Q (F0 m (pc + 5) ls st1)) : W p l e R s m args below meth c H locs cells slots Q (F0 m pc ls st0) := by
  rcases hd with ⟨a, ha, hM⟩ | ⟨a, ha, hM⟩
  · exact x_callF hexec hb hml hown hts hR hS ha hc0 hq0 hM hf0 hl hin0 hse0 hdn hn hsize hstack hW hdg hroom0 (by rw [z0, z0']; exact hcs) hst1 (by rw [z0, z0']; exact kk)
  · exact x_callF hexec hb hml hown hts hR hS ha hc1 hq1 hM hf1 hl hin1 hse1 hdn hn hsize hstack hW hdg hroom1 (by rw [z1, z1']; exact hcs) hst1 (by rw [z1, z1']; exact kk)
end XAUX
end
section
theorem mm_5 : Cond.selects "ShareKeeper$Source" ⟨"ShareKeeper$Source", "isOpen", "(II)Z"⟩ ⟨"ShareKeeper$Source", "isOpen", "(II)Z"⟩ ∈ xt := xt_of (List.mem_of_getElem? (i := 5) (by decide +kernel)) (by decide +kernel)
theorem mm_70 : Cond.initialized "ShareKeeper$Source" ∈ xt := xt_of (List.mem_of_getElem? (i := 70) (by decide +kernel)) (by decide +kernel)
theorem mm_356 : Cond.fieldLink "ShareKeeper$Source" 23 "ShareKeeper$Source" "late" "I" ∈ xt := xt_of (List.mem_of_getElem? (i := 356) (by decide +kernel)) (by decide +kernel)
theorem mm_359 : Cond.fieldLink "ShareKeeper$Source" 27 "ShareKeeper$Source" "most" "I" ∈ xt := xt_of (List.mem_of_getElem? (i := 359) (by decide +kernel)) (by decide +kernel)
theorem mm_360 : Cond.fieldLink "ShareKeeper$Source" 9 "ShareKeeper$Source" "came" "[I" ∈ xt := xt_of (List.mem_of_getElem? (i := 360) (by decide +kernel)) (by decide +kernel)
theorem mm_361 : Cond.fieldLink "ShareKeeper$Source" 15 "ShareKeeper$Source" "taken" "[Z" ∈ xt := xt_of (List.mem_of_getElem? (i := 361) (by decide +kernel)) (by decide +kernel)
theorem mm_385 : Cond.code ⟨"ShareKeeper$Source", "refusal", "(IIII)I"⟩ prog_10_method_2_code 5 (some .int) ∈ xt := xt_of (List.mem_of_getElem? (i := 385) (by decide +kernel)) (by decide +kernel)
theorem mm_386 : Cond.methodLink "ShareKeeper$Source" 30 ⟨"ShareKeeper$Source", "isOpen", "(II)Z"⟩ ∈ xt := xt_of (List.mem_of_getElem? (i := 386) (by decide +kernel)) (by decide +kernel)
theorem mm_388 : Cond.instanceMethod ⟨"ShareKeeper$Source", "isOpen", "(II)Z"⟩ ∈ xt := xt_of (List.mem_of_getElem? (i := 388) (by decide +kernel)) (by decide +kernel)
theorem mm_389 : Cond.code ⟨"ShareKeeper$Source", "isOpen", "(II)Z"⟩ prog_10_method_5_code 3 (some .boolean) ∈ xt := xt_of (List.mem_of_getElem? (i := 389) (by decide +kernel)) (by decide +kernel)
theorem mm_478 : Cond.code ⟨"ShareKeeper$Source", "toCome", "(II)I"⟩ prog_10_method_4_code 3 (some .int) ∈ xt := xt_of (List.mem_of_getElem? (i := 478) (by decide +kernel)) (by decide +kernel)
theorem iw_Jx4a65c : ∀ w ∈ u_ws RJx4a65c TJx4a65c 3, w ∈ xt := by decide +kernel
theorem iw_X0 : ∀ w ∈ u_ws RX0 TX0 4, w ∈ xt := by decide +kernel
theorem iw_X1 : ∀ w ∈ u_ws RX1 TX1 5, w ∈ xt := by decide +kernel
theorem iw_X2 : ∀ w ∈ u_ws RX2 TX2 5, w ∈ xt := by decide +kernel
theorem iw_X4 : ∀ w ∈ u_ws RX4 TX4 2, w ∈ xt := by decide +kernel
theorem iw_X5 : ∀ w ∈ u_ws RX5 TX5 10, w ∈ xt := by decide +kernel
theorem iw_X6 : ∀ w ∈ u_ws RX6 TX6 6, w ∈ xt := by decide +kernel
theorem iw_X7 : ∀ w ∈ u_ws RX7 TX7 3, w ∈ xt := by decide +kernel
theorem iw_X8 : ∀ w ∈ u_ws RX8 TX8 5, w ∈ xt := by decide +kernel
theorem iw_X9 : ∀ w ∈ u_ws RX9 TX9 2, w ∈ xt := by decide +kernel
theorem iw_X10 : ∀ w ∈ u_ws RX10 TX10 11, w ∈ xt := by decide +kernel
theorem iw_X11 : ∀ w ∈ u_ws RX11 TX11 42, w ∈ xt := by decide +kernel
end
section
def rm_X8_isOpen : Room := { frames := 0, cells := 0, slots := 0, locals := 0 }
theorem f_X8_isOpen : xM yX8_isOpen cX8_isOpen 3 (some .boolean) 2 := ⟨mm_389, mm_70, by decide +kernel, by decide +kernel⟩
theorem dX8_isOpen_0 : decode cX8_isOpen 0 = .ok (.iload_n 1, 1) := by decide +kernel
theorem dX8_isOpen_1 : decode cX8_isOpen 1 = .ok (.iload_n 2, 1) := by decide +kernel
theorem dX8_isOpen_2 : decode cX8_isOpen 2 = .ok (.aload_n 0, 1) := by decide +kernel
theorem dX8_isOpen_3 : decode cX8_isOpen 3 = .ok (.getfield 23, 3) := by decide +kernel
theorem dX8_isOpen_6 : decode cX8_isOpen 6 = .ok (.isub, 1) := by decide +kernel
theorem dX8_isOpen_7 : decode cX8_isOpen 7 = .ok (.if_icmp .lt 7, 3) := by decide +kernel
theorem dX8_isOpen_10 : decode cX8_isOpen 10 = .ok (.iconst 1, 1) := by decide +kernel
theorem dX8_isOpen_11 : decode cX8_isOpen 11 = .ok (.goto 4, 3) := by decide +kernel
theorem dX8_isOpen_14 : decode cX8_isOpen 14 = .ok (.iconst 0, 1) := by decide +kernel
theorem dX8_isOpen_15 : decode cX8_isOpen 15 = .ok (.ireturn, 1) := by decide +kernel
def F_X8_isOpen (G : Nat → Nat) (h : xH) (a0 : Nat) (x1 : Int32) (x2 : Int32) : Option Int32 :=
  (gI h (some a0) 8 0).bind fun v1 =>
  if x1 < (x2 - v1) then
    some 0
  else
  some 1
set_option maxHeartbeats 4000000 in
set_option maxRecDepth 100000 in
theorem t_X8_isOpen (l : Launch) (D : va_G) (G : Nat → Nat) (h : xH) (a0 : Nat) (x1 : Int32) (x2 : Int32) (r : Int32) (hF : F_X8_isOpen G h a0 x1 x2 = some r) : xC l yX8_isOpen cX8_isOpen 3 (some .boolean) rm_X8_isOpen D G h [.ref a0, .int x1, .int x2] (some (.int r)) h := by
  refine xC_of (by decide) (by first | decide | exact Nat.le_of_ble_eq_true rfl) ?_
  intro p e s m args below meth c ls hx hb hr hlk hml hown hnm hts hR hS hl
  have hl : lv_has ls 3 [(0, va_rf (some a0)), (1, .int x1), (2, .int x2)] := hl
  unfold F_X8_isOpen at hF
  refine lv_iload_n hx hb dX8_isOpen_0 rfl (lv_at hl 1 rfl) ?_
  refine lv_iload_n hx hb dX8_isOpen_1 rfl (lv_at hl 2 rfl) ?_
  refine x_aload_n (o := (some a0)) hx hb dX8_isOpen_2 rfl (lv_at hl 0 rfl) ?_
  obtain ⟨v1, ev1, hF⟩ := xbind hF
  refine x_getI (o := (some a0)) (ci := 8) (C := RX8) (T := TX8) (N := 5) hx hb hts iw_X8 hown hR rfl 0 (by decide) mm_356 rfl ev1 dX8_isOpen_3 ?_
  refine lv_isub hx hb dX8_isOpen_6 ?_
  refine lv_icmp_lt (tgt := 14) hx hb dX8_isOpen_7 (by decide) (fun c2 => ?_) (fun c2 => ?_)
  · have hF := xift c2 hF
    refine lv_iconst (v := 0) hx hb dX8_isOpen_14 (by decide) ?_
    cases hF
    exact x_iret hx hb hr rfl hlk hR hS (by decide) (by decide) dX8_isOpen_15
  · have hF := xiff c2 hF
    refine lv_iconst (v := 1) hx hb dX8_isOpen_10 (by decide) ?_
    refine lv_goto (tgt := 15) hx hb dX8_isOpen_11 (by decide) ?_
    cases hF
    exact x_iret hx hb hr rfl hlk hR hS (by decide) (by decide) dX8_isOpen_15
def rm_X8_toCome : Room := { frames := 1, cells := 0, slots := 0, locals := 22 }
theorem f_X8_toCome : xM yX8_toCome cX8_toCome 3 (some .int) 2 := ⟨mm_478, mm_70, by decide +kernel, by decide +kernel⟩
theorem dX8_toCome_0 : decode cX8_toCome 0 = .ok (.iload_n 1, 1) := by decide +kernel
theorem dX8_toCome_1 : decode cX8_toCome 1 = .ok (.ifCond .lt 19, 3) := by decide +kernel
theorem dX8_toCome_4 : decode cX8_toCome 4 = .ok (.iload_n 1, 1) := by decide +kernel
theorem dX8_toCome_5 : decode cX8_toCome 5 = .ok (.sipush 601, 3) := by decide +kernel
theorem dX8_toCome_8 : decode cX8_toCome 8 = .ok (.if_icmp .ge 12, 3) := by decide +kernel
theorem dX8_toCome_11 : decode cX8_toCome 11 = .ok (.aload_n 0, 1) := by decide +kernel
theorem dX8_toCome_12 : decode cX8_toCome 12 = .ok (.iload_n 1, 1) := by decide +kernel
theorem dX8_toCome_13 : decode cX8_toCome 13 = .ok (.iload_n 2, 1) := by decide +kernel
theorem dX8_toCome_14 : decode cX8_toCome 14 = .ok (.invokevirtual 30, 3) := by decide +kernel
theorem dX8_toCome_17 : decode cX8_toCome 17 = .ok (.ifCond .ne 5, 3) := by decide +kernel
theorem dX8_toCome_20 : decode cX8_toCome 20 = .ok (.iconst 0, 1) := by decide +kernel
theorem dX8_toCome_21 : decode cX8_toCome 21 = .ok (.ireturn, 1) := by decide +kernel
theorem dX8_toCome_22 : decode cX8_toCome 22 = .ok (.aload_n 0, 1) := by decide +kernel
theorem dX8_toCome_23 : decode cX8_toCome 23 = .ok (.getfield 27, 3) := by decide +kernel
theorem dX8_toCome_26 : decode cX8_toCome 26 = .ok (.aload_n 0, 1) := by decide +kernel
theorem dX8_toCome_27 : decode cX8_toCome 27 = .ok (.getfield 9, 3) := by decide +kernel
theorem dX8_toCome_30 : decode cX8_toCome 30 = .ok (.iload_n 1, 1) := by decide +kernel
theorem dX8_toCome_31 : decode cX8_toCome 31 = .ok (.iaload, 1) := by decide +kernel
theorem dX8_toCome_32 : decode cX8_toCome 32 = .ok (.isub, 1) := by decide +kernel
theorem dX8_toCome_33 : decode cX8_toCome 33 = .ok (.ireturn, 1) := by decide +kernel
def F_X8_toCome (G : Nat → Nat) (h : xH) (a0 : Nat) (x1 : Int32) (x2 : Int32) : Option Int32 :=
  if x1 < 0 then
    some 0
  else
  if 601 ≤ x1 then
    some 0
  else
  (xc h (some a0) 8).bind fun a4 =>
  (F_X8_isOpen G h a4 x1 x2).bind fun v3 =>
  if v3 = 0 then
    some 0
  else
  (gI h (some a0) 8 2).bind fun v6 =>
  (gR h (some a0) 8 3).bind fun o7 =>
  (ldI 2 G h o7 x1).bind fun v8 =>
  some (v6 - v8)
set_option maxHeartbeats 4000000 in
set_option maxRecDepth 100000 in
theorem t_X8_toCome (l : Launch) (D : va_G) (G : Nat → Nat) (h : xH) (a0 : Nat) (x1 : Int32) (x2 : Int32) (r : Int32) (hF : F_X8_toCome G h a0 x1 x2 = some r) : xC l yX8_toCome cX8_toCome 3 (some .int) rm_X8_toCome D G h [.ref a0, .int x1, .int x2] (some (.int r)) h := by
  refine xC_of (by decide) (by first | decide | exact Nat.le_of_ble_eq_true rfl) ?_
  intro p e s m args below meth c ls hx hb hr hlk hml hown hnm hts hR hS hl
  have hl : lv_has ls 3 [(0, va_rf (some a0)), (1, .int x1), (2, .int x2)] := hl
  unfold F_X8_toCome at hF
  refine lv_iload_n hx hb dX8_toCome_0 rfl (lv_at hl 1 rfl) ?_
  refine lv_if_lt (tgt := 20) hx hb dX8_toCome_1 (by decide) (fun c1 => ?_) (fun c1 => ?_)
  · have hF := xift c1 hF
    refine lv_iconst (v := 0) hx hb dX8_toCome_20 (by decide) ?_
    cases hF
    exact x_iret hx hb hr rfl hlk hR hS (by decide) (by decide) dX8_toCome_21
  · have hF := xiff c1 hF
    refine lv_iload_n hx hb dX8_toCome_4 rfl (lv_at hl 1 rfl) ?_
    refine lv_sipush (v := 601) hx hb dX8_toCome_5 (by decide) ?_
    refine lv_icmp_ge (tgt := 20) hx hb dX8_toCome_8 (by decide) (fun c2 => ?_) (fun c2 => ?_)
    · have hF := xift c2 hF
      refine lv_iconst (v := 0) hx hb dX8_toCome_20 (by decide) ?_
      cases hF
      exact x_iret hx hb hr rfl hlk hR hS (by decide) (by decide) dX8_toCome_21
    · have hF := xiff c2 hF
      refine x_aload_n (o := (some a0)) hx hb dX8_toCome_11 rfl (lv_at hl 0 rfl) ?_
      refine lv_iload_n hx hb dX8_toCome_12 rfl (lv_at hl 1 rfl) ?_
      refine lv_iload_n hx hb dX8_toCome_13 rfl (lv_at hl 2 rfl) ?_
      obtain ⟨a4, ea4, hF⟩ := xbind hF
      obtain ⟨v3, ev3, hF⟩ := xbind hF
      refine x_callV (o := (some a0)) (ci := 8) (As := [.int x1, .int x2]) (rest := []) (v := (some (.int v3))) (k := 2) hx hb hml hown hts hR hS ea4 rfl rfl (t_X8_isOpen l D G h a4 x1 x2 v3 ev3) f_X8_isOpen mm_386 mm_388 mm_5 rfl hl.1 rfl (by first | exact Nat.le_of_ble_eq_true rfl | simp [xrf_cat, Value.category]) dX8_toCome_14 (by decide) (by decide) rfl (fun H locs hR hS => ?_)
      refine lv_if_ne (tgt := 22) hx hb dX8_toCome_17 (by decide) (fun c5 => ?_) (fun c5 => ?_)
      · have hF := xiff c5 hF
        refine x_aload_n (o := (some a0)) hx hb dX8_toCome_22 rfl (lv_at hl 0 rfl) ?_
        obtain ⟨v6, ev6, hF⟩ := xbind hF
        refine x_getI (o := (some a0)) (ci := 8) (C := RX8) (T := TX8) (N := 5) hx hb hts iw_X8 hown hR rfl 2 (by decide) mm_359 rfl ev6 dX8_toCome_23 ?_
        refine x_aload_n (o := (some a0)) hx hb dX8_toCome_26 rfl (lv_at hl 0 rfl) ?_
        obtain ⟨o7, eo7, hF⟩ := xbind hF
        refine x_getR (o := (some a0)) (ci := 8) (C := RX8) (T := TX8) (N := 5) hx hb hts iw_X8 hown hR rfl 3 (by decide) mm_360 rfl eo7 dX8_toCome_27 ?_
        refine lv_iload_n hx hb dX8_toCome_30 rfl (lv_at hl 1 rfl) ?_
        obtain ⟨v8, ev8, hF⟩ := xbind hF
        refine x_ild (o := o7) hx hb hR ev8 dX8_toCome_31 ?_
        refine lv_isub hx hb dX8_toCome_32 ?_
        cases hF
        exact x_iret hx hb hr rfl hlk hR hS (by decide) (by decide) dX8_toCome_33
      · have hF := xift c5 hF
        refine lv_iconst (v := 0) hx hb dX8_toCome_20 (by decide) ?_
        cases hF
        exact x_iret hx hb hr rfl hlk hR hS (by decide) (by decide) dX8_toCome_21
def rm_X8_refusal : Room := { frames := 1, cells := 0, slots := 0, locals := 22 }
theorem f_X8_refusal : xM yX8_refusal cX8_refusal 5 (some .int) 4 := ⟨mm_385, mm_70, by decide +kernel, by decide +kernel⟩
theorem dX8_refusal_0 : decode cX8_refusal 0 = .ok (.iload_n 1, 1) := by decide +kernel
theorem dX8_refusal_1 : decode cX8_refusal 1 = .ok (.ifCond .lt 21, 3) := by decide +kernel
theorem dX8_refusal_4 : decode cX8_refusal 4 = .ok (.iload_n 1, 1) := by decide +kernel
theorem dX8_refusal_5 : decode cX8_refusal 5 = .ok (.sipush 200, 3) := by decide +kernel
theorem dX8_refusal_8 : decode cX8_refusal 8 = .ok (.if_icmp .ge 14, 3) := by decide +kernel
theorem dX8_refusal_11 : decode cX8_refusal 11 = .ok (.aload_n 0, 1) := by decide +kernel
theorem dX8_refusal_12 : decode cX8_refusal 12 = .ok (.getfield 15, 3) := by decide +kernel
theorem dX8_refusal_15 : decode cX8_refusal 15 = .ok (.iload_n 1, 1) := by decide +kernel
theorem dX8_refusal_16 : decode cX8_refusal 16 = .ok (.baload, 1) := by decide +kernel
theorem dX8_refusal_17 : decode cX8_refusal 17 = .ok (.ifCond .eq 5, 3) := by decide +kernel
theorem dX8_refusal_20 : decode cX8_refusal 20 = .ok (.iconst 2, 1) := by decide +kernel
theorem dX8_refusal_21 : decode cX8_refusal 21 = .ok (.ireturn, 1) := by decide +kernel
theorem dX8_refusal_22 : decode cX8_refusal 22 = .ok (.iload_n 2, 1) := by decide +kernel
theorem dX8_refusal_23 : decode cX8_refusal 23 = .ok (.ifCond .lt 16, 3) := by decide +kernel
theorem dX8_refusal_26 : decode cX8_refusal 26 = .ok (.iload_n 2, 1) := by decide +kernel
theorem dX8_refusal_27 : decode cX8_refusal 27 = .ok (.iload 4, 2) := by decide +kernel
theorem dX8_refusal_29 : decode cX8_refusal 29 = .ok (.if_icmp .gt 10, 3) := by decide +kernel
theorem dX8_refusal_32 : decode cX8_refusal 32 = .ok (.iload_n 2, 1) := by decide +kernel
theorem dX8_refusal_33 : decode cX8_refusal 33 = .ok (.sipush 601, 3) := by decide +kernel
theorem dX8_refusal_36 : decode cX8_refusal 36 = .ok (.if_icmp .lt 5, 3) := by decide +kernel
theorem dX8_refusal_39 : decode cX8_refusal 39 = .ok (.iconst 3, 1) := by decide +kernel
theorem dX8_refusal_40 : decode cX8_refusal 40 = .ok (.ireturn, 1) := by decide +kernel
theorem dX8_refusal_41 : decode cX8_refusal 41 = .ok (.aload_n 0, 1) := by decide +kernel
theorem dX8_refusal_42 : decode cX8_refusal 42 = .ok (.iload_n 2, 1) := by decide +kernel
theorem dX8_refusal_43 : decode cX8_refusal 43 = .ok (.iload 4, 2) := by decide +kernel
theorem dX8_refusal_45 : decode cX8_refusal 45 = .ok (.invokevirtual 30, 3) := by decide +kernel
theorem dX8_refusal_48 : decode cX8_refusal 48 = .ok (.ifCond .ne 5, 3) := by decide +kernel
theorem dX8_refusal_51 : decode cX8_refusal 51 = .ok (.iconst 4, 1) := by decide +kernel
theorem dX8_refusal_52 : decode cX8_refusal 52 = .ok (.ireturn, 1) := by decide +kernel
theorem dX8_refusal_53 : decode cX8_refusal 53 = .ok (.aload_n 0, 1) := by decide +kernel
theorem dX8_refusal_54 : decode cX8_refusal 54 = .ok (.getfield 9, 3) := by decide +kernel
theorem dX8_refusal_57 : decode cX8_refusal 57 = .ok (.iload_n 2, 1) := by decide +kernel
theorem dX8_refusal_58 : decode cX8_refusal 58 = .ok (.iaload, 1) := by decide +kernel
theorem dX8_refusal_59 : decode cX8_refusal 59 = .ok (.iload_n 3, 1) := by decide +kernel
theorem dX8_refusal_60 : decode cX8_refusal 60 = .ok (.iadd, 1) := by decide +kernel
theorem dX8_refusal_61 : decode cX8_refusal 61 = .ok (.aload_n 0, 1) := by decide +kernel
theorem dX8_refusal_62 : decode cX8_refusal 62 = .ok (.getfield 27, 3) := by decide +kernel
theorem dX8_refusal_65 : decode cX8_refusal 65 = .ok (.if_icmp .le 7, 3) := by decide +kernel
theorem dX8_refusal_68 : decode cX8_refusal 68 = .ok (.iconst 5, 1) := by decide +kernel
theorem dX8_refusal_69 : decode cX8_refusal 69 = .ok (.goto 4, 3) := by decide +kernel
theorem dX8_refusal_72 : decode cX8_refusal 72 = .ok (.iconst 0, 1) := by decide +kernel
theorem dX8_refusal_73 : decode cX8_refusal 73 = .ok (.ireturn, 1) := by decide +kernel
def F_X8_refusal (G : Nat → Nat) (h : xH) (a0 : Nat) (x1 : Int32) (x2 : Int32) (x3 : Int32) (x4 : Int32) : Option Int32 :=
  if x1 < 0 then
    if x2 < 0 then
      some 3
    else
    if x4 < x2 then
      some 3
    else
    if x2 < 601 then
      (xc h (some a0) 8).bind fun a6 =>
      (F_X8_isOpen G h a6 x2 x4).bind fun v5 =>
      if v5 = 0 then
        some 4
      else
      (gR h (some a0) 8 3).bind fun o8 =>
      (ldI 2 G h o8 x2).bind fun v9 =>
      (gI h (some a0) 8 2).bind fun v10 =>
      if (v9 + x3) ≤ v10 then
        some 0
      else
      some 5
    else
    some 3
  else
  if 200 ≤ x1 then
    if x2 < 0 then
      some 3
    else
    if x4 < x2 then
      some 3
    else
    if x2 < 601 then
      (xc h (some a0) 8).bind fun a17 =>
      (F_X8_isOpen G h a17 x2 x4).bind fun v16 =>
      if v16 = 0 then
        some 4
      else
      (gR h (some a0) 8 3).bind fun o19 =>
      (ldI 2 G h o19 x2).bind fun v20 =>
      (gI h (some a0) 8 2).bind fun v21 =>
      if (v20 + x3) ≤ v21 then
        some 0
      else
      some 5
    else
    some 3
  else
  (gR h (some a0) 8 4).bind fun o23 =>
  (ldI 3 G h o23 x1).bind fun v24 =>
  if v24 = 0 then
    if x2 < 0 then
      some 3
    else
    if x4 < x2 then
      some 3
    else
    if x2 < 601 then
      (xc h (some a0) 8).bind fun a30 =>
      (F_X8_isOpen G h a30 x2 x4).bind fun v29 =>
      if v29 = 0 then
        some 4
      else
      (gR h (some a0) 8 3).bind fun o32 =>
      (ldI 2 G h o32 x2).bind fun v33 =>
      (gI h (some a0) 8 2).bind fun v34 =>
      if (v33 + x3) ≤ v34 then
        some 0
      else
      some 5
    else
    some 3
  else
  some 2
set_option maxHeartbeats 4000000 in
set_option maxRecDepth 100000 in
theorem t_X8_refusal (l : Launch) (D : va_G) (G : Nat → Nat) (h : xH) (a0 : Nat) (x1 : Int32) (x2 : Int32) (x3 : Int32) (x4 : Int32) (r : Int32) (hF : F_X8_refusal G h a0 x1 x2 x3 x4 = some r) : xC l yX8_refusal cX8_refusal 5 (some .int) rm_X8_refusal D G h [.ref a0, .int x1, .int x2, .int x3, .int x4] (some (.int r)) h := by
  refine xC_of (by decide) (by first | decide | exact Nat.le_of_ble_eq_true rfl) ?_
  intro p e s m args below meth c ls hx hb hr hlk hml hown hnm hts hR hS hl
  have hl : lv_has ls 5 [(0, va_rf (some a0)), (1, .int x1), (2, .int x2), (3, .int x3), (4, .int x4)] := hl
  unfold F_X8_refusal at hF
  refine lv_iload_n hx hb dX8_refusal_0 rfl (lv_at hl 1 rfl) ?_
  refine lv_if_lt (tgt := 22) hx hb dX8_refusal_1 (by decide) (fun c1 => ?_) (fun c1 => ?_)
  · have hF := xift c1 hF
    refine lv_iload_n hx hb dX8_refusal_22 rfl (lv_at hl 2 rfl) ?_
    refine lv_if_lt (tgt := 39) hx hb dX8_refusal_23 (by decide) (fun c2 => ?_) (fun c2 => ?_)
    · have hF := xift c2 hF
      refine lv_iconst (v := 3) hx hb dX8_refusal_39 (by decide) ?_
      cases hF
      exact x_iret hx hb hr rfl hlk hR hS (by decide) (by decide) dX8_refusal_40
    · have hF := xiff c2 hF
      refine lv_iload_n hx hb dX8_refusal_26 rfl (lv_at hl 2 rfl) ?_
      refine lv_iload hx hb dX8_refusal_27 (lv_at hl 4 rfl) ?_
      refine lv_icmp_gt (tgt := 39) hx hb dX8_refusal_29 (by decide) (fun c3 => ?_) (fun c3 => ?_)
      · have hF := xift c3 hF
        refine lv_iconst (v := 3) hx hb dX8_refusal_39 (by decide) ?_
        cases hF
        exact x_iret hx hb hr rfl hlk hR hS (by decide) (by decide) dX8_refusal_40
      · have hF := xiff c3 hF
        refine lv_iload_n hx hb dX8_refusal_32 rfl (lv_at hl 2 rfl) ?_
        refine lv_sipush (v := 601) hx hb dX8_refusal_33 (by decide) ?_
        refine lv_icmp_lt (tgt := 41) hx hb dX8_refusal_36 (by decide) (fun c4 => ?_) (fun c4 => ?_)
        · have hF := xift c4 hF
          refine x_aload_n (o := (some a0)) hx hb dX8_refusal_41 rfl (lv_at hl 0 rfl) ?_
          refine lv_iload_n hx hb dX8_refusal_42 rfl (lv_at hl 2 rfl) ?_
          refine lv_iload hx hb dX8_refusal_43 (lv_at hl 4 rfl) ?_
          obtain ⟨a6, ea6, hF⟩ := xbind hF
          obtain ⟨v5, ev5, hF⟩ := xbind hF
          refine x_callV (o := (some a0)) (ci := 8) (As := [.int x2, .int x4]) (rest := []) (v := (some (.int v5))) (k := 2) hx hb hml hown hts hR hS ea6 rfl rfl (t_X8_isOpen l D G h a6 x2 x4 v5 ev5) f_X8_isOpen mm_386 mm_388 mm_5 rfl hl.1 rfl (by first | exact Nat.le_of_ble_eq_true rfl | simp [xrf_cat, Value.category]) dX8_refusal_45 (by decide) (by decide) rfl (fun H locs hR hS => ?_)
          refine lv_if_ne (tgt := 53) hx hb dX8_refusal_48 (by decide) (fun c7 => ?_) (fun c7 => ?_)
          · have hF := xiff c7 hF
            refine x_aload_n (o := (some a0)) hx hb dX8_refusal_53 rfl (lv_at hl 0 rfl) ?_
            obtain ⟨o8, eo8, hF⟩ := xbind hF
            refine x_getR (o := (some a0)) (ci := 8) (C := RX8) (T := TX8) (N := 5) hx hb hts iw_X8 hown hR rfl 3 (by decide) mm_360 rfl eo8 dX8_refusal_54 ?_
            refine lv_iload_n hx hb dX8_refusal_57 rfl (lv_at hl 2 rfl) ?_
            obtain ⟨v9, ev9, hF⟩ := xbind hF
            refine x_ild (o := o8) hx hb hR ev9 dX8_refusal_58 ?_
            refine lv_iload_n hx hb dX8_refusal_59 rfl (lv_at hl 3 rfl) ?_
            refine lv_iadd hx hb dX8_refusal_60 ?_
            refine x_aload_n (o := (some a0)) hx hb dX8_refusal_61 rfl (lv_at hl 0 rfl) ?_
            obtain ⟨v10, ev10, hF⟩ := xbind hF
            refine x_getI (o := (some a0)) (ci := 8) (C := RX8) (T := TX8) (N := 5) hx hb hts iw_X8 hown hR rfl 2 (by decide) mm_359 rfl ev10 dX8_refusal_62 ?_
            refine lv_icmp_le (tgt := 72) hx hb dX8_refusal_65 (by decide) (fun c11 => ?_) (fun c11 => ?_)
            · have hF := xift c11 hF
              refine lv_iconst (v := 0) hx hb dX8_refusal_72 (by decide) ?_
              cases hF
              exact x_iret hx hb hr rfl hlk hR hS (by decide) (by decide) dX8_refusal_73
            · have hF := xiff c11 hF
              refine lv_iconst (v := 5) hx hb dX8_refusal_68 (by decide) ?_
              refine lv_goto (tgt := 73) hx hb dX8_refusal_69 (by decide) ?_
              cases hF
              exact x_iret hx hb hr rfl hlk hR hS (by decide) (by decide) dX8_refusal_73
          · have hF := xift c7 hF
            refine lv_iconst (v := 4) hx hb dX8_refusal_51 (by decide) ?_
            cases hF
            exact x_iret hx hb hr rfl hlk hR hS (by decide) (by decide) dX8_refusal_52
        · have hF := xiff c4 hF
          refine lv_iconst (v := 3) hx hb dX8_refusal_39 (by decide) ?_
          cases hF
          exact x_iret hx hb hr rfl hlk hR hS (by decide) (by decide) dX8_refusal_40
  · have hF := xiff c1 hF
    refine lv_iload_n hx hb dX8_refusal_4 rfl (lv_at hl 1 rfl) ?_
    refine lv_sipush (v := 200) hx hb dX8_refusal_5 (by decide) ?_
    refine lv_icmp_ge (tgt := 22) hx hb dX8_refusal_8 (by decide) (fun c12 => ?_) (fun c12 => ?_)
    · have hF := xift c12 hF
      refine lv_iload_n hx hb dX8_refusal_22 rfl (lv_at hl 2 rfl) ?_
      refine lv_if_lt (tgt := 39) hx hb dX8_refusal_23 (by decide) (fun c13 => ?_) (fun c13 => ?_)
      · have hF := xift c13 hF
        refine lv_iconst (v := 3) hx hb dX8_refusal_39 (by decide) ?_
        cases hF
        exact x_iret hx hb hr rfl hlk hR hS (by decide) (by decide) dX8_refusal_40
      · have hF := xiff c13 hF
        refine lv_iload_n hx hb dX8_refusal_26 rfl (lv_at hl 2 rfl) ?_
        refine lv_iload hx hb dX8_refusal_27 (lv_at hl 4 rfl) ?_
        refine lv_icmp_gt (tgt := 39) hx hb dX8_refusal_29 (by decide) (fun c14 => ?_) (fun c14 => ?_)
        · have hF := xift c14 hF
          refine lv_iconst (v := 3) hx hb dX8_refusal_39 (by decide) ?_
          cases hF
          exact x_iret hx hb hr rfl hlk hR hS (by decide) (by decide) dX8_refusal_40
        · have hF := xiff c14 hF
          refine lv_iload_n hx hb dX8_refusal_32 rfl (lv_at hl 2 rfl) ?_
          refine lv_sipush (v := 601) hx hb dX8_refusal_33 (by decide) ?_
          refine lv_icmp_lt (tgt := 41) hx hb dX8_refusal_36 (by decide) (fun c15 => ?_) (fun c15 => ?_)
          · have hF := xift c15 hF
            refine x_aload_n (o := (some a0)) hx hb dX8_refusal_41 rfl (lv_at hl 0 rfl) ?_
            refine lv_iload_n hx hb dX8_refusal_42 rfl (lv_at hl 2 rfl) ?_
            refine lv_iload hx hb dX8_refusal_43 (lv_at hl 4 rfl) ?_
            obtain ⟨a17, ea17, hF⟩ := xbind hF
            obtain ⟨v16, ev16, hF⟩ := xbind hF
            refine x_callV (o := (some a0)) (ci := 8) (As := [.int x2, .int x4]) (rest := []) (v := (some (.int v16))) (k := 2) hx hb hml hown hts hR hS ea17 rfl rfl (t_X8_isOpen l D G h a17 x2 x4 v16 ev16) f_X8_isOpen mm_386 mm_388 mm_5 rfl hl.1 rfl (by first | exact Nat.le_of_ble_eq_true rfl | simp [xrf_cat, Value.category]) dX8_refusal_45 (by decide) (by decide) rfl (fun H locs hR hS => ?_)
            refine lv_if_ne (tgt := 53) hx hb dX8_refusal_48 (by decide) (fun c18 => ?_) (fun c18 => ?_)
            · have hF := xiff c18 hF
              refine x_aload_n (o := (some a0)) hx hb dX8_refusal_53 rfl (lv_at hl 0 rfl) ?_
              obtain ⟨o19, eo19, hF⟩ := xbind hF
              refine x_getR (o := (some a0)) (ci := 8) (C := RX8) (T := TX8) (N := 5) hx hb hts iw_X8 hown hR rfl 3 (by decide) mm_360 rfl eo19 dX8_refusal_54 ?_
              refine lv_iload_n hx hb dX8_refusal_57 rfl (lv_at hl 2 rfl) ?_
              obtain ⟨v20, ev20, hF⟩ := xbind hF
              refine x_ild (o := o19) hx hb hR ev20 dX8_refusal_58 ?_
              refine lv_iload_n hx hb dX8_refusal_59 rfl (lv_at hl 3 rfl) ?_
              refine lv_iadd hx hb dX8_refusal_60 ?_
              refine x_aload_n (o := (some a0)) hx hb dX8_refusal_61 rfl (lv_at hl 0 rfl) ?_
              obtain ⟨v21, ev21, hF⟩ := xbind hF
              refine x_getI (o := (some a0)) (ci := 8) (C := RX8) (T := TX8) (N := 5) hx hb hts iw_X8 hown hR rfl 2 (by decide) mm_359 rfl ev21 dX8_refusal_62 ?_
              refine lv_icmp_le (tgt := 72) hx hb dX8_refusal_65 (by decide) (fun c22 => ?_) (fun c22 => ?_)
              · have hF := xift c22 hF
                refine lv_iconst (v := 0) hx hb dX8_refusal_72 (by decide) ?_
                cases hF
                exact x_iret hx hb hr rfl hlk hR hS (by decide) (by decide) dX8_refusal_73
              · have hF := xiff c22 hF
                refine lv_iconst (v := 5) hx hb dX8_refusal_68 (by decide) ?_
                refine lv_goto (tgt := 73) hx hb dX8_refusal_69 (by decide) ?_
                cases hF
                exact x_iret hx hb hr rfl hlk hR hS (by decide) (by decide) dX8_refusal_73
            · have hF := xift c18 hF
              refine lv_iconst (v := 4) hx hb dX8_refusal_51 (by decide) ?_
              cases hF
              exact x_iret hx hb hr rfl hlk hR hS (by decide) (by decide) dX8_refusal_52
          · have hF := xiff c15 hF
            refine lv_iconst (v := 3) hx hb dX8_refusal_39 (by decide) ?_
            cases hF
            exact x_iret hx hb hr rfl hlk hR hS (by decide) (by decide) dX8_refusal_40
    · have hF := xiff c12 hF
      refine x_aload_n (o := (some a0)) hx hb dX8_refusal_11 rfl (lv_at hl 0 rfl) ?_
      obtain ⟨o23, eo23, hF⟩ := xbind hF
      refine x_getR (o := (some a0)) (ci := 8) (C := RX8) (T := TX8) (N := 5) hx hb hts iw_X8 hown hR rfl 4 (by decide) mm_361 rfl eo23 dX8_refusal_12 ?_
      refine lv_iload_n hx hb dX8_refusal_15 rfl (lv_at hl 1 rfl) ?_
      obtain ⟨v24, ev24, hF⟩ := xbind hF
      refine x_zld (o := o23) hx hb hR ev24 dX8_refusal_16 ?_
      refine lv_if_eq (tgt := 22) hx hb dX8_refusal_17 (by decide) (fun c25 => ?_) (fun c25 => ?_)
      · have hF := xift c25 hF
        refine lv_iload_n hx hb dX8_refusal_22 rfl (lv_at hl 2 rfl) ?_
        refine lv_if_lt (tgt := 39) hx hb dX8_refusal_23 (by decide) (fun c26 => ?_) (fun c26 => ?_)
        · have hF := xift c26 hF
          refine lv_iconst (v := 3) hx hb dX8_refusal_39 (by decide) ?_
          cases hF
          exact x_iret hx hb hr rfl hlk hR hS (by decide) (by decide) dX8_refusal_40
        · have hF := xiff c26 hF
          refine lv_iload_n hx hb dX8_refusal_26 rfl (lv_at hl 2 rfl) ?_
          refine lv_iload hx hb dX8_refusal_27 (lv_at hl 4 rfl) ?_
          refine lv_icmp_gt (tgt := 39) hx hb dX8_refusal_29 (by decide) (fun c27 => ?_) (fun c27 => ?_)
          · have hF := xift c27 hF
            refine lv_iconst (v := 3) hx hb dX8_refusal_39 (by decide) ?_
            cases hF
            exact x_iret hx hb hr rfl hlk hR hS (by decide) (by decide) dX8_refusal_40
          · have hF := xiff c27 hF
            refine lv_iload_n hx hb dX8_refusal_32 rfl (lv_at hl 2 rfl) ?_
            refine lv_sipush (v := 601) hx hb dX8_refusal_33 (by decide) ?_
            refine lv_icmp_lt (tgt := 41) hx hb dX8_refusal_36 (by decide) (fun c28 => ?_) (fun c28 => ?_)
            · have hF := xift c28 hF
              refine x_aload_n (o := (some a0)) hx hb dX8_refusal_41 rfl (lv_at hl 0 rfl) ?_
              refine lv_iload_n hx hb dX8_refusal_42 rfl (lv_at hl 2 rfl) ?_
              refine lv_iload hx hb dX8_refusal_43 (lv_at hl 4 rfl) ?_
              obtain ⟨a30, ea30, hF⟩ := xbind hF
              obtain ⟨v29, ev29, hF⟩ := xbind hF
              refine x_callV (o := (some a0)) (ci := 8) (As := [.int x2, .int x4]) (rest := []) (v := (some (.int v29))) (k := 2) hx hb hml hown hts hR hS ea30 rfl rfl (t_X8_isOpen l D G h a30 x2 x4 v29 ev29) f_X8_isOpen mm_386 mm_388 mm_5 rfl hl.1 rfl (by first | exact Nat.le_of_ble_eq_true rfl | simp [xrf_cat, Value.category]) dX8_refusal_45 (by decide) (by decide) rfl (fun H locs hR hS => ?_)
              refine lv_if_ne (tgt := 53) hx hb dX8_refusal_48 (by decide) (fun c31 => ?_) (fun c31 => ?_)
              · have hF := xiff c31 hF
                refine x_aload_n (o := (some a0)) hx hb dX8_refusal_53 rfl (lv_at hl 0 rfl) ?_
                obtain ⟨o32, eo32, hF⟩ := xbind hF
                refine x_getR (o := (some a0)) (ci := 8) (C := RX8) (T := TX8) (N := 5) hx hb hts iw_X8 hown hR rfl 3 (by decide) mm_360 rfl eo32 dX8_refusal_54 ?_
                refine lv_iload_n hx hb dX8_refusal_57 rfl (lv_at hl 2 rfl) ?_
                obtain ⟨v33, ev33, hF⟩ := xbind hF
                refine x_ild (o := o32) hx hb hR ev33 dX8_refusal_58 ?_
                refine lv_iload_n hx hb dX8_refusal_59 rfl (lv_at hl 3 rfl) ?_
                refine lv_iadd hx hb dX8_refusal_60 ?_
                refine x_aload_n (o := (some a0)) hx hb dX8_refusal_61 rfl (lv_at hl 0 rfl) ?_
                obtain ⟨v34, ev34, hF⟩ := xbind hF
                refine x_getI (o := (some a0)) (ci := 8) (C := RX8) (T := TX8) (N := 5) hx hb hts iw_X8 hown hR rfl 2 (by decide) mm_359 rfl ev34 dX8_refusal_62 ?_
                refine lv_icmp_le (tgt := 72) hx hb dX8_refusal_65 (by decide) (fun c35 => ?_) (fun c35 => ?_)
                · have hF := xift c35 hF
                  refine lv_iconst (v := 0) hx hb dX8_refusal_72 (by decide) ?_
                  cases hF
                  exact x_iret hx hb hr rfl hlk hR hS (by decide) (by decide) dX8_refusal_73
                · have hF := xiff c35 hF
                  refine lv_iconst (v := 5) hx hb dX8_refusal_68 (by decide) ?_
                  refine lv_goto (tgt := 73) hx hb dX8_refusal_69 (by decide) ?_
                  cases hF
                  exact x_iret hx hb hr rfl hlk hR hS (by decide) (by decide) dX8_refusal_73
              · have hF := xift c31 hF
                refine lv_iconst (v := 4) hx hb dX8_refusal_51 (by decide) ?_
                cases hF
                exact x_iret hx hb hr rfl hlk hR hS (by decide) (by decide) dX8_refusal_52
            · have hF := xiff c28 hF
              refine lv_iconst (v := 3) hx hb dX8_refusal_39 (by decide) ?_
              cases hF
              exact x_iret hx hb hr rfl hlk hR hS (by decide) (by decide) dX8_refusal_40
      · have hF := xiff c25 hF
        refine lv_iconst (v := 2) hx hb dX8_refusal_20 (by decide) ?_
        cases hF
        exact x_iret hx hb hr rfl hlk hR hS (by decide) (by decide) dX8_refusal_21
end
