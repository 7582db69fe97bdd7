section
-- ===== PART A: goes FIRST, ahead of the names: the tables' words, and 'selects' of the private methods out of them =====
/-- a private method of a class that the tables say can be made, by its rows of tables_1 -/
def lw_okq (q : MethodName × Nat) : Prop := (q.1.cls ≠ "java/lang/invoke/MethodHandle" ∧ q.1.cls ≠ "java/lang/invoke/VarHandle") ∧ Cond.instantiable q.1.cls q.2 ∈ tables_1 ∧ Cond.privateMethod q.1 ∈ tables_1 ∧ Cond.instanceMethod q.1 ∈ tables_1
theorem lw_p0 : lw_okq (⟨"java/util/ArrayList", "add", "(Ljava/lang/Object;[Ljava/lang/Object;I)V"⟩, 3) := ⟨⟨by decide +kernel, by decide +kernel⟩, List.mem_of_getElem? (i := 35) (by decide +kernel), List.mem_of_getElem? (i := 211) (by decide +kernel), List.mem_of_getElem? (i := 212) (by decide +kernel)⟩
theorem lw_p1 : lw_okq (⟨"java/util/ArrayList", "grow", "()[Ljava/lang/Object;"⟩, 3) := ⟨⟨by decide +kernel, by decide +kernel⟩, List.mem_of_getElem? (i := 35) (by decide +kernel), List.mem_of_getElem? (i := 215) (by decide +kernel), List.mem_of_getElem? (i := 216) (by decide +kernel)⟩
theorem lw_p2 : lw_okq (⟨"java/util/ArrayList", "grow", "(I)[Ljava/lang/Object;"⟩, 3) := ⟨⟨by decide +kernel, by decide +kernel⟩, List.mem_of_getElem? (i := 35) (by decide +kernel), List.mem_of_getElem? (i := 219) (by decide +kernel), List.mem_of_getElem? (i := 220) (by decide +kernel)⟩
theorem lw_p3 : lw_okq (⟨"ShareKeeper", "serviceAt", "(I)LShareKeeper$Service;"⟩, 11) := ⟨⟨by decide +kernel, by decide +kernel⟩, List.mem_of_getElem? (i := 27) (by decide +kernel), List.mem_of_getElem? (i := 271) (by decide +kernel), List.mem_of_getElem? (i := 272) (by decide +kernel)⟩
theorem lw_p4 : lw_okq (⟨"ShareKeeper", "sourceAt", "(I)LShareKeeper$Source;"⟩, 11) := ⟨⟨by decide +kernel, by decide +kernel⟩, List.mem_of_getElem? (i := 27) (by decide +kernel), List.mem_of_getElem? (i := 325) (by decide +kernel), List.mem_of_getElem? (i := 326) (by decide +kernel)⟩
theorem lw_p5 : lw_okq (⟨"ShareKeeper$Source", "isOpen", "(II)Z"⟩, 5) := ⟨⟨by decide +kernel, by decide +kernel⟩, List.mem_of_getElem? (i := 297) (by decide +kernel), List.mem_of_getElem? (i := 333) (by decide +kernel), List.mem_of_getElem? (i := 334) (by decide +kernel)⟩
theorem lw_p6 : lw_okq (⟨"ShareKeeper", "promiseAt", "(I)LShareKeeper$Promise;"⟩, 11) := ⟨⟨by decide +kernel, by decide +kernel⟩, List.mem_of_getElem? (i := 27) (by decide +kernel), List.mem_of_getElem? (i := 384) (by decide +kernel), List.mem_of_getElem? (i := 385) (by decide +kernel)⟩
theorem lw_p7 : lw_okq (⟨"ShareKeeper$Promise", "firstOfSpan", "(I)I"⟩, 6) := ⟨⟨by decide +kernel, by decide +kernel⟩, List.mem_of_getElem? (i := 353) (by decide +kernel), List.mem_of_getElem? (i := 434) (by decide +kernel), List.mem_of_getElem? (i := 435) (by decide +kernel)⟩
theorem lw_p8 : lw_okq (⟨"ShareKeeper$Promise", "lastOfSpan", "(I)I"⟩, 6) := ⟨⟨by decide +kernel, by decide +kernel⟩, List.mem_of_getElem? (i := 353) (by decide +kernel), List.mem_of_getElem? (i := 438) (by decide +kernel), List.mem_of_getElem? (i := 439) (by decide +kernel)⟩
theorem lw_p9 : lw_okq (⟨"ShareKeeper$Promise", "asksAt", "(I)I"⟩, 6) := ⟨⟨by decide +kernel, by decide +kernel⟩, List.mem_of_getElem? (i := 353) (by decide +kernel), List.mem_of_getElem? (i := 443) (by decide +kernel), List.mem_of_getElem? (i := 444) (by decide +kernel)⟩
theorem lw_p10 : lw_okq (⟨"ShareKeeper$Promise", "isIn", "(I)Z"⟩, 6) := ⟨⟨by decide +kernel, by decide +kernel⟩, List.mem_of_getElem? (i := 353) (by decide +kernel), List.mem_of_getElem? (i := 447) (by decide +kernel), List.mem_of_getElem? (i := 448) (by decide +kernel)⟩
theorem lw_p11 : lw_okq (⟨"ShareKeeper$Promise", "badAt", "(I)I"⟩, 6) := ⟨⟨by decide +kernel, by decide +kernel⟩, List.mem_of_getElem? (i := 353) (by decide +kernel), List.mem_of_getElem? (i := 455) (by decide +kernel), List.mem_of_getElem? (i := 456) (by decide +kernel)⟩
theorem lw_p12 : lw_okq (⟨"ShareKeeper$Promise", "leftOf", "(II)I"⟩, 6) := ⟨⟨by decide +kernel, by decide +kernel⟩, List.mem_of_getElem? (i := 353) (by decide +kernel), List.mem_of_getElem? (i := 463) (by decide +kernel), List.mem_of_getElem? (i := 464) (by decide +kernel)⟩
theorem lw_p13 : lw_okq (⟨"ShareKeeper$Parts", "mostMeeting", "(IIZ)I"⟩, 2) := ⟨⟨by decide +kernel, by decide +kernel⟩, List.mem_of_getElem? (i := 61) (by decide +kernel), List.mem_of_getElem? (i := 497) (by decide +kernel), List.mem_of_getElem? (i := 498) (by decide +kernel)⟩
theorem lw_p14 : lw_okq (⟨"ShareKeeper$Parts", "canMeet", "(IIIZ)Z"⟩, 2) := ⟨⟨by decide +kernel, by decide +kernel⟩, List.mem_of_getElem? (i := 61) (by decide +kernel), List.mem_of_getElem? (i := 502) (by decide +kernel), List.mem_of_getElem? (i := 503) (by decide +kernel)⟩
theorem lw_p15 : lw_okq (⟨"ShareKeeper", "alarmAt", "(I)LShareKeeper$Alarm;"⟩, 11) := ⟨⟨by decide +kernel, by decide +kernel⟩, List.mem_of_getElem? (i := 27) (by decide +kernel), List.mem_of_getElem? (i := 543) (by decide +kernel), List.mem_of_getElem? (i := 544) (by decide +kernel)⟩
def lw_privs_1 : List (MethodName × Nat) := [(⟨"java/util/ArrayList", "add", "(Ljava/lang/Object;[Ljava/lang/Object;I)V"⟩, 3), (⟨"java/util/ArrayList", "grow", "()[Ljava/lang/Object;"⟩, 3), (⟨"java/util/ArrayList", "grow", "(I)[Ljava/lang/Object;"⟩, 3), (⟨"ShareKeeper", "serviceAt", "(I)LShareKeeper$Service;"⟩, 11), (⟨"ShareKeeper", "sourceAt", "(I)LShareKeeper$Source;"⟩, 11), (⟨"ShareKeeper$Source", "isOpen", "(II)Z"⟩, 5), (⟨"ShareKeeper", "promiseAt", "(I)LShareKeeper$Promise;"⟩, 11), (⟨"ShareKeeper$Promise", "firstOfSpan", "(I)I"⟩, 6), (⟨"ShareKeeper$Promise", "lastOfSpan", "(I)I"⟩, 6), (⟨"ShareKeeper$Promise", "asksAt", "(I)I"⟩, 6), (⟨"ShareKeeper$Promise", "isIn", "(I)Z"⟩, 6), (⟨"ShareKeeper$Promise", "badAt", "(I)I"⟩, 6), (⟨"ShareKeeper$Promise", "leftOf", "(II)I"⟩, 6), (⟨"ShareKeeper$Parts", "mostMeeting", "(IIZ)I"⟩, 2), (⟨"ShareKeeper$Parts", "canMeet", "(IIIZ)Z"⟩, 2), (⟨"ShareKeeper", "alarmAt", "(I)LShareKeeper$Alarm;"⟩, 11)]
theorem lw_r1 : ∀ q ∈ lw_privs_1, lw_okq q := List.forall_mem_cons.mpr ⟨lw_p0, List.forall_mem_cons.mpr ⟨lw_p1, List.forall_mem_cons.mpr ⟨lw_p2, List.forall_mem_cons.mpr ⟨lw_p3, List.forall_mem_cons.mpr ⟨lw_p4, List.forall_mem_cons.mpr ⟨lw_p5, List.forall_mem_cons.mpr ⟨lw_p6, List.forall_mem_cons.mpr ⟨lw_p7, List.forall_mem_cons.mpr ⟨lw_p8, List.forall_mem_cons.mpr ⟨lw_p9, List.forall_mem_cons.mpr ⟨lw_p10, List.forall_mem_cons.mpr ⟨lw_p11, List.forall_mem_cons.mpr ⟨lw_p12, List.forall_mem_cons.mpr ⟨lw_p13, List.forall_mem_cons.mpr ⟨lw_p14, List.forall_mem_cons.mpr ⟨lw_p15, fun _ h => absurd h List.not_mem_nil⟩⟩⟩⟩⟩⟩⟩⟩⟩⟩⟩⟩⟩⟩⟩⟩
theorem lw_p16 : lw_okq (⟨"ShareKeeper$Alarm", "isOver", "(LShareKeeper$History;II)Z"⟩, 4) := ⟨⟨by decide +kernel, by decide +kernel⟩, List.mem_of_getElem? (i := 519) (by decide +kernel), List.mem_of_getElem? (i := 551) (by decide +kernel), List.mem_of_getElem? (i := 552) (by decide +kernel)⟩
theorem lw_p17 : lw_okq (⟨"ShareKeeper$AlarmSearch", "noteHistory", "(LShareKeeper$SteadyHistory;II)V"⟩, 5) := ⟨⟨by decide +kernel, by decide +kernel⟩, List.mem_of_getElem? (i := 112) (by decide +kernel), List.mem_of_getElem? (i := 618) (by decide +kernel), List.mem_of_getElem? (i := 619) (by decide +kernel)⟩
theorem lw_p18 : lw_okq (⟨"ShareKeeper$AlarmSearch", "measure", "(LShareKeeper$History;II)Z"⟩, 5) := ⟨⟨by decide +kernel, by decide +kernel⟩, List.mem_of_getElem? (i := 112) (by decide +kernel), List.mem_of_getElem? (i := 624) (by decide +kernel), List.mem_of_getElem? (i := 625) (by decide +kernel)⟩
theorem lw_p19 : lw_okq (⟨"ShareKeeper$AlarmSearch", "noteReached", "()V"⟩, 5) := ⟨⟨by decide +kernel, by decide +kernel⟩, List.mem_of_getElem? (i := 112) (by decide +kernel), List.mem_of_getElem? (i := 640) (by decide +kernel), List.mem_of_getElem? (i := 641) (by decide +kernel)⟩
theorem lw_p20 : lw_okq (⟨"ShareKeeper$AlarmSearch", "noteRings", "()V"⟩, 5) := ⟨⟨by decide +kernel, by decide +kernel⟩, List.mem_of_getElem? (i := 112) (by decide +kernel), List.mem_of_getElem? (i := 648) (by decide +kernel), List.mem_of_getElem? (i := 649) (by decide +kernel)⟩
theorem lw_p21 : lw_okq (⟨"ShareKeeper$AlarmSearch", "choose", "()I"⟩, 5) := ⟨⟨by decide +kernel, by decide +kernel⟩, List.mem_of_getElem? (i := 112) (by decide +kernel), List.mem_of_getElem? (i := 652) (by decide +kernel), List.mem_of_getElem? (i := 653) (by decide +kernel)⟩
theorem lw_p22 : lw_okq (⟨"ShareKeeper$AlarmSearch", "chooseRate", "(I)V"⟩, 5) := ⟨⟨by decide +kernel, by decide +kernel⟩, List.mem_of_getElem? (i := 112) (by decide +kernel), List.mem_of_getElem? (i := 656) (by decide +kernel), List.mem_of_getElem? (i := 657) (by decide +kernel)⟩
theorem lw_p23 : lw_okq (⟨"ShareKeeper", "changeAt", "(I)LShareKeeper$Change;"⟩, 11) := ⟨⟨by decide +kernel, by decide +kernel⟩, List.mem_of_getElem? (i := 27) (by decide +kernel), List.mem_of_getElem? (i := 695) (by decide +kernel), List.mem_of_getElem? (i := 696) (by decide +kernel)⟩
theorem lw_p24 : lw_okq (⟨"ShareKeeper", "roomOf", "(I)I"⟩, 11) := ⟨⟨by decide +kernel, by decide +kernel⟩, List.mem_of_getElem? (i := 27) (by decide +kernel), List.mem_of_getElem? (i := 699) (by decide +kernel), List.mem_of_getElem? (i := 700) (by decide +kernel)⟩
theorem lw_p25 : lw_okq (⟨"ShareKeeper$Promise", "toCome", "(II)I"⟩, 6) := ⟨⟨by decide +kernel, by decide +kernel⟩, List.mem_of_getElem? (i := 353) (by decide +kernel), List.mem_of_getElem? (i := 707) (by decide +kernel), List.mem_of_getElem? (i := 708) (by decide +kernel)⟩
theorem lw_p26 : lw_okq (⟨"ShareKeeper$Planner", "addUpWorths", "()V"⟩, 10) := ⟨⟨by decide +kernel, by decide +kernel⟩, List.mem_of_getElem? (i := 75) (by decide +kernel), List.mem_of_getElem? (i := 740) (by decide +kernel), List.mem_of_getElem? (i := 741) (by decide +kernel)⟩
theorem lw_p27 : lw_okq (⟨"ShareKeeper$Planner", "explore", "(IIII)V"⟩, 10) := ⟨⟨by decide +kernel, by decide +kernel⟩, List.mem_of_getElem? (i := 75) (by decide +kernel), List.mem_of_getElem? (i := 744) (by decide +kernel), List.mem_of_getElem? (i := 745) (by decide +kernel)⟩
theorem lw_p28 : lw_okq (⟨"ShareKeeper$Planner", "isBetter", "(II)Z"⟩, 10) := ⟨⟨by decide +kernel, by decide +kernel⟩, List.mem_of_getElem? (i := 75) (by decide +kernel), List.mem_of_getElem? (i := 754) (by decide +kernel), List.mem_of_getElem? (i := 755) (by decide +kernel)⟩
theorem lw_p29 : lw_okq (⟨"ShareKeeper$Planner", "branch", "(IIII)V"⟩, 10) := ⟨⟨by decide +kernel, by decide +kernel⟩, List.mem_of_getElem? (i := 75) (by decide +kernel), List.mem_of_getElem? (i := 758) (by decide +kernel), List.mem_of_getElem? (i := 759) (by decide +kernel)⟩
theorem lw_p30 : lw_okq (⟨"ShareKeeper$Planner", "keepBest", "()V"⟩, 10) := ⟨⟨by decide +kernel, by decide +kernel⟩, List.mem_of_getElem? (i := 75) (by decide +kernel), List.mem_of_getElem? (i := 762) (by decide +kernel), List.mem_of_getElem? (i := 763) (by decide +kernel)⟩
theorem lw_p31 : lw_okq (⟨"java/lang/Throwable", "fillInStackTrace", "(I)Ljava/lang/Throwable;"⟩, 6) := ⟨⟨by decide +kernel, by decide +kernel⟩, List.mem_of_getElem? (i := 826) (by decide +kernel), List.mem_of_getElem? (i := 824) (by decide +kernel), List.mem_of_getElem? (i := 825) (by decide +kernel)⟩
def lw_privs_2 : List (MethodName × Nat) := [(⟨"ShareKeeper$Alarm", "isOver", "(LShareKeeper$History;II)Z"⟩, 4), (⟨"ShareKeeper$AlarmSearch", "noteHistory", "(LShareKeeper$SteadyHistory;II)V"⟩, 5), (⟨"ShareKeeper$AlarmSearch", "measure", "(LShareKeeper$History;II)Z"⟩, 5), (⟨"ShareKeeper$AlarmSearch", "noteReached", "()V"⟩, 5), (⟨"ShareKeeper$AlarmSearch", "noteRings", "()V"⟩, 5), (⟨"ShareKeeper$AlarmSearch", "choose", "()I"⟩, 5), (⟨"ShareKeeper$AlarmSearch", "chooseRate", "(I)V"⟩, 5), (⟨"ShareKeeper", "changeAt", "(I)LShareKeeper$Change;"⟩, 11), (⟨"ShareKeeper", "roomOf", "(I)I"⟩, 11), (⟨"ShareKeeper$Promise", "toCome", "(II)I"⟩, 6), (⟨"ShareKeeper$Planner", "addUpWorths", "()V"⟩, 10), (⟨"ShareKeeper$Planner", "explore", "(IIII)V"⟩, 10), (⟨"ShareKeeper$Planner", "isBetter", "(II)Z"⟩, 10), (⟨"ShareKeeper$Planner", "branch", "(IIII)V"⟩, 10), (⟨"ShareKeeper$Planner", "keepBest", "()V"⟩, 10), (⟨"java/lang/Throwable", "fillInStackTrace", "(I)Ljava/lang/Throwable;"⟩, 6)]
theorem lw_r2 : ∀ q ∈ lw_privs_2, lw_okq q := List.forall_mem_cons.mpr ⟨lw_p16, List.forall_mem_cons.mpr ⟨lw_p17, List.forall_mem_cons.mpr ⟨lw_p18, List.forall_mem_cons.mpr ⟨lw_p19, List.forall_mem_cons.mpr ⟨lw_p20, List.forall_mem_cons.mpr ⟨lw_p21, List.forall_mem_cons.mpr ⟨lw_p22, List.forall_mem_cons.mpr ⟨lw_p23, List.forall_mem_cons.mpr ⟨lw_p24, List.forall_mem_cons.mpr ⟨lw_p25, List.forall_mem_cons.mpr ⟨lw_p26, List.forall_mem_cons.mpr ⟨lw_p27, List.forall_mem_cons.mpr ⟨lw_p28, List.forall_mem_cons.mpr ⟨lw_p29, List.forall_mem_cons.mpr ⟨lw_p30, List.forall_mem_cons.mpr ⟨lw_p31, fun _ h => absurd h List.not_mem_nil⟩⟩⟩⟩⟩⟩⟩⟩⟩⟩⟩⟩⟩⟩⟩⟩
theorem lw_p32 : lw_okq (⟨"ShareKeeperModel", "isService", "(I)Z"⟩, 42) := ⟨⟨by decide +kernel, by decide +kernel⟩, List.mem_of_getElem? (i := 884) (by decide +kernel), List.mem_of_getElem? (i := 1030) (by decide +kernel), List.mem_of_getElem? (i := 1031) (by decide +kernel)⟩
theorem lw_p33 : lw_okq (⟨"ShareKeeperModel", "sums", "(III)V"⟩, 42) := ⟨⟨by decide +kernel, by decide +kernel⟩, List.mem_of_getElem? (i := 884) (by decide +kernel), List.mem_of_getElem? (i := 1046) (by decide +kernel), List.mem_of_getElem? (i := 1047) (by decide +kernel)⟩
theorem lw_p34 : lw_okq (⟨"ShareKeeperModel", "addTick", "(II)V"⟩, 42) := ⟨⟨by decide +kernel, by decide +kernel⟩, List.mem_of_getElem? (i := 884) (by decide +kernel), List.mem_of_getElem? (i := 1050) (by decide +kernel), List.mem_of_getElem? (i := 1051) (by decide +kernel)⟩
theorem lw_p35 : lw_okq (⟨"ShareKeeperModel", "isPromise", "(I)Z"⟩, 42) := ⟨⟨by decide +kernel, by decide +kernel⟩, List.mem_of_getElem? (i := 884) (by decide +kernel), List.mem_of_getElem? (i := 1062) (by decide +kernel), List.mem_of_getElem? (i := 1063) (by decide +kernel)⟩
theorem lw_p36 : lw_okq (⟨"ShareKeeperModel", "spans", "(II)V"⟩, 42) := ⟨⟨by decide +kernel, by decide +kernel⟩, List.mem_of_getElem? (i := 884) (by decide +kernel), List.mem_of_getElem? (i := 1070) (by decide +kernel), List.mem_of_getElem? (i := 1071) (by decide +kernel)⟩
theorem lw_p37 : lw_okq (⟨"ShareKeeperModel", "isGrace", "(II)Z"⟩, 42) := ⟨⟨by decide +kernel, by decide +kernel⟩, List.mem_of_getElem? (i := 884) (by decide +kernel), List.mem_of_getElem? (i := 1074) (by decide +kernel), List.mem_of_getElem? (i := 1075) (by decide +kernel)⟩
theorem lw_p38 : lw_okq (⟨"ShareKeeperModel", "leftOf", "(IJJ)J"⟩, 42) := ⟨⟨by decide +kernel, by decide +kernel⟩, List.mem_of_getElem? (i := 884) (by decide +kernel), List.mem_of_getElem? (i := 1078) (by decide +kernel), List.mem_of_getElem? (i := 1079) (by decide +kernel)⟩
theorem lw_p39 : lw_okq (⟨"ShareKeeperModel", "least", "(I)J"⟩, 42) := ⟨⟨by decide +kernel, by decide +kernel⟩, List.mem_of_getElem? (i := 884) (by decide +kernel), List.mem_of_getElem? (i := 1083) (by decide +kernel), List.mem_of_getElem? (i := 1084) (by decide +kernel)⟩
theorem lw_p40 : lw_okq (⟨"ShareKeeperModel", "greatest", "(I)J"⟩, 42) := ⟨⟨by decide +kernel, by decide +kernel⟩, List.mem_of_getElem? (i := 884) (by decide +kernel), List.mem_of_getElem? (i := 1087) (by decide +kernel), List.mem_of_getElem? (i := 1088) (by decide +kernel)⟩
theorem lw_p41 : lw_okq (⟨"ShareKeeperModel", "isWhole", "(I)Z"⟩, 42) := ⟨⟨by decide +kernel, by decide +kernel⟩, List.mem_of_getElem? (i := 884) (by decide +kernel), List.mem_of_getElem? (i := 1091) (by decide +kernel), List.mem_of_getElem? (i := 1092) (by decide +kernel)⟩
theorem lw_p42 : lw_okq (⟨"ShareKeeperModel", "settledAt", "(I)I"⟩, 42) := ⟨⟨by decide +kernel, by decide +kernel⟩, List.mem_of_getElem? (i := 884) (by decide +kernel), List.mem_of_getElem? (i := 1095) (by decide +kernel), List.mem_of_getElem? (i := 1096) (by decide +kernel)⟩
theorem lw_p43 : lw_okq (⟨"ShareKeeperModel", "marks", "(IZI)J"⟩, 42) := ⟨⟨by decide +kernel, by decide +kernel⟩, List.mem_of_getElem? (i := 884) (by decide +kernel), List.mem_of_getElem? (i := 1112) (by decide +kernel), List.mem_of_getElem? (i := 1113) (by decide +kernel)⟩
theorem lw_p44 : lw_okq (⟨"ShareKeeperModel", "isAlarm", "(I)Z"⟩, 42) := ⟨⟨by decide +kernel, by decide +kernel⟩, List.mem_of_getElem? (i := 884) (by decide +kernel), List.mem_of_getElem? (i := 1124) (by decide +kernel), List.mem_of_getElem? (i := 1125) (by decide +kernel)⟩
theorem lw_p45 : lw_okq (⟨"ShareKeeperModel", "isWorseIn", "(IIII)Z"⟩, 42) := ⟨⟨by decide +kernel, by decide +kernel⟩, List.mem_of_getElem? (i := 884) (by decide +kernel), List.mem_of_getElem? (i := 1128) (by decide +kernel), List.mem_of_getElem? (i := 1129) (by decide +kernel)⟩
theorem lw_p46 : lw_okq (⟨"ShareKeeperModel", "isWorse", "(IIJJ)Z"⟩, 42) := ⟨⟨by decide +kernel, by decide +kernel⟩, List.mem_of_getElem? (i := 884) (by decide +kernel), List.mem_of_getElem? (i := 1132) (by decide +kernel), List.mem_of_getElem? (i := 1133) (by decide +kernel)⟩
theorem lw_p47 : lw_okq (⟨"ShareKeeperModel", "soonestOf", "(IIIIII)I"⟩, 42) := ⟨⟨by decide +kernel, by decide +kernel⟩, List.mem_of_getElem? (i := 884) (by decide +kernel), List.mem_of_getElem? (i := 1141) (by decide +kernel), List.mem_of_getElem? (i := 1142) (by decide +kernel)⟩
def lw_privs_3 : List (MethodName × Nat) := [(⟨"ShareKeeperModel", "isService", "(I)Z"⟩, 42), (⟨"ShareKeeperModel", "sums", "(III)V"⟩, 42), (⟨"ShareKeeperModel", "addTick", "(II)V"⟩, 42), (⟨"ShareKeeperModel", "isPromise", "(I)Z"⟩, 42), (⟨"ShareKeeperModel", "spans", "(II)V"⟩, 42), (⟨"ShareKeeperModel", "isGrace", "(II)Z"⟩, 42), (⟨"ShareKeeperModel", "leftOf", "(IJJ)J"⟩, 42), (⟨"ShareKeeperModel", "least", "(I)J"⟩, 42), (⟨"ShareKeeperModel", "greatest", "(I)J"⟩, 42), (⟨"ShareKeeperModel", "isWhole", "(I)Z"⟩, 42), (⟨"ShareKeeperModel", "settledAt", "(I)I"⟩, 42), (⟨"ShareKeeperModel", "marks", "(IZI)J"⟩, 42), (⟨"ShareKeeperModel", "isAlarm", "(I)Z"⟩, 42), (⟨"ShareKeeperModel", "isWorseIn", "(IIII)Z"⟩, 42), (⟨"ShareKeeperModel", "isWorse", "(IIJJ)Z"⟩, 42), (⟨"ShareKeeperModel", "soonestOf", "(IIIIII)I"⟩, 42)]
theorem lw_r3 : ∀ q ∈ lw_privs_3, lw_okq q := List.forall_mem_cons.mpr ⟨lw_p32, List.forall_mem_cons.mpr ⟨lw_p33, List.forall_mem_cons.mpr ⟨lw_p34, List.forall_mem_cons.mpr ⟨lw_p35, List.forall_mem_cons.mpr ⟨lw_p36, List.forall_mem_cons.mpr ⟨lw_p37, List.forall_mem_cons.mpr ⟨lw_p38, List.forall_mem_cons.mpr ⟨lw_p39, List.forall_mem_cons.mpr ⟨lw_p40, List.forall_mem_cons.mpr ⟨lw_p41, List.forall_mem_cons.mpr ⟨lw_p42, List.forall_mem_cons.mpr ⟨lw_p43, List.forall_mem_cons.mpr ⟨lw_p44, List.forall_mem_cons.mpr ⟨lw_p45, List.forall_mem_cons.mpr ⟨lw_p46, List.forall_mem_cons.mpr ⟨lw_p47, fun _ h => absurd h List.not_mem_nil⟩⟩⟩⟩⟩⟩⟩⟩⟩⟩⟩⟩⟩⟩⟩⟩
theorem lw_p48 : lw_okq (⟨"ShareKeeperModel", "isSteadyWorse", "(IIIIII)Z"⟩, 42) := ⟨⟨by decide +kernel, by decide +kernel⟩, List.mem_of_getElem? (i := 884) (by decide +kernel), List.mem_of_getElem? (i := 1145) (by decide +kernel), List.mem_of_getElem? (i := 1146) (by decide +kernel)⟩
theorem lw_p49 : lw_okq (⟨"ShareKeeperModel", "sumsTo", "(I)V"⟩, 42) := ⟨⟨by decide +kernel, by decide +kernel⟩, List.mem_of_getElem? (i := 884) (by decide +kernel), List.mem_of_getElem? (i := 1154) (by decide +kernel), List.mem_of_getElem? (i := 1155) (by decide +kernel)⟩
theorem lw_p50 : lw_okq (⟨"ShareKeeperModel", "ringsTill", "(IIII)I"⟩, 42) := ⟨⟨by decide +kernel, by decide +kernel⟩, List.mem_of_getElem? (i := 884) (by decide +kernel), List.mem_of_getElem? (i := 1158) (by decide +kernel), List.mem_of_getElem? (i := 1159) (by decide +kernel)⟩
theorem lw_p51 : lw_okq (⟨"ShareKeeperModel", "isWorseTo", "(IIII)Z"⟩, 42) := ⟨⟨by decide +kernel, by decide +kernel⟩, List.mem_of_getElem? (i := 884) (by decide +kernel), List.mem_of_getElem? (i := 1162) (by decide +kernel), List.mem_of_getElem? (i := 1163) (by decide +kernel)⟩
theorem lw_p52 : lw_okq (⟨"ShareKeeperModel", "isChange", "(I)Z"⟩, 42) := ⟨⟨by decide +kernel, by decide +kernel⟩, List.mem_of_getElem? (i := 884) (by decide +kernel), List.mem_of_getElem? (i := 1175) (by decide +kernel), List.mem_of_getElem? (i := 1176) (by decide +kernel)⟩
theorem lw_p53 : lw_okq (⟨"ShareKeeperModel", "room", "(I)J"⟩, 42) := ⟨⟨by decide +kernel, by decide +kernel⟩, List.mem_of_getElem? (i := 884) (by decide +kernel), List.mem_of_getElem? (i := 1179) (by decide +kernel), List.mem_of_getElem? (i := 1180) (by decide +kernel)⟩
def lw_privs_4 : List (MethodName × Nat) := [(⟨"ShareKeeperModel", "isSteadyWorse", "(IIIIII)Z"⟩, 42), (⟨"ShareKeeperModel", "sumsTo", "(I)V"⟩, 42), (⟨"ShareKeeperModel", "ringsTill", "(IIII)I"⟩, 42), (⟨"ShareKeeperModel", "isWorseTo", "(IIII)Z"⟩, 42), (⟨"ShareKeeperModel", "isChange", "(I)Z"⟩, 42), (⟨"ShareKeeperModel", "room", "(I)J"⟩, 42)]
theorem lw_r4 : ∀ q ∈ lw_privs_4, lw_okq q := List.forall_mem_cons.mpr ⟨lw_p48, List.forall_mem_cons.mpr ⟨lw_p49, List.forall_mem_cons.mpr ⟨lw_p50, List.forall_mem_cons.mpr ⟨lw_p51, List.forall_mem_cons.mpr ⟨lw_p52, List.forall_mem_cons.mpr ⟨lw_p53, fun _ h => absurd h List.not_mem_nil⟩⟩⟩⟩⟩⟩
def lw_privs : List (MethodName × Nat) := lw_privs_1 ++ (lw_privs_2 ++ (lw_privs_3 ++ (lw_privs_4)))
def lw_tbl : List Cond := k2_sels lw_privs ++ tables_1
theorem lw_privs_ok : ∀ q ∈ lw_privs, lw_okq q := by
  show ∀ q ∈ lw_privs_1 ++ (lw_privs_2 ++ (lw_privs_3 ++ (lw_privs_4))), lw_okq q
  exact List.forall_mem_append.mpr ⟨lw_r1, List.forall_mem_append.mpr ⟨lw_r2, List.forall_mem_append.mpr ⟨lw_r3, lw_r4⟩⟩⟩
/-- the words that may be handed on to a callee -/
def xt : List Cond := lw_tbl.filter goodWord
/-- the words of a method: its own code, and all of xt -/
def xW (y : MethodName) (c : ByteArray) (n : Nat) (r : Option FieldType) : List Cond := .code y c n r :: xt
theorem xt_of {w : Cond} (h : w ∈ lw_tbl) (g : goodWord w = true) : w ∈ xt := List.mem_filter.mpr ⟨h, g⟩
theorem xt_lw {w : Cond} (h : w ∈ xt) : w ∈ lw_tbl := (List.mem_filter.mp h).1
theorem xt_good {big : List Cond} (hb : ∀ w ∈ xt, w ∈ big) : GoodIn big xt := fun w hw => ⟨hb w hw, good_of_word (List.mem_filter.mp hw).2⟩
theorem xW_good {y y' : MethodName} {c c' : ByteArray} {n n' : Nat} {r r' : Option FieldType} (h : Cond.code y' c' n' r' ∈ xt) : GoodIn (xW y c n r) (xW y' c' n' r') := by
  intro w hw
  rcases List.mem_cons.mp hw with e | e
  · subst e
    exact ⟨List.mem_cons_of_mem _ h, good_of_word (List.mem_filter.mp h).2⟩
  · exact ⟨List.mem_cons_of_mem _ e, good_of_word (List.mem_filter.mp e).2⟩
end
section
/-! ===== BEGIN printed: names, fields, word lists, decode rows ===== -/
def RX0 : String := "ShareKeeper$Alarm"
def TX0 : u_T := fun k => match k with
  | 0 => ("ShareKeeper$Alarm", "promise", "LShareKeeper$Promise;", true)
  | 1 => ("ShareKeeper$Alarm", "longSpan", "I", true)
  | 2 => ("ShareKeeper$Alarm", "shortSpan", "I", true)
  | _ => ("ShareKeeper$Alarm", "rate", "I", true)
def tyX0 : Nat → FieldType := fun k => match k with
  | 0 => .object "ShareKeeper$Promise"
  | 1 => .int
  | 2 => .int
  | _ => .int
abbrev wsX00 : List Cond := u_ws RX0 TX0 4
theorem nmX0 : ∀ a, a < 4 → ∀ b, b < 4 → a ≠ b → (TX0 a).2.1 ≠ (TX0 b).2.1 := by decide +kernel
theorem tyX0_ok : ∀ k, k < 4 → parseFieldDescriptor (TX0 k).2.2.1 = some (tyX0 k) := by decide +kernel
abbrev cX0_init : ByteArray := prog_2_method_1_code
def yX0_init : MethodName := ⟨RX0, "<init>", "(LShareKeeper$Promise;III)V"⟩
abbrev cX0_ringsIn : ByteArray := prog_2_method_2_code
def yX0_ringsIn : MethodName := ⟨RX0, "ringsIn", "(LShareKeeper$History;I)Z"⟩
abbrev cX0_isOver : ByteArray := prog_2_method_3_code
def yX0_isOver : MethodName := ⟨RX0, "isOver", "(LShareKeeper$History;II)Z"⟩
def RX1 : String := "ShareKeeper$AlarmSearch"
def TX1 : u_T := fun k => match k with
  | 0 => ("ShareKeeper$AlarmSearch", "levels", "[I", true)
  | 1 => ("ShareKeeper$AlarmSearch", "reached", "[I", true)
  | 2 => ("ShareKeeper$AlarmSearch", "ticksAtLevel", "[I", true)
  | 3 => ("ShareKeeper$AlarmSearch", "rateLevel", "I", false)
  | _ => ("ShareKeeper$AlarmSearch", "rateRings", "I", false)
def tyX1 : Nat → FieldType := fun k => match k with
  | 0 => .array .int
  | 1 => .array .int
  | 2 => .array .int
  | 3 => .int
  | _ => .int
abbrev wsX10 : List Cond := u_ws RX1 TX1 5
theorem nmX1 : ∀ a, a < 5 → ∀ b, b < 5 → a ≠ b → (TX1 a).2.1 ≠ (TX1 b).2.1 := by decide +kernel
theorem tyX1_ok : ∀ k, k < 5 → parseFieldDescriptor (TX1 k).2.2.1 = some (tyX1 k) := by decide +kernel
abbrev cX1_init : ByteArray := prog_3_method_1_code
def yX1_init : MethodName := ⟨RX1, "<init>", "()V"⟩
abbrev cX1_find : ByteArray := prog_3_method_2_code
def yX1_find : MethodName := ⟨RX1, "find", "(LShareKeeper$Promise;LShareKeeper$SteadyHistory;II)I"⟩
abbrev cX1_noteHistory : ByteArray := prog_3_method_3_code
def yX1_noteHistory : MethodName := ⟨RX1, "noteHistory", "(LShareKeeper$SteadyHistory;II)V"⟩
abbrev cX1_measure : ByteArray := prog_3_method_4_code
def yX1_measure : MethodName := ⟨RX1, "measure", "(LShareKeeper$History;II)Z"⟩
abbrev cX1_levelOf : ByteArray := prog_3_method_5_code
def yX1_levelOf : MethodName := ⟨RX1, "levelOf", "(JI)I"⟩
abbrev cX1_noteReached : ByteArray := prog_3_method_6_code
def yX1_noteReached : MethodName := ⟨RX1, "noteReached", "()V"⟩
abbrev cX1_noteRings : ByteArray := prog_3_method_7_code
def yX1_noteRings : MethodName := ⟨RX1, "noteRings", "()V"⟩
abbrev cX1_choose : ByteArray := prog_3_method_8_code
def yX1_choose : MethodName := ⟨RX1, "choose", "()I"⟩
abbrev cX1_chooseRate : ByteArray := prog_3_method_9_code
def yX1_chooseRate : MethodName := ⟨RX1, "chooseRate", "(I)V"⟩
abbrev cX1_pairOf : ByteArray := prog_3_method_10_code
def yX1_pairOf : MethodName := ⟨RX1, "pairOf", "(II)I"⟩
def RX2 : String := "ShareKeeper$Change"
def TX2 : u_T := fun k => match k with
  | 0 => ("ShareKeeper$Change", "promise", "I", true)
  | 1 => ("ShareKeeper$Change", "guess", "I", true)
  | 2 => ("ShareKeeper$Change", "worth", "I", true)
  | 3 => ("ShareKeeper$Change", "state", "I", false)
  | _ => ("ShareKeeper$Change", "cost", "I", false)
def tyX2 : Nat → FieldType := fun k => match k with
  | 0 => .int
  | 1 => .int
  | 2 => .int
  | 3 => .int
  | _ => .int
abbrev wsX20 : List Cond := u_ws RX2 TX2 5
theorem nmX2 : ∀ a, a < 5 → ∀ b, b < 5 → a ≠ b → (TX2 a).2.1 ≠ (TX2 b).2.1 := by decide +kernel
theorem tyX2_ok : ∀ k, k < 5 → parseFieldDescriptor (TX2 k).2.2.1 = some (tyX2 k) := by decide +kernel
abbrev cX2_init : ByteArray := prog_4_method_1_code
def yX2_init : MethodName := ⟨RX2, "<init>", "(III)V"⟩
def RX3 : String := "ShareKeeper$History"
def TX3 : u_T := fun k => match k with
  | _ => ("", "", "", false)
def tyX3 : Nat → FieldType := fun k => match k with
  | _ => .int
abbrev wsX30 : List Cond := u_ws RX3 TX3 0
theorem nmX3 : ∀ a, a < 0 → ∀ b, b < 0 → a ≠ b → (TX3 a).2.1 ≠ (TX3 b).2.1 := by decide +kernel
theorem tyX3_ok : ∀ k, k < 0 → parseFieldDescriptor (TX3 k).2.2.1 = some (tyX3 k) := by decide +kernel
def RX4 : String := "ShareKeeper$Parts"
def TX4 : u_T := fun k => match k with
  | 0 => ("ShareKeeper$Parts", "bad", "[I", true)
  | _ => ("ShareKeeper$Parts", "size", "I", false)
def tyX4 : Nat → FieldType := fun k => match k with
  | 0 => .array .int
  | _ => .int
abbrev wsX40 : List Cond := u_ws RX4 TX4 2
theorem nmX4 : ∀ a, a < 2 → ∀ b, b < 2 → a ≠ b → (TX4 a).2.1 ≠ (TX4 b).2.1 := by decide +kernel
theorem tyX4_ok : ∀ k, k < 2 → parseFieldDescriptor (TX4 k).2.2.1 = some (tyX4 k) := by decide +kernel
abbrev cX4_init : ByteArray := prog_6_method_1_code
def yX4_init : MethodName := ⟨RX4, "<init>", "()V"⟩
abbrev cX4_size : ByteArray := prog_6_method_2_code
def yX4_size : MethodName := ⟨RX4, "size", "()I"⟩
abbrev cX4_clear : ByteArray := prog_6_method_3_code
def yX4_clear : MethodName := ⟨RX4, "clear", "()V"⟩
abbrev cX4_add : ByteArray := prog_6_method_4_code
def yX4_add : MethodName := ⟨RX4, "add", "(I)I"⟩
abbrev cX4_fitInto : ByteArray := prog_6_method_5_code
def yX4_fitInto : MethodName := ⟨RX4, "fitInto", "(I)Z"⟩
abbrev cX4_leastBad : ByteArray := prog_6_method_6_code
def yX4_leastBad : MethodName := ⟨RX4, "leastBad", "(II)I"⟩
abbrev cX4_greatestBad : ByteArray := prog_6_method_7_code
def yX4_greatestBad : MethodName := ⟨RX4, "greatestBad", "(II)I"⟩
abbrev cX4_mostMeeting : ByteArray := prog_6_method_8_code
def yX4_mostMeeting : MethodName := ⟨RX4, "mostMeeting", "(IIZ)I"⟩
abbrev cX4_canMeet : ByteArray := prog_6_method_9_code
def yX4_canMeet : MethodName := ⟨RX4, "canMeet", "(IIIZ)Z"⟩
def RX5 : String := "ShareKeeper$Planner"
def TX5 : u_T := fun k => match k with
  | 0 => ("ShareKeeper$Planner", "numbers", "[I", true)
  | 1 => ("ShareKeeper$Planner", "guesses", "[I", true)
  | 2 => ("ShareKeeper$Planner", "worths", "[I", true)
  | 3 => ("ShareKeeper$Planner", "worthFrom", "[I", true)
  | 4 => ("ShareKeeper$Planner", "chosen", "[I", true)
  | 5 => ("ShareKeeper$Planner", "offered", "I", false)
  | 6 => ("ShareKeeper$Planner", "chosenSize", "I", false)
  | 7 => ("ShareKeeper$Planner", "bestMask", "I", false)
  | 8 => ("ShareKeeper$Planner", "bestSize", "I", false)
  | _ => ("ShareKeeper$Planner", "bestWorth", "I", false)
def tyX5 : Nat → FieldType := fun k => match k with
  | 0 => .array .int
  | 1 => .array .int
  | 2 => .array .int
  | 3 => .array .int
  | 4 => .array .int
  | 5 => .int
  | 6 => .int
  | 7 => .int
  | 8 => .int
  | _ => .int
abbrev wsX50 : List Cond := u_ws RX5 TX5 10
theorem nmX5 : ∀ a, a < 10 → ∀ b, b < 10 → a ≠ b → (TX5 a).2.1 ≠ (TX5 b).2.1 := by decide +kernel
theorem tyX5_ok : ∀ k, k < 10 → parseFieldDescriptor (TX5 k).2.2.1 = some (tyX5 k) := by decide +kernel
abbrev cX5_init : ByteArray := prog_7_method_1_code
def yX5_init : MethodName := ⟨RX5, "<init>", "()V"⟩
abbrev cX5_clear : ByteArray := prog_7_method_2_code
def yX5_clear : MethodName := ⟨RX5, "clear", "()V"⟩
abbrev cX5_offer : ByteArray := prog_7_method_3_code
def yX5_offer : MethodName := ⟨RX5, "offer", "(III)V"⟩
abbrev cX5_choose : ByteArray := prog_7_method_4_code
def yX5_choose : MethodName := ⟨RX5, "choose", "(I)I"⟩
abbrev cX5_chosenAt : ByteArray := prog_7_method_5_code
def yX5_chosenAt : MethodName := ⟨RX5, "chosenAt", "(I)I"⟩
abbrev cX5_addUpWorths : ByteArray := prog_7_method_6_code
def yX5_addUpWorths : MethodName := ⟨RX5, "addUpWorths", "()V"⟩
abbrev cX5_explore : ByteArray := prog_7_method_7_code
def yX5_explore : MethodName := ⟨RX5, "explore", "(IIII)V"⟩
abbrev cX5_branch : ByteArray := prog_7_method_8_code
def yX5_branch : MethodName := ⟨RX5, "branch", "(IIII)V"⟩
abbrev cX5_isBetter : ByteArray := prog_7_method_9_code
def yX5_isBetter : MethodName := ⟨RX5, "isBetter", "(II)Z"⟩
abbrev cX5_keepBest : ByteArray := prog_7_method_10_code
def yX5_keepBest : MethodName := ⟨RX5, "keepBest", "()V"⟩
def RX6 : String := "ShareKeeper$Promise"
def TX6 : u_T := fun k => match k with
  | 0 => ("ShareKeeper$Promise", "service", "LShareKeeper$Service;", true)
  | 1 => ("ShareKeeper$Promise", "width", "I", true)
  | 2 => ("ShareKeeper$Promise", "share", "I", true)
  | 3 => ("ShareKeeper$Promise", "fixed", "Z", true)
  | 4 => ("ShareKeeper$Promise", "leftOut", "[Z", true)
  | _ => ("ShareKeeper$Promise", "graceRows", "I", false)
def tyX6 : Nat → FieldType := fun k => match k with
  | 0 => .object "ShareKeeper$Service"
  | 1 => .int
  | 2 => .int
  | 3 => .boolean
  | 4 => .array .boolean
  | _ => .int
abbrev wsX60 : List Cond := u_ws RX6 TX6 6
theorem nmX6 : ∀ a, a < 6 → ∀ b, b < 6 → a ≠ b → (TX6 a).2.1 ≠ (TX6 b).2.1 := by decide +kernel
theorem tyX6_ok : ∀ k, k < 6 → parseFieldDescriptor (TX6 k).2.2.1 = some (tyX6 k) := by decide +kernel
abbrev cX6_init : ByteArray := prog_8_method_1_code
def yX6_init : MethodName := ⟨RX6, "<init>", "(LShareKeeper$Service;IIZ)V"⟩
abbrev cX6_leaveOut : ByteArray := prog_8_method_2_code
def yX6_leaveOut : MethodName := ⟨RX6, "leaveOut", "(II)Z"⟩
abbrev cX6_slack : ByteArray := prog_8_method_3_code
def yX6_slack : MethodName := ⟨RX6, "slack", "()I"⟩
abbrev cX6_asks : ByteArray := prog_8_method_4_code
def yX6_asks : MethodName := ⟨RX6, "asks", "(I)I"⟩
abbrev cX6_bad : ByteArray := prog_8_method_5_code
def yX6_bad : MethodName := ⟨RX6, "bad", "(I)I"⟩
abbrev cX6_left : ByteArray := prog_8_method_6_code
def yX6_left : MethodName := ⟨RX6, "left", "(I)I"⟩
abbrev cX6_leastLeft : ByteArray := prog_8_method_7_code
def yX6_leastLeft : MethodName := ⟨RX6, "leastLeft", "(II)I"⟩
abbrev cX6_mostLeft : ByteArray := prog_8_method_8_code
def yX6_mostLeft : MethodName := ⟨RX6, "mostLeft", "(II)I"⟩
abbrev cX6_verdict : ByteArray := prog_8_method_9_code
def yX6_verdict : MethodName := ⟨RX6, "verdict", "(II)I"⟩
abbrev cX6_settledFrom : ByteArray := prog_8_method_10_code
def yX6_settledFrom : MethodName := ⟨RX6, "settledFrom", "(I)I"⟩
abbrev cX6_firstBroken : ByteArray := prog_8_method_11_code
def yX6_firstBroken : MethodName := ⟨RX6, "firstBroken", "(I)I"⟩
abbrev cX6_firstOfSpan : ByteArray := prog_8_method_12_code
def yX6_firstOfSpan : MethodName := ⟨RX6, "firstOfSpan", "(I)I"⟩
abbrev cX6_lastOfSpan : ByteArray := prog_8_method_13_code
def yX6_lastOfSpan : MethodName := ⟨RX6, "lastOfSpan", "(I)I"⟩
abbrev cX6_isIn : ByteArray := prog_8_method_14_code
def yX6_isIn : MethodName := ⟨RX6, "isIn", "(I)Z"⟩
abbrev cX6_asksAt : ByteArray := prog_8_method_15_code
def yX6_asksAt : MethodName := ⟨RX6, "asksAt", "(I)I"⟩
abbrev cX6_badAt : ByteArray := prog_8_method_16_code
def yX6_badAt : MethodName := ⟨RX6, "badAt", "(I)I"⟩
abbrev cX6_toCome : ByteArray := prog_8_method_17_code
def yX6_toCome : MethodName := ⟨RX6, "toCome", "(II)I"⟩
abbrev cX6_leftOf : ByteArray := prog_8_method_18_code
def yX6_leftOf : MethodName := ⟨RX6, "leftOf", "(II)I"⟩
def RX7 : String := "ShareKeeper$Service"
def TX7 : u_T := fun k => match k with
  | 0 => ("ShareKeeper$Service", "sources", "Ljava/util/List;", true)
  | 1 => ("ShareKeeper$Service", "asks", "[I", true)
  | _ => ("ShareKeeper$Service", "bad", "[I", true)
def tyX7 : Nat → FieldType := fun k => match k with
  | 0 => .object "java/util/List"
  | 1 => .array .int
  | _ => .array .int
abbrev wsX70 : List Cond := u_ws RX7 TX7 3
theorem nmX7 : ∀ a, a < 3 → ∀ b, b < 3 → a ≠ b → (TX7 a).2.1 ≠ (TX7 b).2.1 := by decide +kernel
theorem tyX7_ok : ∀ k, k < 3 → parseFieldDescriptor (TX7 k).2.2.1 = some (tyX7 k) := by decide +kernel
abbrev cX7_init : ByteArray := prog_9_method_1_code
def yX7_init : MethodName := ⟨RX7, "<init>", "()V"⟩
abbrev cX7_add : ByteArray := prog_9_method_2_code
def yX7_add : MethodName := ⟨RX7, "add", "(III)V"⟩
abbrev cX7_asksIn : ByteArray := prog_9_method_3_code
def yX7_asksIn : MethodName := ⟨RX7, "asksIn", "(II)I"⟩
abbrev cX7_badIn : ByteArray := prog_9_method_4_code
def yX7_badIn : MethodName := ⟨RX7, "badIn", "(II)I"⟩
abbrev cX7_asksAt : ByteArray := prog_9_method_5_code
def yX7_asksAt : MethodName := ⟨RX7, "asksAt", "(I)I"⟩
abbrev cX7_badAt : ByteArray := prog_9_method_6_code
def yX7_badAt : MethodName := ⟨RX7, "badAt", "(I)I"⟩
abbrev cX7_toComeIn : ByteArray := prog_9_method_7_code
def yX7_toComeIn : MethodName := ⟨RX7, "toComeIn", "(III)I"⟩
abbrev cX7_toComeAt : ByteArray := prog_9_method_8_code
def yX7_toComeAt : MethodName := ⟨RX7, "toComeAt", "(II)I"⟩
abbrev cX7_latest : ByteArray := prog_9_method_9_code
def yX7_latest : MethodName := ⟨RX7, "latest", "()I"⟩
abbrev cX7_total : ByteArray := prog_9_method_10_code
def yX7_total : MethodName := ⟨RX7, "total", "([III)I"⟩
def RX8 : String := "ShareKeeper$Source"
def TX8 : u_T := fun k => match k with
  | 0 => ("ShareKeeper$Source", "late", "I", true)
  | 1 => ("ShareKeeper$Source", "service", "LShareKeeper$Service;", true)
  | 2 => ("ShareKeeper$Source", "most", "I", true)
  | 3 => ("ShareKeeper$Source", "came", "[I", true)
  | _ => ("ShareKeeper$Source", "taken", "[Z", true)
def tyX8 : Nat → FieldType := fun k => match k with
  | 0 => .int
  | 1 => .object "ShareKeeper$Service"
  | 2 => .int
  | 3 => .array .int
  | _ => .array .boolean
abbrev wsX80 : List Cond := u_ws RX8 TX8 5
theorem nmX8 : ∀ a, a < 5 → ∀ b, b < 5 → a ≠ b → (TX8 a).2.1 ≠ (TX8 b).2.1 := by decide +kernel
theorem tyX8_ok : ∀ k, k < 5 → parseFieldDescriptor (TX8 k).2.2.1 = some (tyX8 k) := by decide +kernel
abbrev cX8_init : ByteArray := prog_10_method_1_code
def yX8_init : MethodName := ⟨RX8, "<init>", "(LShareKeeper$Service;II)V"⟩
abbrev cX8_refusal : ByteArray := prog_10_method_2_code
def yX8_refusal : MethodName := ⟨RX8, "refusal", "(IIII)I"⟩
abbrev cX8_take : ByteArray := prog_10_method_3_code
def yX8_take : MethodName := ⟨RX8, "take", "(IIII)V"⟩
abbrev cX8_toCome : ByteArray := prog_10_method_4_code
def yX8_toCome : MethodName := ⟨RX8, "toCome", "(II)I"⟩
abbrev cX8_isOpen : ByteArray := prog_10_method_5_code
def yX8_isOpen : MethodName := ⟨RX8, "isOpen", "(II)Z"⟩
def RX9 : String := "ShareKeeper$SteadyHistory"
def TX9 : u_T := fun k => match k with
  | 0 => ("ShareKeeper$SteadyHistory", "goodTicks", "I", true)
  | _ => ("ShareKeeper$SteadyHistory", "badEach", "I", true)
def tyX9 : Nat → FieldType := fun k => match k with
  | 0 => .int
  | _ => .int
abbrev wsX90 : List Cond := u_ws RX9 TX9 2
theorem nmX9 : ∀ a, a < 2 → ∀ b, b < 2 → a ≠ b → (TX9 a).2.1 ≠ (TX9 b).2.1 := by decide +kernel
theorem tyX9_ok : ∀ k, k < 2 → parseFieldDescriptor (TX9 k).2.2.1 = some (tyX9 k) := by decide +kernel
abbrev cX9_init : ByteArray := prog_11_method_1_code
def yX9_init : MethodName := ⟨RX9, "<init>", "(II)V"⟩
abbrev cX9_asksIn : ByteArray := prog_11_method_2_code
def yX9_asksIn : MethodName := ⟨RX9, "asksIn", "(II)I"⟩
abbrev cX9_badIn : ByteArray := prog_11_method_3_code
def yX9_badIn : MethodName := ⟨RX9, "badIn", "(II)I"⟩
def RX10 : String := "ShareKeeper"
def TX10 : u_T := fun k => match k with
  | 0 => ("ShareKeeper", "services", "Ljava/util/List;", true)
  | 1 => ("ShareKeeper", "sources", "Ljava/util/List;", true)
  | 2 => ("ShareKeeper", "promises", "Ljava/util/List;", true)
  | 3 => ("ShareKeeper", "alarms", "Ljava/util/List;", true)
  | 4 => ("ShareKeeper", "changes", "Ljava/util/List;", true)
  | 5 => ("ShareKeeper", "parts", "LShareKeeper$Parts;", true)
  | 6 => ("ShareKeeper", "planner", "LShareKeeper$Planner;", true)
  | 7 => ("ShareKeeper", "alarmSearch", "LShareKeeper$AlarmSearch;", true)
  | 8 => ("ShareKeeper", "now", "I", false)
  | 9 => ("ShareKeeper", "countsTaken", "I", false)
  | _ => ("ShareKeeper", "countsAgain", "I", false)
def tyX10 : Nat → FieldType := fun k => match k with
  | 0 => .object "java/util/List"
  | 1 => .object "java/util/List"
  | 2 => .object "java/util/List"
  | 3 => .object "java/util/List"
  | 4 => .object "java/util/List"
  | 5 => .object "ShareKeeper$Parts"
  | 6 => .object "ShareKeeper$Planner"
  | 7 => .object "ShareKeeper$AlarmSearch"
  | 8 => .int
  | 9 => .int
  | _ => .int
abbrev wsX100 : List Cond := u_ws RX10 TX10 11
theorem nmX10 : ∀ a, a < 11 → ∀ b, b < 11 → a ≠ b → (TX10 a).2.1 ≠ (TX10 b).2.1 := by decide +kernel
theorem tyX10_ok : ∀ k, k < 11 → parseFieldDescriptor (TX10 k).2.2.1 = some (tyX10 k) := by decide +kernel
abbrev cX10_init : ByteArray := prog_1_method_1_code
def yX10_init : MethodName := ⟨RX10, "<init>", "()V"⟩
abbrev cX10_service : ByteArray := prog_1_method_2_code
def yX10_service : MethodName := ⟨RX10, "service", "()I"⟩
abbrev cX10_source : ByteArray := prog_1_method_3_code
def yX10_source : MethodName := ⟨RX10, "source", "(III)I"⟩
abbrev cX10_count : ByteArray := prog_1_method_4_code
def yX10_count : MethodName := ⟨RX10, "count", "(IIIII)I"⟩
abbrev cX10_ticks : ByteArray := prog_1_method_5_code
def yX10_ticks : MethodName := ⟨RX10, "ticks", "(I)I"⟩
abbrev cX10_promise : ByteArray := prog_1_method_6_code
def yX10_promise : MethodName := ⟨RX10, "promise", "(IIIZ)I"⟩
abbrev cX10_grace : ByteArray := prog_1_method_7_code
def yX10_grace : MethodName := ⟨RX10, "grace", "(III)Z"⟩
abbrev cX10_sum : ByteArray := prog_1_method_8_code
def yX10_sum : MethodName := ⟨RX10, "sum", "(IIII)I"⟩
abbrev cX10_span : ByteArray := prog_1_method_9_code
def yX10_span : MethodName := ⟨RX10, "span", "(III)I"⟩
abbrev cX10_broken : ByteArray := prog_1_method_10_code
def yX10_broken : MethodName := ⟨RX10, "broken", "(II)I"⟩
abbrev cX10_part : ByteArray := prog_1_method_11_code
def yX10_part : MethodName := ⟨RX10, "part", "(I)I"⟩
abbrev cX10_made : ByteArray := prog_1_method_12_code
def yX10_made : MethodName := ⟨RX10, "made", "(III)I"⟩
abbrev cX10_alarm : ByteArray := prog_1_method_13_code
def yX10_alarm : MethodName := ⟨RX10, "alarm", "(IIII)I"⟩
abbrev cX10_rings : ByteArray := prog_1_method_14_code
def yX10_rings : MethodName := ⟨RX10, "rings", "(II)I"⟩
abbrev cX10_soonest : ByteArray := prog_1_method_15_code
def yX10_soonest : MethodName := ⟨RX10, "soonest", "(IIII)I"⟩
abbrev cX10_best : ByteArray := prog_1_method_16_code
def yX10_best : MethodName := ⟨RX10, "best", "(IIII)I"⟩
abbrev cX10_change : ByteArray := prog_1_method_17_code
def yX10_change : MethodName := ⟨RX10, "change", "(III)I"⟩
abbrev cX10_let : ByteArray := prog_1_method_18_code
def yX10_let : MethodName := ⟨RX10, "let", "(I)Z"⟩
abbrev cX10_settle : ByteArray := prog_1_method_19_code
def yX10_settle : MethodName := ⟨RX10, "settle", "(II)Z"⟩
abbrev cX10_plan : ByteArray := prog_1_method_20_code
def yX10_plan : MethodName := ⟨RX10, "plan", "(I)I"⟩
abbrev cX10_planned : ByteArray := prog_1_method_21_code
def yX10_planned : MethodName := ⟨RX10, "planned", "(I)I"⟩
abbrev cX10_look : ByteArray := prog_1_method_22_code
def yX10_look : MethodName := ⟨RX10, "look", "(II)I"⟩
abbrev cX10_desk : ByteArray := prog_1_method_23_code
def yX10_desk : MethodName := ⟨RX10, "desk", "(I)I"⟩
abbrev cX10_within : ByteArray := prog_1_method_24_code
def yX10_within : MethodName := ⟨RX10, "within", "(III)Z"⟩
abbrev cX10_isSteady : ByteArray := prog_1_method_25_code
def yX10_isSteady : MethodName := ⟨RX10, "isSteady", "(II)Z"⟩
abbrev cX10_serviceAt : ByteArray := prog_1_method_26_code
def yX10_serviceAt : MethodName := ⟨RX10, "serviceAt", "(I)LShareKeeper$Service;"⟩
abbrev cX10_sourceAt : ByteArray := prog_1_method_27_code
def yX10_sourceAt : MethodName := ⟨RX10, "sourceAt", "(I)LShareKeeper$Source;"⟩
abbrev cX10_promiseAt : ByteArray := prog_1_method_28_code
def yX10_promiseAt : MethodName := ⟨RX10, "promiseAt", "(I)LShareKeeper$Promise;"⟩
abbrev cX10_alarmAt : ByteArray := prog_1_method_29_code
def yX10_alarmAt : MethodName := ⟨RX10, "alarmAt", "(I)LShareKeeper$Alarm;"⟩
abbrev cX10_changeAt : ByteArray := prog_1_method_30_code
def yX10_changeAt : MethodName := ⟨RX10, "changeAt", "(I)LShareKeeper$Change;"⟩
abbrev cX10_roomOf : ByteArray := prog_1_method_31_code
def yX10_roomOf : MethodName := ⟨RX10, "roomOf", "(I)I"⟩
def RX11 : String := "ShareKeeperModel"
def TX11 : u_T := fun k => match k with
  | 0 => ("ShareKeeperModel", "thrown", "I", false)
  | 1 => ("ShareKeeperModel", "services", "I", false)
  | 2 => ("ShareKeeperModel", "sources", "I", false)
  | 3 => ("ShareKeeperModel", "serviceOf", "[I", true)
  | 4 => ("ShareKeeperModel", "late", "[I", true)
  | 5 => ("ShareKeeperModel", "most", "[I", true)
  | 6 => ("ShareKeeperModel", "asks", "[I", true)
  | 7 => ("ShareKeeperModel", "bads", "[I", true)
  | 8 => ("ShareKeeperModel", "isTaken", "[Z", true)
  | 9 => ("ShareKeeperModel", "now", "I", false)
  | 10 => ("ShareKeeperModel", "taken", "I", false)
  | 11 => ("ShareKeeperModel", "again", "I", false)
  | 12 => ("ShareKeeperModel", "sumAsks", "J", false)
  | 13 => ("ShareKeeperModel", "sumBads", "J", false)
  | 14 => ("ShareKeeperModel", "sumOpen", "J", false)
  | 15 => ("ShareKeeperModel", "promises", "I", false)
  | 16 => ("ShareKeeperModel", "about", "[I", true)
  | 17 => ("ShareKeeperModel", "wide", "[I", true)
  | 18 => ("ShareKeeperModel", "share", "[I", true)
  | 19 => ("ShareKeeperModel", "isFixed", "[Z", true)
  | 20 => ("ShareKeeperModel", "graces", "[I", true)
  | 21 => ("ShareKeeperModel", "graceLow", "[I", true)
  | 22 => ("ShareKeeperModel", "graceHigh", "[I", true)
  | 23 => ("ShareKeeperModel", "lastOf", "I", false)
  | 24 => ("ShareKeeperModel", "parts", "I", false)
  | 25 => ("ShareKeeperModel", "part", "[I", true)
  | 26 => ("ShareKeeperModel", "alarms", "I", false)
  | 27 => ("ShareKeeperModel", "alarmOf", "[I", true)
  | 28 => ("ShareKeeperModel", "alarmA", "[I", true)
  | 29 => ("ShareKeeperModel", "alarmB", "[I", true)
  | 30 => ("ShareKeeperModel", "alarmR", "[I", true)
  | 31 => ("ShareKeeperModel", "allTo", "[J", true)
  | 32 => ("ShareKeeperModel", "badTo", "[J", true)
  | 33 => ("ShareKeeperModel", "changes", "I", false)
  | 34 => ("ShareKeeperModel", "changeOf", "[I", true)
  | 35 => ("ShareKeeperModel", "guess", "[I", true)
  | 36 => ("ShareKeeperModel", "worth", "[I", true)
  | 37 => ("ShareKeeperModel", "state", "[I", true)
  | 38 => ("ShareKeeperModel", "cost", "[I", true)
  | 39 => ("ShareKeeperModel", "plans", "I", false)
  | 40 => ("ShareKeeperModel", "planned", "[I", true)
  | _ => ("ShareKeeperModel", "choice", "[I", true)
def tyX11 : Nat → FieldType := fun k => match k with
  | 0 => .int
  | 1 => .int
  | 2 => .int
  | 3 => .array .int
  | 4 => .array .int
  | 5 => .array .int
  | 6 => .array .int
  | 7 => .array .int
  | 8 => .array .boolean
  | 9 => .int
  | 10 => .int
  | 11 => .int
  | 12 => .long
  | 13 => .long
  | 14 => .long
  | 15 => .int
  | 16 => .array .int
  | 17 => .array .int
  | 18 => .array .int
  | 19 => .array .boolean
  | 20 => .array .int
  | 21 => .array .int
  | 22 => .array .int
  | 23 => .int
  | 24 => .int
  | 25 => .array .int
  | 26 => .int
  | 27 => .array .int
  | 28 => .array .int
  | 29 => .array .int
  | 30 => .array .int
  | 31 => .array .long
  | 32 => .array .long
  | 33 => .int
  | 34 => .array .int
  | 35 => .array .int
  | 36 => .array .int
  | 37 => .array .int
  | 38 => .array .int
  | 39 => .int
  | 40 => .array .int
  | _ => .array .int
abbrev wsX110 : List Cond := u_ws RX11 TX11 42
theorem nmX11 : ∀ a, a < 42 → ∀ b, b < 42 → a ≠ b → (TX11 a).2.1 ≠ (TX11 b).2.1 := by decide +kernel
theorem tyX11_ok : ∀ k, k < 42 → parseFieldDescriptor (TX11 k).2.2.1 = some (tyX11 k) := by decide +kernel
abbrev cX11_init : ByteArray := prog_13_method_1_code
def yX11_init : MethodName := ⟨RX11, "<init>", "()V"⟩
abbrev cX11_thrown : ByteArray := prog_13_method_2_code
def yX11_thrown : MethodName := ⟨RX11, "thrown", "()I"⟩
abbrev cX11_service : ByteArray := prog_13_method_3_code
def yX11_service : MethodName := ⟨RX11, "service", "()I"⟩
abbrev cX11_isService : ByteArray := prog_13_method_4_code
def yX11_isService : MethodName := ⟨RX11, "isService", "(I)Z"⟩
abbrev cX11_source : ByteArray := prog_13_method_5_code
def yX11_source : MethodName := ⟨RX11, "source", "(III)I"⟩
abbrev cX11_count : ByteArray := prog_13_method_6_code
def yX11_count : MethodName := ⟨RX11, "count", "(IIIII)I"⟩
abbrev cX11_ticks : ByteArray := prog_13_method_7_code
def yX11_ticks : MethodName := ⟨RX11, "ticks", "(I)I"⟩
abbrev cX11_addTick : ByteArray := prog_13_method_8_code
def yX11_addTick : MethodName := ⟨RX11, "addTick", "(II)V"⟩
abbrev cX11_sums : ByteArray := prog_13_method_9_code
def yX11_sums : MethodName := ⟨RX11, "sums", "(III)V"⟩
abbrev cX11_sum : ByteArray := prog_13_method_10_code
def yX11_sum : MethodName := ⟨RX11, "sum", "(IIII)I"⟩
abbrev cX11_promise : ByteArray := prog_13_method_11_code
def yX11_promise : MethodName := ⟨RX11, "promise", "(IIIZ)I"⟩
abbrev cX11_isPromise : ByteArray := prog_13_method_12_code
def yX11_isPromise : MethodName := ⟨RX11, "isPromise", "(I)Z"⟩
abbrev cX11_grace : ByteArray := prog_13_method_13_code
def yX11_grace : MethodName := ⟨RX11, "grace", "(III)Z"⟩
abbrev cX11_isGrace : ByteArray := prog_13_method_14_code
def yX11_isGrace : MethodName := ⟨RX11, "isGrace", "(II)Z"⟩
abbrev cX11_spans : ByteArray := prog_13_method_15_code
def yX11_spans : MethodName := ⟨RX11, "spans", "(II)V"⟩
abbrev cX11_leftOf : ByteArray := prog_13_method_16_code
def yX11_leftOf : MethodName := ⟨RX11, "leftOf", "(IJJ)J"⟩
abbrev cX11_least : ByteArray := prog_13_method_17_code
def yX11_least : MethodName := ⟨RX11, "least", "(I)J"⟩
abbrev cX11_greatest : ByteArray := prog_13_method_18_code
def yX11_greatest : MethodName := ⟨RX11, "greatest", "(I)J"⟩
abbrev cX11_isWhole : ByteArray := prog_13_method_19_code
def yX11_isWhole : MethodName := ⟨RX11, "isWhole", "(I)Z"⟩
abbrev cX11_settledAt : ByteArray := prog_13_method_20_code
def yX11_settledAt : MethodName := ⟨RX11, "settledAt", "(I)I"⟩
abbrev cX11_span : ByteArray := prog_13_method_21_code
def yX11_span : MethodName := ⟨RX11, "span", "(III)I"⟩
abbrev cX11_broken : ByteArray := prog_13_method_22_code
def yX11_broken : MethodName := ⟨RX11, "broken", "(II)I"⟩
abbrev cX11_part : ByteArray := prog_13_method_23_code
def yX11_part : MethodName := ⟨RX11, "part", "(I)I"⟩
abbrev cX11_marks : ByteArray := prog_13_method_24_code
def yX11_marks : MethodName := ⟨RX11, "marks", "(IZI)J"⟩
abbrev cX11_made : ByteArray := prog_13_method_25_code
def yX11_made : MethodName := ⟨RX11, "made", "(III)I"⟩
abbrev cX11_alarm : ByteArray := prog_13_method_26_code
def yX11_alarm : MethodName := ⟨RX11, "alarm", "(IIII)I"⟩
abbrev cX11_isAlarm : ByteArray := prog_13_method_27_code
def yX11_isAlarm : MethodName := ⟨RX11, "isAlarm", "(I)Z"⟩
abbrev cX11_isWorse : ByteArray := prog_13_method_28_code
def yX11_isWorse : MethodName := ⟨RX11, "isWorse", "(IIJJ)Z"⟩
abbrev cX11_isWorseIn : ByteArray := prog_13_method_29_code
def yX11_isWorseIn : MethodName := ⟨RX11, "isWorseIn", "(IIII)Z"⟩
abbrev cX11_rings : ByteArray := prog_13_method_30_code
def yX11_rings : MethodName := ⟨RX11, "rings", "(II)I"⟩
abbrev cX11_isSteadyWorse : ByteArray := prog_13_method_31_code
def yX11_isSteadyWorse : MethodName := ⟨RX11, "isSteadyWorse", "(IIIIII)Z"⟩
abbrev cX11_soonestOf : ByteArray := prog_13_method_32_code
def yX11_soonestOf : MethodName := ⟨RX11, "soonestOf", "(IIIIII)I"⟩
abbrev cX11_soonest : ByteArray := prog_13_method_33_code
def yX11_soonest : MethodName := ⟨RX11, "soonest", "(IIII)I"⟩
abbrev cX11_sumsTo : ByteArray := prog_13_method_34_code
def yX11_sumsTo : MethodName := ⟨RX11, "sumsTo", "(I)V"⟩
abbrev cX11_isWorseTo : ByteArray := prog_13_method_35_code
def yX11_isWorseTo : MethodName := ⟨RX11, "isWorseTo", "(IIII)Z"⟩
abbrev cX11_ringsTill : ByteArray := prog_13_method_36_code
def yX11_ringsTill : MethodName := ⟨RX11, "ringsTill", "(IIII)I"⟩
abbrev cX11_best : ByteArray := prog_13_method_37_code
def yX11_best : MethodName := ⟨RX11, "best", "(IIII)I"⟩
abbrev cX11_change : ByteArray := prog_13_method_38_code
def yX11_change : MethodName := ⟨RX11, "change", "(III)I"⟩
abbrev cX11_isChange : ByteArray := prog_13_method_39_code
def yX11_isChange : MethodName := ⟨RX11, "isChange", "(I)Z"⟩
abbrev cX11_room : ByteArray := prog_13_method_40_code
def yX11_room : MethodName := ⟨RX11, "room", "(I)J"⟩
abbrev cX11_let : ByteArray := prog_13_method_41_code
def yX11_let : MethodName := ⟨RX11, "let", "(I)Z"⟩
abbrev cX11_settle : ByteArray := prog_13_method_42_code
def yX11_settle : MethodName := ⟨RX11, "settle", "(II)Z"⟩
abbrev cX11_plan : ByteArray := prog_13_method_43_code
def yX11_plan : MethodName := ⟨RX11, "plan", "(I)I"⟩
abbrev cX11_planned : ByteArray := prog_13_method_44_code
def yX11_planned : MethodName := ⟨RX11, "planned", "(I)I"⟩
abbrev cX11_look : ByteArray := prog_13_method_45_code
def yX11_look : MethodName := ⟨RX11, "look", "(II)I"⟩
abbrev cX11_desk : ByteArray := prog_13_method_46_code
def yX11_desk : MethodName := ⟨RX11, "desk", "(I)I"⟩
def RJx145de : String := "java/io/Serializable"
def TJx145de : u_T := fun k => match k with
  | _ => ("", "", "", false)
def tyJx145de : Nat → FieldType := fun k => match k with
  | _ => .int
abbrev wsJx145de0 : List Cond := u_ws RJx145de TJx145de 0
theorem nmJx145de : ∀ a, a < 0 → ∀ b, b < 0 → a ≠ b → (TJx145de a).2.1 ≠ (TJx145de b).2.1 := by decide +kernel
theorem tyJx145de_ok : ∀ k, k < 0 → parseFieldDescriptor (TJx145de k).2.2.1 = some (tyJx145de k) := by decide +kernel
def RJx8e188 : String := "java/lang/Cloneable"
def TJx8e188 : u_T := fun k => match k with
  | _ => ("", "", "", false)
def tyJx8e188 : Nat → FieldType := fun k => match k with
  | _ => .int
abbrev wsJx8e1880 : List Cond := u_ws RJx8e188 TJx8e188 0
theorem nmJx8e188 : ∀ a, a < 0 → ∀ b, b < 0 → a ≠ b → (TJx8e188 a).2.1 ≠ (TJx8e188 b).2.1 := by decide +kernel
theorem tyJx8e188_ok : ∀ k, k < 0 → parseFieldDescriptor (TJx8e188 k).2.2.1 = some (tyJx8e188 k) := by decide +kernel
def RJ6 : String := "java/lang/Integer"
def TJ6 : u_T := fun k => match k with
  | _ => ("", "", "", false)
def tyJ6 : Nat → FieldType := fun k => match k with
  | _ => .int
abbrev wsJ60 : List Cond := u_ws RJ6 TJ6 0
theorem nmJ6 : ∀ a, a < 0 → ∀ b, b < 0 → a ≠ b → (TJ6 a).2.1 ≠ (TJ6 b).2.1 := by decide +kernel
theorem tyJ6_ok : ∀ k, k < 0 → parseFieldDescriptor (TJ6 k).2.2.1 = some (tyJ6 k) := by decide +kernel
abbrev cJ6_bitCount_0f7a4 : ByteArray := prog_17_method_49_code
def yJ6_bitCount_0f7a4 : MethodName := ⟨RJ6, "bitCount", "(I)I"⟩
def RJxab1ab : String := "java/lang/Iterable"
def TJxab1ab : u_T := fun k => match k with
  | _ => ("", "", "", false)
def tyJxab1ab : Nat → FieldType := fun k => match k with
  | _ => .int
abbrev wsJxab1ab0 : List Cond := u_ws RJxab1ab TJxab1ab 0
theorem nmJxab1ab : ∀ a, a < 0 → ∀ b, b < 0 → a ≠ b → (TJxab1ab a).2.1 ≠ (TJxab1ab b).2.1 := by decide +kernel
theorem tyJxab1ab_ok : ∀ k, k < 0 → parseFieldDescriptor (TJxab1ab k).2.2.1 = some (tyJxab1ab k) := by decide +kernel
def RJ9 : String := "java/lang/Math"
def TJ9 : u_T := fun k => match k with
  | _ => ("", "", "", false)
def tyJ9 : Nat → FieldType := fun k => match k with
  | _ => .int
abbrev wsJ90 : List Cond := u_ws RJ9 TJ9 0
theorem nmJ9 : ∀ a, a < 0 → ∀ b, b < 0 → a ≠ b → (TJ9 a).2.1 ≠ (TJ9 b).2.1 := by decide +kernel
theorem tyJ9_ok : ∀ k, k < 0 → parseFieldDescriptor (TJ9 k).2.2.1 = some (tyJ9 k) := by decide +kernel
abbrev cJ9_max_7cf53 : ByteArray := prog_19_method_65_code
def yJ9_max_7cf53 : MethodName := ⟨RJ9, "max", "(II)I"⟩
abbrev cJ9_min_7cf53 : ByteArray := prog_19_method_69_code
def yJ9_min_7cf53 : MethodName := ⟨RJ9, "min", "(II)I"⟩
abbrev cJ9_min_f86c9 : ByteArray := prog_19_method_70_code
def yJ9_min_f86c9 : MethodName := ⟨RJ9, "min", "(JJ)J"⟩
def RJ10 : String := "java/lang/System"
def TJ10 : u_T := fun k => match k with
  | _ => ("", "", "", false)
def tyJ10 : Nat → FieldType := fun k => match k with
  | _ => .int
abbrev wsJ100 : List Cond := u_ws RJ10 TJ10 0
theorem nmJ10 : ∀ a, a < 0 → ∀ b, b < 0 → a ≠ b → (TJ10 a).2.1 ≠ (TJ10 b).2.1 := by decide +kernel
theorem tyJ10_ok : ∀ k, k < 0 → parseFieldDescriptor (TJ10 k).2.2.1 = some (tyJ10 k) := by decide +kernel
def RJxa1e45 : String := "java/util/AbstractCollection"
def TJxa1e45 : u_T := fun k => match k with
  | _ => ("", "", "", false)
def tyJxa1e45 : Nat → FieldType := fun k => match k with
  | _ => .int
abbrev wsJxa1e450 : List Cond := u_ws RJxa1e45 TJxa1e45 0
theorem nmJxa1e45 : ∀ a, a < 0 → ∀ b, b < 0 → a ≠ b → (TJxa1e45 a).2.1 ≠ (TJxa1e45 b).2.1 := by decide +kernel
theorem tyJxa1e45_ok : ∀ k, k < 0 → parseFieldDescriptor (TJxa1e45 k).2.2.1 = some (tyJxa1e45 k) := by decide +kernel
abbrev cJxa1e45_init_da8c8 : ByteArray := prog_23_method_1_code
def yJxa1e45_init_da8c8 : MethodName := ⟨RJxa1e45, "<init>", "()V"⟩
def RJxc12de : String := "java/util/AbstractList"
def TJxc12de : u_T := fun k => match k with
  | _ => ("", "", "", false)
def tyJxc12de : Nat → FieldType := fun k => match k with
  | _ => .int
abbrev wsJxc12de0 : List Cond := u_ws RJxc12de TJxc12de 0
theorem nmJxc12de : ∀ a, a < 0 → ∀ b, b < 0 → a ≠ b → (TJxc12de a).2.1 ≠ (TJxc12de b).2.1 := by decide +kernel
theorem tyJxc12de_ok : ∀ k, k < 0 → parseFieldDescriptor (TJxc12de k).2.2.1 = some (tyJxc12de k) := by decide +kernel
abbrev cJxc12de_init_da8c8 : ByteArray := prog_24_method_1_code
def yJxc12de_init_da8c8 : MethodName := ⟨RJxc12de, "<init>", "()V"⟩
def RJx4a65c : String := "java/util/ArrayList"
def TJx4a65c : u_T := fun k => match k with
  | 0 => ("java/util/AbstractList", "modCount", "I", false)
  | 1 => ("java/util/ArrayList", "elementData", "[Ljava/lang/Object;", false)
  | _ => ("java/util/ArrayList", "size", "I", false)
def tyJx4a65c : Nat → FieldType := fun k => match k with
  | 0 => .int
  | 1 => .array (.object "java/lang/Object")
  | _ => .int
abbrev wsJx4a65c0 : List Cond := u_ws RJx4a65c TJx4a65c 3
theorem nmJx4a65c : ∀ a, a < 3 → ∀ b, b < 3 → a ≠ b → (TJx4a65c a).2.1 ≠ (TJx4a65c b).2.1 := by decide +kernel
theorem tyJx4a65c_ok : ∀ k, k < 3 → parseFieldDescriptor (TJx4a65c k).2.2.1 = some (tyJx4a65c k) := by decide +kernel
abbrev cJx4a65c_init_da8c8 : ByteArray := prog_25_method_2_code
def yJx4a65c_init_da8c8 : MethodName := ⟨RJx4a65c, "<init>", "()V"⟩
abbrev cJx4a65c_grow_92f84 : ByteArray := prog_25_method_6_code
def yJx4a65c_grow_92f84 : MethodName := ⟨RJx4a65c, "grow", "(I)[Ljava/lang/Object;"⟩
abbrev cJx4a65c_grow_d5877 : ByteArray := prog_25_method_7_code
def yJx4a65c_grow_d5877 : MethodName := ⟨RJx4a65c, "grow", "()[Ljava/lang/Object;"⟩
abbrev cJx4a65c_size_8abf5 : ByteArray := prog_25_method_8_code
def yJx4a65c_size_8abf5 : MethodName := ⟨RJx4a65c, "size", "()I"⟩
abbrev cJx4a65c_isEmpty_aae02 : ByteArray := prog_25_method_9_code
def yJx4a65c_isEmpty_aae02 : MethodName := ⟨RJx4a65c, "isEmpty", "()Z"⟩
abbrev cJx4a65c_elementData_915e3 : ByteArray := prog_25_method_18_code
def yJx4a65c_elementData_915e3 : MethodName := ⟨RJx4a65c, "elementData", "(I)Ljava/lang/Object;"⟩
abbrev cJx4a65c_get_915e3 : ByteArray := prog_25_method_20_code
def yJx4a65c_get_915e3 : MethodName := ⟨RJx4a65c, "get", "(I)Ljava/lang/Object;"⟩
abbrev cJx4a65c_add_72be8 : ByteArray := prog_25_method_24_code
def yJx4a65c_add_72be8 : MethodName := ⟨RJx4a65c, "add", "(Ljava/lang/Object;[Ljava/lang/Object;I)V"⟩
abbrev cJx4a65c_add_9ea2d : ByteArray := prog_25_method_25_code
def yJx4a65c_add_9ea2d : MethodName := ⟨RJx4a65c, "add", "(Ljava/lang/Object;)Z"⟩
def RJ7 : String := "java/util/Arrays"
def TJ7 : u_T := fun k => match k with
  | _ => ("", "", "", false)
def tyJ7 : Nat → FieldType := fun k => match k with
  | _ => .int
abbrev wsJ70 : List Cond := u_ws RJ7 TJ7 0
theorem nmJ7 : ∀ a, a < 0 → ∀ b, b < 0 → a ≠ b → (TJ7 a).2.1 ≠ (TJ7 b).2.1 := by decide +kernel
theorem tyJ7_ok : ∀ k, k < 0 → parseFieldDescriptor (TJ7 k).2.2.1 = some (tyJ7 k) := by decide +kernel
abbrev cJ7_fill_53178 : ByteArray := prog_26_method_103_code
def yJ7_fill_53178 : MethodName := ⟨RJ7, "fill", "([II)V"⟩
abbrev cJ7_copyOf_1904c : ByteArray := prog_26_method_119_code
def yJ7_copyOf_1904c : MethodName := ⟨RJ7, "copyOf", "([Ljava/lang/Object;I)[Ljava/lang/Object;"⟩
abbrev cJ7_copyOf_6403c : ByteArray := prog_26_method_120_code
def yJ7_copyOf_6403c : MethodName := ⟨RJ7, "copyOf", "([Ljava/lang/Object;ILjava/lang/Class;)[Ljava/lang/Object;"⟩
def RJx5ef63 : String := "java/util/Collection"
def TJx5ef63 : u_T := fun k => match k with
  | _ => ("", "", "", false)
def tyJx5ef63 : Nat → FieldType := fun k => match k with
  | _ => .int
abbrev wsJx5ef630 : List Cond := u_ws RJx5ef63 TJx5ef63 0
theorem nmJx5ef63 : ∀ a, a < 0 → ∀ b, b < 0 → a ≠ b → (TJx5ef63 a).2.1 ≠ (TJx5ef63 b).2.1 := by decide +kernel
theorem tyJx5ef63_ok : ∀ k, k < 0 → parseFieldDescriptor (TJx5ef63 k).2.2.1 = some (tyJx5ef63 k) := by decide +kernel
def RJxbd725 : String := "java/util/List"
def TJxbd725 : u_T := fun k => match k with
  | _ => ("", "", "", false)
def tyJxbd725 : Nat → FieldType := fun k => match k with
  | _ => .int
abbrev wsJxbd7250 : List Cond := u_ws RJxbd725 TJxbd725 0
theorem nmJxbd725 : ∀ a, a < 0 → ∀ b, b < 0 → a ≠ b → (TJxbd725 a).2.1 ≠ (TJxbd725 b).2.1 := by decide +kernel
theorem tyJxbd725_ok : ∀ k, k < 0 → parseFieldDescriptor (TJxbd725 k).2.2.1 = some (tyJxbd725 k) := by decide +kernel
def RJ15 : String := "java/util/Objects"
def TJ15 : u_T := fun k => match k with
  | _ => ("", "", "", false)
def tyJ15 : Nat → FieldType := fun k => match k with
  | _ => .int
abbrev wsJ150 : List Cond := u_ws RJ15 TJ15 0
theorem nmJ15 : ∀ a, a < 0 → ∀ b, b < 0 → a ≠ b → (TJ15 a).2.1 ≠ (TJ15 b).2.1 := by decide +kernel
theorem tyJ15_ok : ∀ k, k < 0 → parseFieldDescriptor (TJ15 k).2.2.1 = some (tyJ15 k) := by decide +kernel
abbrev cJ15_checkIndex_7cf53 : ByteArray := prog_30_method_17_code
def yJ15_checkIndex_7cf53 : MethodName := ⟨RJ15, "checkIndex", "(II)I"⟩
def RJxf0a74 : String := "java/util/RandomAccess"
def TJxf0a74 : u_T := fun k => match k with
  | _ => ("", "", "", false)
def tyJxf0a74 : Nat → FieldType := fun k => match k with
  | _ => .int
abbrev wsJxf0a740 : List Cond := u_ws RJxf0a74 TJxf0a74 0
theorem nmJxf0a74 : ∀ a, a < 0 → ∀ b, b < 0 → a ≠ b → (TJxf0a74 a).2.1 ≠ (TJxf0a74 b).2.1 := by decide +kernel
theorem tyJxf0a74_ok : ∀ k, k < 0 → parseFieldDescriptor (TJxf0a74 k).2.2.1 = some (tyJxf0a74 k) := by decide +kernel
def RJxa66e6 : String := "java/util/SequencedCollection"
def TJxa66e6 : u_T := fun k => match k with
  | _ => ("", "", "", false)
def tyJxa66e6 : Nat → FieldType := fun k => match k with
  | _ => .int
abbrev wsJxa66e60 : List Cond := u_ws RJxa66e6 TJxa66e6 0
theorem nmJxa66e6 : ∀ a, a < 0 → ∀ b, b < 0 → a ≠ b → (TJxa66e6 a).2.1 ≠ (TJxa66e6 b).2.1 := by decide +kernel
theorem tyJxa66e6_ok : ∀ k, k < 0 → parseFieldDescriptor (TJxa66e6 k).2.2.1 = some (tyJxa66e6 k) := by decide +kernel
def RJ8 : String := "jdk/internal/util/ArraysSupport"
def TJ8 : u_T := fun k => match k with
  | _ => ("", "", "", false)
def tyJ8 : Nat → FieldType := fun k => match k with
  | _ => .int
abbrev wsJ80 : List Cond := u_ws RJ8 TJ8 0
theorem nmJ8 : ∀ a, a < 0 → ∀ b, b < 0 → a ≠ b → (TJ8 a).2.1 ≠ (TJ8 b).2.1 := by decide +kernel
theorem tyJ8_ok : ∀ k, k < 0 → parseFieldDescriptor (TJ8 k).2.2.1 = some (tyJ8 k) := by decide +kernel
abbrev cJ8_newLength_cabcc : ByteArray := prog_33_method_27_code
def yJ8_newLength_cabcc : MethodName := ⟨RJ8, "newLength", "(III)I"⟩
abbrev cJ8_hugeLength_7cf53 : ByteArray := prog_33_method_28_code
def yJ8_hugeLength_7cf53 : MethodName := ⟨RJ8, "hugeLength", "(II)I"⟩
def RJ3 : String := "jdk/internal/util/Preconditions"
def TJ3 : u_T := fun k => match k with
  | _ => ("", "", "", false)
def tyJ3 : Nat → FieldType := fun k => match k with
  | _ => .int
abbrev wsJ30 : List Cond := u_ws RJ3 TJ3 0
theorem nmJ3 : ∀ a, a < 0 → ∀ b, b < 0 → a ≠ b → (TJ3 a).2.1 ≠ (TJ3 b).2.1 := by decide +kernel
theorem tyJ3_ok : ∀ k, k < 0 → parseFieldDescriptor (TJ3 k).2.2.1 = some (tyJ3 k) := by decide +kernel
abbrev cJ3_checkIndex_8e157 : ByteArray := prog_34_method_11_code
def yJ3_checkIndex_8e157 : MethodName := ⟨RJ3, "checkIndex", "(IILjava/util/function/BiFunction;)I"⟩
def RL : String := "ShareKeeperLaw"
abbrev cL_span : ByteArray := method_3_code
def yL_span : MethodName := ⟨RL, "span", "(LShareKeeper;III[J)I"⟩
abbrev cL_law : ByteArray := code
def yL_law : MethodName := ⟨RL, "law", "([I)Z"⟩
abbrev vwCl : List vw_C := [(RJx4a65c, TJx4a65c, 3), (RX0, TX0, 4), (RX1, TX1, 5), (RX2, TX2, 5), (RX4, TX4, 2), (RX5, TX5, 10), (RX6, TX6, 6), (RX7, TX7, 3), (RX8, TX8, 5), (RX9, TX9, 2), (RX10, TX10, 11), (RX11, TX11, 42)]
end
section
/-! The heap as a function: constants (0: the first address that may be written, 1: the empty list's array, 2 .. 5: the classes of int[], boolean[], long[], Object[]), the size, the cells. -/
abbrev xH : Type := Nat × (Nat → Option va_E)
def xTy (c : Nat → Nat) : List (ClassId × FieldType) := [(c 2, .int), (c 3, .boolean), (c 4, .long), (c 5, .object "java/lang/Object")]
def xA (c : Nat → Nat) : Nat → Prop := fun q => c 0 ≤ q
/-- calls by an interface: class, the interface's method, the class's method -/
def xFs : List (String × MethodName × MethodName) := [(RX7, ⟨"ShareKeeper$History", "asksIn", "(II)I"⟩, yX7_asksIn), (RX9, ⟨"ShareKeeper$History", "asksIn", "(II)I"⟩, yX9_asksIn), (RX7, ⟨"ShareKeeper$History", "badIn", "(II)I"⟩, yX7_badIn), (RX9, ⟨"ShareKeeper$History", "badIn", "(II)I"⟩, yX9_badIn), (RJx4a65c, ⟨"java/util/List", "size", "()I"⟩, yJx4a65c_size_8abf5), (RJx4a65c, ⟨"java/util/List", "get", "(I)Ljava/lang/Object;"⟩, yJx4a65c_get_915e3), (RJx4a65c, ⟨"java/util/List", "isEmpty", "()Z"⟩, yJx4a65c_isEmpty_aae02), (RJx4a65c, ⟨"java/util/List", "add", "(Ljava/lang/Object;)Z"⟩, yJx4a65c_add_9ea2d)]
def xE (c : Nat → Nat) (U : State) (H : Heap) : Prop := va_Z "java/util/ArrayList" "DEFAULTCAPACITY_EMPTY_ELEMENTDATA" "[Ljava/lang/Object;" (.ref (c 1)) (xA c) U H ∧ ∀ q ∈ xFs, va_Fw q.1 q.2.1 q.2.2 U
def xR (D : va_G) (G : Nat → Nat) (h : xH) (U : State) (H : Heap) : Prop := H.size = h.1 ∧ G 0 ≤ h.1 ∧ va_K D vwCl (xTy G) U ∧ xE G U H ∧ ∀ a e, h.2 a = some e → va_at D vwCl (a, e) H
/-- a cell is written -/
def xs (h : xH) (a : Nat) (e : va_E) : xH := (h.1, fun b => if b = a then some e else h.2 b)
/-- a cell is made -/
def xn (h : xH) (e : va_E) : xH := (h.1 + 1, fun b => if b = h.1 then some e else h.2 b)
theorem xFs_ok : ∀ q ∈ xFs, q.2.1.cls ≠ "java/lang/invoke/MethodHandle" ∧ q.2.1.cls ≠ "java/lang/invoke/VarHandle" := by decide +kernel
theorem xE.moved {c : Nat → Nat} {u U : State} {H : Heap} (hvm : u.vm.Alike U.vm) (h : xE c u H) : xE c U H := ⟨h.1.moved hvm, fun q hq => (h.2 q hq).moved (xFs_ok q hq) hvm⟩
theorem xR.moved {D : va_G} {G : Nat → Nat} {h : xH} {u U : State} {H : Heap} (hvm : u.vm.Alike U.vm) (r : xR D G h u H) : xR D G h U H := ⟨r.1, r.2.1, r.2.2.1.moved hvm, r.2.2.2.1.moved hvm, r.2.2.2.2⟩
theorem xR.lt {D : va_G} {G : Nat → Nat} {h : xH} {U : State} {H : Heap} (r : xR D G h U H) {a : Nat} {e : va_E} (ha : h.2 a = some e) : a < H.size := (r.2.2.2.2 a e ha).lt
theorem xR.set {D : va_G} {G : Nat → Nat} {h : xH} {U : State} {H H1 : Heap} {a : Nat} {e' : va_E} (r : xR D G h U H) (hlo : G 0 ≤ a) (he : va_at D vwCl (a, e') H1) (z : H1.size = H.size) (oq : ∀ q : Nat, q ≠ a → H1[q]? = H[q]?) : xR D G (xs h a e') U H1 := by
  obtain ⟨r1, r2, r3, r4, r5⟩ := r
  refine ⟨by rw [z]; exact r1, r2, r3, ⟨r4.1.kept (fun q _ hq => oq q (fun e => hq (by rw [e]; exact hlo))), r4.2⟩, fun b e hb => ?_⟩
  by_cases hba : b = a
  · subst hba
    simp only [xs, if_true] at hb
    cases hb
    exact he
  · simp only [xs, if_neg hba] at hb
    exact (r5 b e hb).kept (oq b hba)
theorem xR.new {D : va_G} {G : Nat → Nat} {h : xH} {U : State} {H H1 : Heap} {e' : va_E} (r : xR D G h U H) (he : va_at D vwCl (h.1, e') H1) (z : H1.size = H.size + 1) (oq : ∀ q : Nat, q < H.size → H1[q]? = H[q]?) : xR D G (xn h e') U H1 := by
  obtain ⟨r1, r2, r3, r4, r5⟩ := r
  refine ⟨by rw [z, r1]; rfl, Nat.le_succ_of_le r2, r3, ⟨r4.1.kept (fun q h1 _ => oq q h1), r4.2⟩, fun b e hb => ?_⟩
  by_cases hba : b = h.1
  · subst hba
    simp only [xn, if_true] at hb
    cases hb
    exact he
  · simp only [xn, if_neg hba] at hb
    exact (r5 b e hb).kept (oq b (r5 b e hb).lt)
/-! reads and writes -/
def xf (h : xH) (o : Option Nat) (ci k : Nat) : Option Value := o.bind fun a => (h.2 a).bind fun e => match e with
  | .inr q => if q.1 = ci then q.2[k]? else none
  | .inl _ => none
def gI (h : xH) (o : Option Nat) (ci k : Nat) : Option Int32 := (xf h o ci k).bind fun v => match v with
  | .int x => some x
  | _ => none
def gJ (h : xH) (o : Option Nat) (ci k : Nat) : Option Int64 := (xf h o ci k).bind fun v => match v with
  | .long x => some x
  | _ => none
def gR (h : xH) (o : Option Nat) (ci k : Nat) : Option (Option Nat) := (xf h o ci k).bind fun v => match v with
  | .ref x => some (some x)
  | .null => some none
  | _ => none
def xp (G : Nat → Nat) (h : xH) (o : Option Nat) (ci k : Nat) (v : Value) : Option xH := o.bind fun a => (h.2 a).bind fun e => match e with
  | .inr q => if q.1 = ci ∧ k < q.2.length ∧ G 0 ≤ a then some (xs h a (.inr (ci, q.2.set k v))) else none
  | .inl _ => none
def ldI (t : Nat) (G : Nat → Nat) (h : xH) (o : Option Nat) (i : Int32) : Option Int32 := o.bind fun a => (h.2 a).bind fun e => match e with
  | .inl (c, n, .inl f) => if c = G t ∧ ¬ (i < 0 ∨ n ≤ i.toNatClampNeg) then some (f i.toNatClampNeg) else none
  | _ => none
def ldJ (G : Nat → Nat) (h : xH) (o : Option Nat) (i : Int32) : Option Int64 := o.bind fun a => (h.2 a).bind fun e => match e with
  | .inl (c, n, .inr (.inl f)) => if c = G 4 ∧ ¬ (i < 0 ∨ n ≤ i.toNatClampNeg) then some (f i.toNatClampNeg) else none
  | _ => none
def ldR (G : Nat → Nat) (h : xH) (o : Option Nat) (i : Int32) : Option (Option Nat) := o.bind fun a => (h.2 a).bind fun e => match e with
  | .inl (c, n, .inr (.inr (.inr (.inr f)))) => if c = G 5 ∧ ¬ (i < 0 ∨ n ≤ i.toNatClampNeg) then some (f i.toNatClampNeg) else none
  | _ => none
def stI (t : Nat) (G : Nat → Nat) (h : xH) (o : Option Nat) (i x : Int32) : Option xH := o.bind fun a => (h.2 a).bind fun e => match e with
  | .inl (c, n, .inl f) => if c = G t ∧ G 0 ≤ a ∧ ¬ (i < 0 ∨ n ≤ i.toNatClampNeg) then some (xs h a (.inl (c, n, .inl (upd f i.toNatClampNeg x)))) else none
  | _ => none
def stJ (G : Nat → Nat) (h : xH) (o : Option Nat) (i : Int32) (x : Int64) : Option xH := o.bind fun a => (h.2 a).bind fun e => match e with
  | .inl (c, n, .inr (.inl f)) => if c = G 4 ∧ G 0 ≤ a ∧ ¬ (i < 0 ∨ n ≤ i.toNatClampNeg) then some (xs h a (.inl (c, n, .inr (.inl (vp_updL f i.toNatClampNeg x))))) else none
  | _ => none
def aln (G : Nat → Nat) (h : xH) (o : Option Nat) : Option Int32 := o.bind fun a => (h.2 a).bind fun e => match e with
  | .inl (c, n, _) => if c = G 2 ∨ c = G 3 ∨ c = G 4 ∨ c = G 5 then some (Int32.ofNat n) else none
  | _ => none
/-- an object of a class -/
def xc (h : xH) (o : Option Nat) (ci : Nat) : Option Nat := o.bind fun a => (h.2 a).bind fun e => match e with
  | .inr q => if q.1 = ci then some a else none
  | .inl _ => none
theorem xf_spec {h : xH} {o : Option Nat} {ci k : Nat} {v : Value} (e : xf h o ci k = some v) : ∃ a fs, o = some a ∧ h.2 a = some (.inr (ci, fs)) ∧ fs[k]? = some v := by
  unfold xf at e
  obtain ⟨a, ho, e1⟩ := Option.bind_eq_some_iff.mp e
  clear e
  subst ho
  obtain ⟨c, h1, e⟩ := Option.bind_eq_some_iff.mp e1
  clear e1
  rcases c with c | ⟨c, fs⟩
  · cases e
  · dsimp only at e
    split at e
    · rename_i hc
      subst hc
      exact ⟨a, fs, rfl, h1, e⟩
    · cases e
theorem gI_spec {h : xH} {o : Option Nat} {ci k : Nat} {x : Int32} (e : gI h o ci k = some x) : ∃ a fs, o = some a ∧ h.2 a = some (.inr (ci, fs)) ∧ fs[k]? = some (.int x) := by
  unfold gI at e
  obtain ⟨v, h1, e1⟩ := Option.bind_eq_some_iff.mp e
  clear e
  cases v <;> first | cases e1 | skip
  exact xf_spec h1
theorem gJ_spec {h : xH} {o : Option Nat} {ci k : Nat} {x : Int64} (e : gJ h o ci k = some x) : ∃ a fs, o = some a ∧ h.2 a = some (.inr (ci, fs)) ∧ fs[k]? = some (.long x) := by
  unfold gJ at e
  obtain ⟨v, h1, e1⟩ := Option.bind_eq_some_iff.mp e
  clear e
  cases v <;> first | cases e1 | skip
  exact xf_spec h1
theorem gR_spec {h : xH} {o : Option Nat} {ci k : Nat} {x : Option Nat} (e : gR h o ci k = some x) : ∃ a fs, o = some a ∧ h.2 a = some (.inr (ci, fs)) ∧ fs[k]? = some (va_rf x) := by
  unfold gR at e
  obtain ⟨v, h1, e1⟩ := Option.bind_eq_some_iff.mp e
  clear e
  cases v <;> first | cases e1 | skip
  · exact xf_spec h1
  · exact xf_spec h1
theorem xp_spec {G : Nat → Nat} {h h' : xH} {o : Option Nat} {ci k : Nat} {v : Value} (e : xp G h o ci k v = some h') : ∃ a fs, o = some a ∧ h.2 a = some (.inr (ci, fs)) ∧ k < fs.length ∧ G 0 ≤ a ∧ h' = xs h a (.inr (ci, fs.set k v)) := by
  unfold xp at e
  obtain ⟨a, ho, e1⟩ := Option.bind_eq_some_iff.mp e
  clear e
  subst ho
  obtain ⟨c, h1, e⟩ := Option.bind_eq_some_iff.mp e1
  clear e1
  rcases c with c | ⟨c, fs⟩
  · cases e
  · dsimp only at e
    split at e
    · rename_i hc
      obtain ⟨rfl, h2, h3⟩ := hc
      cases e
      exact ⟨a, fs, rfl, h1, h2, h3, rfl⟩
    · cases e
theorem xc_spec {h : xH} {o : Option Nat} {ci a : Nat} (e : xc h o ci = some a) : o = some a ∧ ∃ fs, h.2 a = some (.inr (ci, fs)) := by
  unfold xc at e
  obtain ⟨a', ho, e1⟩ := Option.bind_eq_some_iff.mp e
  clear e
  subst ho
  obtain ⟨c, h1, e⟩ := Option.bind_eq_some_iff.mp e1
  clear e1
  rcases c with c | ⟨c, fs⟩
  · cases e
  · dsimp only at e
    split at e
    · rename_i hc
      subst hc
      cases e
      exact ⟨rfl, fs, h1⟩
    · cases e
theorem ldI_spec {G : Nat → Nat} {t : Nat} {h : xH} {o : Option Nat} {i x : Int32} (e : ldI t G h o i = some x) : ∃ a n f, o = some a ∧ h.2 a = some (.inl (G t, n, .inl f)) ∧ vp_in i n ∧ x = f i.toNatClampNeg := by
  unfold ldI at e
  obtain ⟨a, ho, e1⟩ := Option.bind_eq_some_iff.mp e
  clear e
  subst ho
  obtain ⟨c, h1, e⟩ := Option.bind_eq_some_iff.mp e1
  clear e1
  rcases c with ⟨c, n, f | f⟩ | c
  · dsimp only at e
    split at e
    · rename_i hc
      obtain ⟨rfl, h2⟩ := hc
      cases e
      exact ⟨a, n, f, rfl, h1, h2, rfl⟩
    · cases e
  · cases e
  · cases e
theorem ldJ_spec {G : Nat → Nat} {h : xH} {o : Option Nat} {i : Int32} {x : Int64} (e : ldJ G h o i = some x) : ∃ a n f, o = some a ∧ h.2 a = some (.inl (G 4, n, .inr (.inl f))) ∧ vp_in i n ∧ x = f i.toNatClampNeg := by
  unfold ldJ at e
  obtain ⟨a, ho, e1⟩ := Option.bind_eq_some_iff.mp e
  clear e
  subst ho
  obtain ⟨c, h1, e⟩ := Option.bind_eq_some_iff.mp e1
  clear e1
  rcases c with ⟨c, n, f | f | f⟩ | c
  · cases e
  · dsimp only at e
    split at e
    · rename_i hc
      obtain ⟨rfl, h2⟩ := hc
      cases e
      exact ⟨a, n, f, rfl, h1, h2, rfl⟩
    · cases e
  · cases e
  · cases e
theorem ldR_spec {G : Nat → Nat} {h : xH} {o : Option Nat} {i : Int32} {x : Option Nat} (e : ldR G h o i = some x) : ∃ a n f, o = some a ∧ h.2 a = some (.inl (G 5, n, .inr (.inr (.inr (.inr f))))) ∧ vp_in i n ∧ x = f i.toNatClampNeg := by
  unfold ldR at e
  obtain ⟨a, ho, e1⟩ := Option.bind_eq_some_iff.mp e
  clear e
  subst ho
  obtain ⟨c, h1, e⟩ := Option.bind_eq_some_iff.mp e1
  clear e1
  rcases c with ⟨c, n, f | f | f | f | f⟩ | c
  · cases e
  · cases e
  · cases e
  · cases e
  · dsimp only at e
    split at e
    · rename_i hc
      obtain ⟨rfl, h2⟩ := hc
      cases e
      exact ⟨a, n, f, rfl, h1, h2, rfl⟩
    · cases e
  · cases e
theorem stI_spec {G : Nat → Nat} {t : Nat} {h h' : xH} {o : Option Nat} {i x : Int32} (e : stI t G h o i x = some h') : ∃ a n f, o = some a ∧ h.2 a = some (.inl (G t, n, .inl f)) ∧ G 0 ≤ a ∧ vp_in i n ∧ h' = xs h a (.inl (G t, n, .inl (upd f i.toNatClampNeg x))) := by
  unfold stI at e
  obtain ⟨a, ho, e1⟩ := Option.bind_eq_some_iff.mp e
  clear e
  subst ho
  obtain ⟨c, h1, e⟩ := Option.bind_eq_some_iff.mp e1
  clear e1
  rcases c with ⟨c, n, f | f⟩ | c
  · dsimp only at e
    split at e
    · rename_i hc
      obtain ⟨rfl, h2, h3⟩ := hc
      cases e
      exact ⟨a, n, f, rfl, h1, h2, h3, rfl⟩
    · cases e
  · cases e
  · cases e
theorem stJ_spec {G : Nat → Nat} {h h' : xH} {o : Option Nat} {i : Int32} {x : Int64} (e : stJ G h o i x = some h') : ∃ a n f, o = some a ∧ h.2 a = some (.inl (G 4, n, .inr (.inl f))) ∧ G 0 ≤ a ∧ vp_in i n ∧ h' = xs h a (.inl (G 4, n, .inr (.inl (vp_updL f i.toNatClampNeg x)))) := by
  unfold stJ at e
  obtain ⟨a, ho, e1⟩ := Option.bind_eq_some_iff.mp e
  clear e
  subst ho
  obtain ⟨c, h1, e⟩ := Option.bind_eq_some_iff.mp e1
  clear e1
  rcases c with ⟨c, n, f | f | f⟩ | c
  · cases e
  · dsimp only at e
    split at e
    · rename_i hc
      obtain ⟨rfl, h2, h3⟩ := hc
      cases e
      exact ⟨a, n, f, rfl, h1, h2, h3, rfl⟩
    · cases e
  · cases e
  · cases e
theorem aln_spec {G : Nat → Nat} {h : xH} {o : Option Nat} {x : Int32} (e : aln G h o = some x) : ∃ (a : Nat) (c : ClassId) (n : Nat) (f : (Nat → Int32) ⊕ (Nat → Int64) ⊕ (Nat → UInt32) ⊕ (Nat → UInt64) ⊕ (Nat → Option Nat)) (t0 : Nat) (ty : FieldType), o = some a ∧ h.2 a = some (.inl (c, n, f)) ∧ (xTy G)[t0]? = some (c, ty) ∧ x = Int32.ofNat n := by
  unfold aln at e
  obtain ⟨a, ho, e1⟩ := Option.bind_eq_some_iff.mp e
  clear e
  subst ho
  obtain ⟨c, h1, e⟩ := Option.bind_eq_some_iff.mp e1
  clear e1
  rcases c with ⟨c, n, f⟩ | c
  · dsimp only at e
    split at e
    · rename_i hc
      cases e
      rcases hc with rfl | rfl | rfl | rfl
      · exact ⟨a, _, n, f, 0, _, rfl, h1, rfl, rfl⟩
      · exact ⟨a, _, n, f, 1, _, rfl, h1, rfl, rfl⟩
      · exact ⟨a, _, n, f, 2, _, rfl, h1, rfl, rfl⟩
      · exact ⟨a, _, n, f, 3, _, rfl, h1, rfl, rfl⟩
    · cases e
  · cases e
end
section
section XROWS
variable {p : Program} {l : Launch} {e : Env} {R : Room} {s : State} {m : MethodId} {args : Array Value} {below : List Frame} {meth : Method} {c : Code} {H : Heap} {locs : List Loc} {cells slots : Nat} {Q : State → Prop}
variable {cc : ByteArray} {pc : Nat} {ls : Array Slot} {rest : List Value} {D : va_G} {G : Nat → Nat} {h h' : xH} {H0 : Heap} {o : Option Nat}
theorem xsame {s : State} {args : Array Value} {Ts : List Cond} (hts : ∀ w ∈ Ts, w.before args s = true) {ref owner name desc : String} (h : owner = ref ∨ Cond.sameField ref owner name desc ∈ Ts) : ∀ x, s.fieldFound? owner name desc = some x → s.fieldFound? ref name desc = some x := fun x hx => by
  rcases h with rfl | h
  · exact hx
  · exact u_same (hts _ h) x hx
/-- a field's value, of any kind -/
theorem x_get (hexec : p.tables.exec = Jvm.exec) (hb : c.code = cc) {own ref C : String} {T : u_T} {N ci index : Nat} {Ts : List Cond} (hts : ∀ w ∈ Ts, w.before args s = true) (hin : ∀ w ∈ u_ws C T N, w ∈ Ts) (hown : s.vm.findClass own = some m.cls) (hR : xR D G h s H) (hc : vwCl[ci]? = some (C, T, N)) (k : Nat) (hk : k < N) (hlink : Cond.fieldLink own index ref (T k).2.1 (T k).2.2.1 ∈ Ts) (hsame : (T k).1 = ref ∨ Cond.sameField ref (T k).1 (T k).2.1 (T k).2.2.1 ∈ Ts) {v : Value} (hv : ∃ a fs, o = some a ∧ h.2 a = some (.inr (ci, fs)) ∧ fs[k]? = some v) (hdg : decode cc pc = .ok (.getfield index, 3))
    (kk : W p l e R s m args below meth c H locs cells slots Q (F0 m (pc + 3) ls (v :: rest))) : W p l e R s m args below meth c H locs cells slots Q (F0 m pc ls (va_rf o :: rest)) := by
  obtain ⟨a, fs, rfl, h1, h2⟩ := hv
  exact va_get (D := D) (cl := vwCl) (ws := [(a, .inr (ci, fs))]) hexec hb hts hin hown hR.2.2.1 (fun j q hq => by
    have hz : j < 1 := (List.getElem?_eq_some_iff.mp hq).1
    rw [show j = 0 by omega] at hq
    cases hq
    exact hR.2.2.2.2 a _ h1) 0 rfl hc k hk (hts _ hlink) (xsame hts hsame) h2 hdg kk
theorem x_getI (hexec : p.tables.exec = Jvm.exec) (hb : c.code = cc) {own ref C : String} {T : u_T} {N ci index : Nat} {Ts : List Cond} (hts : ∀ w ∈ Ts, w.before args s = true) (hin : ∀ w ∈ u_ws C T N, w ∈ Ts) (hown : s.vm.findClass own = some m.cls) (hR : xR D G h s H) (hc : vwCl[ci]? = some (C, T, N)) (k : Nat) (hk : k < N) (hlink : Cond.fieldLink own index ref (T k).2.1 (T k).2.2.1 ∈ Ts) (hsame : (T k).1 = ref ∨ Cond.sameField ref (T k).1 (T k).2.1 (T k).2.2.1 ∈ Ts) {v : Int32} (hv : gI h o ci k = some v) (hdg : decode cc pc = .ok (.getfield index, 3))
    (kk : W p l e R s m args below meth c H locs cells slots Q (F0 m (pc + 3) ls (.int v :: rest))) : W p l e R s m args below meth c H locs cells slots Q (F0 m pc ls (va_rf o :: rest)) := x_get hexec hb hts hin hown hR hc k hk hlink hsame (gI_spec hv) hdg kk
theorem x_getJ (hexec : p.tables.exec = Jvm.exec) (hb : c.code = cc) {own ref C : String} {T : u_T} {N ci index : Nat} {Ts : List Cond} (hts : ∀ w ∈ Ts, w.before args s = true) (hin : ∀ w ∈ u_ws C T N, w ∈ Ts) (hown : s.vm.findClass own = some m.cls) (hR : xR D G h s H) (hc : vwCl[ci]? = some (C, T, N)) (k : Nat) (hk : k < N) (hlink : Cond.fieldLink own index ref (T k).2.1 (T k).2.2.1 ∈ Ts) (hsame : (T k).1 = ref ∨ Cond.sameField ref (T k).1 (T k).2.1 (T k).2.2.1 ∈ Ts) {v : Int64} (hv : gJ h o ci k = some v) (hdg : decode cc pc = .ok (.getfield index, 3))
    (kk : W p l e R s m args below meth c H locs cells slots Q (F0 m (pc + 3) ls (.long v :: rest))) : W p l e R s m args below meth c H locs cells slots Q (F0 m pc ls (va_rf o :: rest)) := x_get hexec hb hts hin hown hR hc k hk hlink hsame (gJ_spec hv) hdg kk
theorem x_getR (hexec : p.tables.exec = Jvm.exec) (hb : c.code = cc) {own ref C : String} {T : u_T} {N ci index : Nat} {Ts : List Cond} (hts : ∀ w ∈ Ts, w.before args s = true) (hin : ∀ w ∈ u_ws C T N, w ∈ Ts) (hown : s.vm.findClass own = some m.cls) (hR : xR D G h s H) (hc : vwCl[ci]? = some (C, T, N)) (k : Nat) (hk : k < N) (hlink : Cond.fieldLink own index ref (T k).2.1 (T k).2.2.1 ∈ Ts) (hsame : (T k).1 = ref ∨ Cond.sameField ref (T k).1 (T k).2.1 (T k).2.2.1 ∈ Ts) {v : Option Nat} (hv : gR h o ci k = some v) (hdg : decode cc pc = .ok (.getfield index, 3))
    (kk : W p l e R s m args below meth c H locs cells slots Q (F0 m (pc + 3) ls (va_rf v :: rest))) : W p l e R s m args below meth c H locs cells slots Q (F0 m pc ls (va_rf o :: rest)) := x_get hexec hb hts hin hown hR hc k hk hlink hsame (gR_spec hv) hdg kk
/-- a field that is not final is written -/
theorem x_put (hexec : p.tables.exec = Jvm.exec) (hb : c.code = cc) {own ref C : String} {T : u_T} {N ci index : Nat} {Ts : List Cond} (hts : ∀ w ∈ Ts, w.before args s = true) (hin : ∀ w ∈ u_ws C T N, w ∈ Ts) {ty0 : Nat → FieldType} (hty : ∀ k, k < N → parseFieldDescriptor (T k).2.2.1 = some (ty0 k)) (hnm : ∀ a, a < N → ∀ b, b < N → a ≠ b → (T a).2.1 ≠ (T b).2.1) (hown : s.vm.findClass own = some m.cls) (hR : xR D G h s H) (hS0 : va_S (xA G) H0 H locs) (hc : vwCl[ci]? = some (C, T, N)) (k : Nat) (hk : k < N) (hlink : Cond.fieldLink own index ref (T k).2.1 (T k).2.2.1 ∈ Ts) (hsame : (T k).1 = ref ∨ Cond.sameField ref (T k).1 (T k).2.1 (T k).2.2.1 ∈ Ts) (hfin : (T k).2.2.2 = false) {v : Value} (hn : narrow (ty0 k) v = v) (hfit : fits (ty0 k) v = true) (hv : xp G h o ci k v = some h') (hdg : decode cc pc = .ok (.putfield index, 3))
    (kk : ∀ (H1 : Heap) (locs1 : List Loc), xR D G h' s H1 → va_S (xA G) H0 H1 locs1 → W p l e R s m args below meth c H1 locs1 cells slots Q (F0 m (pc + 3) ls rest)) : W p l e R s m args below meth c H locs cells slots Q (F0 m pc ls (v :: va_rf o :: rest)) := by
  obtain ⟨a, fs, rfl, he, hl, hlo, rfl⟩ := xp_spec hv
  have hap := va_apart (own := own) hts hin ty0 hty hnm hR.2.2.1 hc
  obtain ⟨r, h1, cell, q1, q2, q3, q4⟩ := hR.2.2.2.2 a _ he
  have hr : r = (C, T, N) := Option.some.inj (h1.symm.trans hc)
  subst hr
  obtain ⟨hS, hfc, kC, hkC, hkind⟩ := hR.2.2.1.1 ci _ hc
  obtain ⟨cf, kf, fi, f, hi, hsl⟩ := hS k hk
  have hlay := hts _ (hin _ (u_in_lay hk))
  unfold u_lay at hlay
  rw [if_neg (by rw [hfin]; decide)] at hlay
  have hst := (u_facts hfc hkC (u_lays hts hin hk) hi).1
  have h6 := u_store hfc hkC hkind hlay hi (hty k hk) hn hfit
  refine W.putK hexec hb (f := f) ⟨hown, hts _ hlink, ⟨_, _, _, xsame hts hsame _ hi⟩, hst⟩ (by rw [q2]; exact h6) q1 q3 (by rw [hsl]; exact k2_hasslot (q4 k hk)) rfl rfl hdg fun H' e1 e2 e3 => ?_
  rw [hsl] at e1 ⊢
  exact kk H' _ (hR.set hlo ⟨_, hc, t_OB.to (V := updV (vp_V fs) k v) ⟨_, e1, q2, q3, t_set q4 hap hk v⟩ (fun j _ => vp_updV_set hl v j)⟩ e2 e3) (hS0.put e2 e3 hlo)
/-- a final field, in the constructor -/
theorem x_putF (hexec : p.tables.exec = Jvm.exec) (hb : c.code = cc) {own ref C : String} {T : u_T} {N ci index : Nat} {Ts : List Cond} (hts : ∀ w ∈ Ts, w.before args s = true) (hin : ∀ w ∈ u_ws C T N, w ∈ Ts) {ty0 : Nat → FieldType} (hty : ∀ k, k < N → parseFieldDescriptor (T k).2.2.1 = some (ty0 k)) (hnm : ∀ a, a < N → ∀ b, b < N → a ≠ b → (T a).2.1 ≠ (T b).2.1) (hown : s.vm.findClass own = some m.cls) (hR : xR D G h s H) (hS0 : va_S (xA G) H0 H locs) (hc : vwCl[ci]? = some (C, T, N)) (k : Nat) (hk : k < N) (hlink : Cond.fieldLink own index ref (T k).2.1 (T k).2.2.1 ∈ Ts) (hsame : (T k).1 = ref ∨ Cond.sameField ref (T k).1 (T k).2.1 (T k).2.2.1 ∈ Ts) (hfin : (T k).2.2.2 = true) (hin2 : meth.name = "<init>") (hdecl : (T k).1 = own) {v : Value} (hn : narrow (ty0 k) v = v) (hfit : fits (ty0 k) v = true) (hv : xp G h o ci k v = some h') (hdg : decode cc pc = .ok (.putfield index, 3))
    (kk : ∀ (H1 : Heap) (locs1 : List Loc), xR D G h' s H1 → va_S (xA G) H0 H1 locs1 → W p l e R s m args below meth c H1 locs1 cells slots Q (F0 m (pc + 3) ls rest)) : W p l e R s m args below meth c H locs cells slots Q (F0 m pc ls (v :: va_rf o :: rest)) := by
  obtain ⟨a, fs, rfl, he, hl, hlo, rfl⟩ := xp_spec hv
  have hap := va_apart (own := own) hts hin ty0 hty hnm hR.2.2.1 hc
  obtain ⟨r, h1, cell, q1, q2, q3, q4⟩ := hR.2.2.2.2 a _ he
  have hr : r = (C, T, N) := Option.some.inj (h1.symm.trans hc)
  subst hr
  obtain ⟨hS, hfc, kC, hkC, hkind⟩ := hR.2.2.1.1 ci _ hc
  obtain ⟨cf, kf, fi, f, hi, hsl⟩ := hS k hk
  have hlay := hts _ (hin _ (u_in_lay hk))
  unfold u_lay at hlay
  rw [if_pos hfin] at hlay
  have hst := (u_facts hfc hkC (u_lays hts hin hk) hi).1
  have hcf : m.cls = cf := by
    obtain ⟨_, _, c', _, _, _, -, -, hf', -, -, -, hown2, -⟩ := Cond.laysFinal_spec hlay
    have e1 : c' = cf := by have := hi.symm.trans hf'; simp at this; exact this.1.symm
    rw [hdecl] at hown2
    rw [← e1]; exact Option.some.inj (hown.symm.trans hown2)
  have h6 := u_fits hfc hkC hkind (Or.inr hlay) hi (hty k hk) hn hfit
  refine W.putFinK hexec hb hown (hts _ hlink) (xsame hts hsame _ hi) hst hcf hin2 (by rw [q2]; exact h6) q1 q3 (by rw [hsl]; exact k2_hasslot (q4 k hk)) rfl rfl hdg fun H' e1 e2 e3 => ?_
  rw [hsl] at e1 ⊢
  exact kk H' _ (hR.set hlo ⟨_, hc, t_OB.to (V := updV (vp_V fs) k v) ⟨_, e1, q2, q3, t_set q4 hap hk v⟩ (fun j _ => vp_updV_set hl v j)⟩ e2 e3) (hS0.put e2 e3 hlo)
theorem xR.one {U : State} (hR : xR D G h U H) {a : Nat} {x : va_E} (ha : h.2 a = some x) : va_P D vwCl [(a, x)] H := fun j q hq => by
  have hz : j < 1 := (List.getElem?_eq_some_iff.mp hq).1
  rw [show j = 0 by omega] at hq
  cases hq
  exact hR.2.2.2.2 a _ ha
theorem x_ild (hexec : p.tables.exec = Jvm.exec) (hb : c.code = cc) (hR : xR D G h s H) {i v : Int32} (hv : ldI 2 G h o i = some v) (hdg : decode cc pc = .ok (.iaload, 1))
    (kk : W p l e R s m args below meth c H locs cells slots Q (F0 m (pc + 1) ls (.int v :: rest))) : W p l e R s m args below meth c H locs cells slots Q (F0 m pc ls (.int i :: va_rf o :: rest)) := by
  obtain ⟨a, n, f, rfl, h1, h2, rfl⟩ := ldI_spec hv
  exact va_iald (D := D) (cl := vwCl) hexec hb hR.2.2.1 (hR.one h1) 0 0 rfl rfl h2 hdg kk
theorem x_zld (hexec : p.tables.exec = Jvm.exec) (hb : c.code = cc) (hR : xR D G h s H) {i v : Int32} (hv : ldI 3 G h o i = some v) (hdg : decode cc pc = .ok (.baload, 1))
    (kk : W p l e R s m args below meth c H locs cells slots Q (F0 m (pc + 1) ls (.int v :: rest))) : W p l e R s m args below meth c H locs cells slots Q (F0 m pc ls (.int i :: va_rf o :: rest)) := by
  obtain ⟨a, n, f, rfl, h1, h2, rfl⟩ := ldI_spec hv
  exact va_zald (D := D) (cl := vwCl) hexec hb hR.2.2.1 (hR.one h1) 0 1 rfl rfl h2 hdg kk
theorem x_lld (hexec : p.tables.exec = Jvm.exec) (hb : c.code = cc) (hR : xR D G h s H) {i : Int32} {v : Int64} (hv : ldJ G h o i = some v) (hdg : decode cc pc = .ok (.laload, 1))
    (kk : W p l e R s m args below meth c H locs cells slots Q (F0 m (pc + 1) ls (.long v :: rest))) : W p l e R s m args below meth c H locs cells slots Q (F0 m pc ls (.int i :: va_rf o :: rest)) := by
  obtain ⟨a, n, f, rfl, h1, h2, rfl⟩ := ldJ_spec hv
  exact va_lald (D := D) (cl := vwCl) hexec hb hR.2.2.1 (hR.one h1) 0 2 rfl rfl h2 hdg kk
theorem x_ald (hexec : p.tables.exec = Jvm.exec) (hb : c.code = cc) (hR : xR D G h s H) {i : Int32} {v : Option Nat} (hv : ldR G h o i = some v) (hdg : decode cc pc = .ok (.aaload, 1))
    (kk : W p l e R s m args below meth c H locs cells slots Q (F0 m (pc + 1) ls (va_rf v :: rest))) : W p l e R s m args below meth c H locs cells slots Q (F0 m pc ls (.int i :: va_rf o :: rest)) := by
  obtain ⟨a, n, f, rfl, h1, h2, rfl⟩ := ldR_spec hv
  exact va_aldq (D := D) (cl := vwCl) hexec hb hR.2.2.1 (hR.one h1) 0 3 rfl rfl h2 hdg kk
theorem x_aln (hexec : p.tables.exec = Jvm.exec) (hb : c.code = cc) (hR : xR D G h s H) {v : Int32} (hv : aln G h o = some v) (hdg : decode cc pc = .ok (.arraylength, 1))
    (kk : W p l e R s m args below meth c H locs cells slots Q (F0 m (pc + 1) ls (.int v :: rest))) : W p l e R s m args below meth c H locs cells slots Q (F0 m pc ls (va_rf o :: rest)) := by
  obtain ⟨a, cA, n, f, t0, ty, rfl, h1, h2, rfl⟩ := aln_spec hv
  exact va_alen (D := D) (cl := vwCl) hexec hb hR.2.2.1 (hR.one h1) 0 t0 rfl h2 rfl hdg kk
theorem x_ist (hexec : p.tables.exec = Jvm.exec) (hb : c.code = cc) (hR : xR D G h s H) (hS : va_S (xA G) H0 H locs) {i x : Int32} (hv : stI 2 G h o i x = some h') (hdg : decode cc pc = .ok (.iastore, 1))
    (kk : ∀ (H1 : Heap) (locs1 : List Loc), xR D G h' s H1 → va_S (xA G) H0 H1 locs1 → W p l e R s m args below meth c H1 locs1 cells slots Q (F0 m (pc + 1) ls rest)) : W p l e R s m args below meth c H locs cells slots Q (F0 m pc ls (.int x :: .int i :: va_rf o :: rest)) := by
  obtain ⟨a, n, f, rfl, ha, hlo, hin, rfl⟩ := stI_spec hv
  refine W.iast hexec hb (hR.2.2.2.2 a _ ha) ((hR.2.2.1.2 0 _ rfl).1 n (fun j => .int (f j))) (fun q => by cases q) (by show ¬ (i < 0 ∨ (arrV _ _ _).slots.size ≤ _); rw [arrV_size]; exact hin) rfl rfl hdg fun H1 e z oq => ?_
  refine kk H1 _ (hR.set hlo ?_ z oq) (hS.put z oq hlo)
  show H1[a]? = some (vp_cell _ _)
  rw [e]
  rw [vp_cell_i, vp_cell_i, arrV_store]
  congr 2
  funext q
  by_cases hq : q = i.toNatClampNeg
  · subst hq
    simp [updV, upd]
  · simp [updV, upd, hq]
theorem x_zst (hexec : p.tables.exec = Jvm.exec) (hb : c.code = cc) (hR : xR D G h s H) (hS : va_S (xA G) H0 H locs) {i x : Int32} (hv : stI 3 G h o i (vp_nar .boolean x) = some h') (hdg : decode cc pc = .ok (.bastore, 1))
    (kk : ∀ (H1 : Heap) (locs1 : List Loc), xR D G h' s H1 → va_S (xA G) H0 H1 locs1 → W p l e R s m args below meth c H1 locs1 cells slots Q (F0 m (pc + 1) ls rest)) : W p l e R s m args below meth c H locs cells slots Q (F0 m pc ls (.int x :: .int i :: va_rf o :: rest)) := by
  obtain ⟨a, n, f, rfl, ha, hlo, hin, rfl⟩ := stI_spec hv
  refine W.zast hexec hb (hR.2.2.2.2 a _ ha) ((hR.2.2.1.2 1 _ rfl).1 n (fun j => .int (f j))) (fun q => by cases q) (by show ¬ (i < 0 ∨ (arrV _ _ _).slots.size ≤ _); rw [arrV_size]; exact hin) rfl rfl hdg fun H1 e z oq => ?_
  refine kk H1 _ (hR.set hlo ?_ z oq) (hS.put z oq hlo)
  show H1[a]? = some (vp_cell _ _)
  rw [e]
  rw [vp_cell_i, vp_cell_i, arrV_store]
  congr 2
  funext q
  by_cases hq : q = i.toNatClampNeg
  · subst hq
    simp [updV, upd, vp_nar]
    try rfl
  · simp [updV, upd, hq]
theorem x_lst (hexec : p.tables.exec = Jvm.exec) (hb : c.code = cc) (hR : xR D G h s H) (hS : va_S (xA G) H0 H locs) {i : Int32} {x : Int64} (hv : stJ G h o i x = some h') (hdg : decode cc pc = .ok (.lastore, 1))
    (kk : ∀ (H1 : Heap) (locs1 : List Loc), xR D G h' s H1 → va_S (xA G) H0 H1 locs1 → W p l e R s m args below meth c H1 locs1 cells slots Q (F0 m (pc + 1) ls rest)) : W p l e R s m args below meth c H locs cells slots Q (F0 m pc ls (.long x :: .int i :: va_rf o :: rest)) := by
  obtain ⟨a, n, f, rfl, ha, hlo, hin, rfl⟩ := stJ_spec hv
  refine W.last hexec hb (hR.2.2.2.2 a _ ha) ((hR.2.2.1.2 2 _ rfl).1 n (fun j => .long (f j))) (fun q => by cases q) (by show ¬ (i < 0 ∨ (arrV _ _ _).slots.size ≤ _); rw [arrV_size]; exact hin) rfl rfl hdg fun H1 e z oq => ?_
  refine kk H1 _ (hR.set hlo ?_ z oq) (hS.put z oq hlo)
  show H1[a]? = some (vp_cell _ _)
  rw [e]
  rw [vp_cell_l, vp_cell_l, arrV_store]
  congr 2
  funext q
  by_cases hq : q = i.toNatClampNeg
  · subst hq
    simp [updV, vp_updL]
  · simp [updV, vp_updL, hq]
end XROWS
end
section
/-- a method's start: these arguments, this heap -/
def xPc (D : va_G) (G : Nat → Nat) (h : xH) (as : List Value) : Array Value → State → Prop := va_Pc as (fun U => xR D G h U U.heap)
/-- a method's end: this answer, this heap; what lies below G 0 is as it was -/
def xQ (D : va_G) (G : Nat → Nat) (v : Option Value) (h' : xH) : Array Value → State → Outcome → State → Prop := fun _ st oc t => oc = .returned v ∧ xR D G h' t t.heap ∧ va_F (xA G) st t
/-- THE CONTRACT of a method at a heap and arguments: its answer and the heap behind it -/
def xC (l : Launch) (y : MethodName) (b : ByteArray) (n : Nat) (r : Option FieldType) (rm : Room) (D : va_G) (G : Nat → Nat) (h : xH) (as : List Value) (v : Option Value) (h' : xH) : Prop := Met l y (xW y b n r) rm (xPc D G h as) (xQ D G v h') rm.cells rm.slots (xA G)
/-- what the tables say of a method -/
def xM (y : MethodName) (b : ByteArray) (n : Nat) (r : Option FieldType) (k : Nat) : Prop := Cond.code y b n r ∈ xt ∧ Cond.initialized y.cls ∈ xt ∧ (y.cls ≠ "java/lang/invoke/MethodHandle" ∧ y.cls ≠ "java/lang/invoke/VarHandle") ∧ (parseMethodDescriptor y.desc).map (fun d => d.parameters.length) = some k
theorem xPc_blind {D : va_G} {G : Nat → Nat} {h : xH} {as : List Value} : FrameBlind (xPc D G h as) := fun a U g mk q => ⟨q.1, xR.moved (u := U) (U := U.calling g mk a) (Vm.Alike.refl U.vm) q.2⟩
section XCALLS
variable {p : Program} {l : Launch} {e : Env} {R : Room} {s : State} {m : MethodId} {args : Array Value} {below : List Frame} {meth : Method} {c : Code} {H : Heap} {locs : List Loc} {cells slots : Nat} {Q : State → Prop}
variable {cc : ByteArray} {pc : Nat} {ls : Array Slot} {rest st0 : List Value} {D : va_G} {G : Nat → Nat} {h h' : xH} {H0 : Heap} {o : Option Nat}
variable {y : MethodName} {b : ByteArray} {n k nL index : Nat} {r : Option FieldType} {rm : Room} {v : Option Value} {As : List Value} {own : String}
theorem xcallB (hts : ∀ w ∈ xt, w.before args s = true) (hf : xM y b n r k) (hl : Cond.methodLink own index y ∈ xt) (hroom : rm.frames + 1 ≤ R.frames ∧ 8 + (n + 11) + rm.locals ≤ R.locals) : CallB R s args own index y b n r (xW y b n r) rm rm.cells rm.slots k :=
  callB_of (Ts := xt) k hts (fun w hw => (List.mem_cons.mp hw).elim (fun e => ⟨e ▸ hf.1, good_of_word (List.mem_filter.mp (e ▸ hf.1)).2⟩) (fun e => ⟨e, good_of_word (List.mem_filter.mp e).2⟩)) rfl rfl rfl (hts _ hf.2.1) (hts _ hl) ⟨hf.2.2.1.1, hf.2.2.1.2, hf.2.2.2⟩ hroom
/-- behind a call -/
theorem x_ret (hr : va_Run p l e R s m args below meth c H locs cells slots rm.cells rm.slots (F0 m pc ls st0) rest (xQ D G v h' As.toArray) (xA G)) (hS : va_S (xA G) H0 H locs)
    (kk : ∀ (H1 : Heap) (locs1 : List Loc), xR D G h' s H1 → va_S (xA G) H0 H1 locs1 → W p l e R s m args below meth c H1 locs1 (cells + rm.cells) (slots + rm.slots) Q (F0 m (pc + 3) ls (v.toList ++ rest))) : W p l e R s m args below meth c H locs cells slots Q (F0 m pc ls st0) := by
  intro T hT X
  obtain ⟨v1, st₀, t, T', L, h0, X', hL, e1, e2, ⟨hv, hR, hz, hk⟩, st⟩ := hr T hT X
  cases hv
  rw [h0] at hz hk
  rw [← e1] at hR hz hk
  obtain ⟨t2, a1, b1⟩ := kk T'.heap (locs ++ L) (hR.moved (by rw [← e2]; exact X'.warmed.alike.symm))
    ⟨Nat.le_trans hS.1 hz, fun q h1 h2 => by rw [hk q (Nat.lt_of_lt_of_le h1 hS.1) h2]; exact hS.2.1 q h1 h2, fun q hq => by
      rcases List.mem_append.mp hq with h | h
      · exact hS.2.2 q h
      · exact hL q h⟩ T' rfl X'
  exact ⟨t2, st t2 a1, b1⟩
theorem x_ret5 (hr : va_Run5 p l e R s m args below meth c H locs cells slots rm.cells rm.slots (F0 m pc ls st0) rest (xQ D G v h' As.toArray) (xA G)) (hS : va_S (xA G) H0 H locs)
    (kk : ∀ (H1 : Heap) (locs1 : List Loc), xR D G h' s H1 → va_S (xA G) H0 H1 locs1 → W p l e R s m args below meth c H1 locs1 (cells + rm.cells) (slots + rm.slots) Q (F0 m (pc + 5) ls (v.toList ++ rest))) : W p l e R s m args below meth c H locs cells slots Q (F0 m pc ls st0) := by
  intro T hT X
  obtain ⟨v1, st₀, t, T', L, h0, X', hL, e1, e2, ⟨hv, hR, hz, hk⟩, st⟩ := hr T hT X
  cases hv
  rw [h0] at hz hk
  rw [← e1] at hR hz hk
  obtain ⟨t2, a1, b1⟩ := kk T'.heap (locs ++ L) (hR.moved (by rw [← e2]; exact X'.warmed.alike.symm))
    ⟨Nat.le_trans hS.1 hz, fun q h1 h2 => by rw [hk q (Nat.lt_of_lt_of_le h1 hS.1) h2]; exact hS.2.1 q h1 h2, fun q hq => by
      rcases List.mem_append.mp hq with h | h
      · exact hS.2.2 q h
      · exact hL q h⟩ T' rfl X'
  exact ⟨t2, st t2 a1, b1⟩
theorem xR.recv {a ci : Nat} {q : vw_C} {fs : List Value} (hR : xR D G h s H) (hc : vwCl[ci]? = some q) (ha : h.2 a = some (.inr (ci, fs))) : ∃ cell : Cell, H[a]? = some cell ∧ cell.vm.isStatics = false ∧ s.vm.findClass q.1 = some cell.cls := va_recv hR.2.2.1 (hR.one ha) hc (q0 := 0) rfl
theorem x_callS (hexec : p.tables.exec = Jvm.exec) (hb : c.code = cc) (hml : c.maxLocals = nL) (hown : s.vm.findClass own = some m.cls) (hts : ∀ w ∈ xt, w.before args s = true) (hR : xR D G h s H) (hS : va_S (xA G) H0 H locs) (hM : xC l y b n r rm D G h As v h') (hf : xM y b n r k) (hl : Cond.methodLink own index y ∈ xt) (hst : Cond.static y ∈ xt)
    (hn : As.length = k) (hsize : ls.size = nL) (hstack : st0 = As.reverse ++ rest) (hW : (rest.map fun v => v.category).sum ≤ 8) (hdg : decode cc pc = .ok (.invokestatic index, 3)) (hroom : rm.frames + 1 ≤ R.frames ∧ 8 + (n + 11) + rm.locals ≤ R.locals) (hcs : cells + rm.cells ≤ R.cells ∧ slots + rm.slots ≤ R.slots) {st1 : List Value} (hst1 : v.toList ++ rest = st1)
    (kk : ∀ (H1 : Heap) (locs1 : List Loc), xR D G h' s H1 → va_S (xA G) H0 H1 locs1 → W p l e R s m args below meth c H1 locs1 (cells + rm.cells) (slots + rm.slots) Q (F0 m (pc + 3) ls st1)) : W p l e R s m args below meth c H locs cells slots Q (F0 m pc ls st0) := by
  subst hst1
  exact x_ret (va_runS (rest := rest) (g := F0 m pc ls st0) ⟨hexec, hb, hml, hown, hts⟩ hM ⟨xcallB hts hf hl hroom, hts _ hst⟩ ⟨xPc_blind, fun U hU hW => ⟨rfl, by show xR D G h U U.heap; rw [hU]; exact hR.moved hW.alike⟩⟩ rfl hn hsize hstack (by show 2 * 0 + _ ≤ 8; omega) hdg hcs) hS kk
theorem x_callV (hexec : p.tables.exec = Jvm.exec) (hb : c.code = cc) (hml : c.maxLocals = nL) (hown : s.vm.findClass own = some m.cls) (hts : ∀ w ∈ xt, w.before args s = true) (hR : xR D G h s H) (hS : va_S (xA G) H0 H locs) {a ci : Nat} {q : vw_C} (hxc : xc h o ci = some a) (hc : vwCl[ci]? = some q) (hq : q.1 = y.cls) (hM : xC l y b n r rm D G h (.ref a :: As) v h') (hf : xM y b n r k) (hl : Cond.methodLink own index y ∈ xt) (hin : Cond.instanceMethod y ∈ xt) (hse : Cond.selects y.cls y y ∈ xt)
    (hn : As.length = k) (hsize : ls.size = nL) (hstack : st0 = As.reverse ++ va_rf o :: rest) (hW : (rest.map fun v => v.category).sum ≤ 8) (hdg : decode cc pc = .ok (.invokevirtual index, 3)) (hroom : rm.frames + 1 ≤ R.frames ∧ 8 + (n + 11) + rm.locals ≤ R.locals) (hcs : cells + rm.cells ≤ R.cells ∧ slots + rm.slots ≤ R.slots) {st1 : List Value} (hst1 : v.toList ++ rest = st1)
    (kk : ∀ (H1 : Heap) (locs1 : List Loc), xR D G h' s H1 → va_S (xA G) H0 H1 locs1 → W p l e R s m args below meth c H1 locs1 (cells + rm.cells) (slots + rm.slots) Q (F0 m (pc + 3) ls st1)) : W p l e R s m args below meth c H locs cells slots Q (F0 m pc ls st0) := by
  subst hst1
  obtain ⟨rfl, fs, ha⟩ := xc_spec hxc
  exact x_ret (As := .ref a :: As) (va_runV (C := y.cls) (b := a) (rest := rest) (g := F0 m pc ls st0) ⟨hexec, hb, hml, hown, hts⟩ hM ⟨xcallB hts hf hl hroom, hts _ hin, hts _ hse⟩ ⟨xPc_blind, by rw [← hq]; exact hR.recv hc ha, fun U hU hW => ⟨rfl, by show xR D G h U U.heap; rw [hU]; exact hR.moved hW.alike⟩⟩ rfl hn hsize hstack (by show 2 * 0 + _ ≤ 8; omega) hdg hcs) hS kk
theorem x_callI (hexec : p.tables.exec = Jvm.exec) (hb : c.code = cc) (hml : c.maxLocals = nL) (hown : s.vm.findClass own = some m.cls) (hts : ∀ w ∈ xt, w.before args s = true) (hR : xR D G h s H) (hS : va_S (xA G) H0 H locs) {a : Nat} (ho : o = some a) (hM : xC l y b n none rm D G h (.ref a :: As) v h') (hf : xM y b n none k) (hl : Cond.methodLink own index y ∈ xt) (hin : Cond.instanceMethod y ∈ xt) (hy1 : y.name = "<init>")
    (hn : As.length = k) (hsize : ls.size = nL) (hstack : st0 = As.reverse ++ va_rf o :: rest) (hW : (rest.map fun v => v.category).sum ≤ 8) (hdg : decode cc pc = .ok (.invokespecial index, 3)) (hroom : rm.frames + 1 ≤ R.frames ∧ 8 + (n + 11) + rm.locals ≤ R.locals) (hcs : cells + rm.cells ≤ R.cells ∧ slots + rm.slots ≤ R.slots) {st1 : List Value} (hst1 : v.toList ++ rest = st1)
    (kk : ∀ (H1 : Heap) (locs1 : List Loc), xR D G h' s H1 → va_S (xA G) H0 H1 locs1 → W p l e R s m args below meth c H1 locs1 (cells + rm.cells) (slots + rm.slots) Q (F0 m (pc + 3) ls st1)) : W p l e R s m args below meth c H locs cells slots Q (F0 m pc ls st0) := by
  subst hst1
  subst ho
  exact x_ret (As := .ref a :: As) (va_runI (b := a) (rest := rest) (g := F0 m pc ls st0) ⟨hexec, hb, hml, hown, hts⟩ hM ⟨xcallB hts hf hl hroom, hy1, hts _ hin⟩ ⟨xPc_blind, fun U hU hW => ⟨rfl, by show xR D G h U U.heap; rw [hU]; exact hR.moved hW.alike⟩⟩ rfl hn hsize hstack (by show 2 * 0 + _ ≤ 8; omega) hdg hcs) hS kk
theorem x_callF (hexec : p.tables.exec = Jvm.exec) (hb : c.code = cc) (hml : c.maxLocals = nL) (hown : s.vm.findClass own = some m.cls) (hts : ∀ w ∈ xt, w.before args s = true) (hR : xR D G h s H) (hS : va_S (xA G) H0 H locs) {a ci count : Nat} {q : vw_C} {x : MethodName} (hxc : xc h o ci = some a) (hc : vwCl[ci]? = some q) (hq : (q.1, x, y) ∈ xFs) (hM : xC l y b n r rm D G h (.ref a :: As) v h') (hf : xM y b n r k) (hl : Cond.methodLink own index x ∈ xt) (hin : Cond.instanceMethod y ∈ xt) (hse : Cond.selects q.1 x y ∈ xt) (hdn : (parseMethodDescriptor x.desc).map (fun d => d.parameters.length) = some k)
    (hn : As.length = k) (hsize : ls.size = nL) (hstack : st0 = As.reverse ++ va_rf o :: rest) (hW : (rest.map fun v => v.category).sum ≤ 8) (hdg : decode cc pc = .ok (.invokeinterface index count, 5)) (hroom : rm.frames + 1 ≤ R.frames ∧ 8 + (n + 11) + rm.locals ≤ R.locals) (hcs : cells + rm.cells ≤ R.cells ∧ slots + rm.slots ≤ R.slots) {st1 : List Value} (hst1 : v.toList ++ rest = st1)
    (kk : ∀ (H1 : Heap) (locs1 : List Loc), xR D G h' s H1 → va_S (xA G) H0 H1 locs1 → W p l e R s m args below meth c H1 locs1 (cells + rm.cells) (slots + rm.slots) Q (F0 m (pc + 5) ls st1)) : W p l e R s m args below meth c H locs cells slots Q (F0 m pc ls st0) := by
  subst hst1
  obtain ⟨rfl, fs, ha⟩ := xc_spec hxc
  have hT : GoodIn xt (va_wsF own index q.1 x y (xW y b n r)) := by
    refine fun w hw => ?_
    have key : w ∈ xt := by
      simp only [va_wsF, List.mem_append, List.mem_cons, List.not_mem_nil, or_false] at hw
      rcases hw with (rfl | rfl | rfl | rfl) | hw
      · exact hl
      · exact hse
      · exact hin
      · exact hf.2.1
      · exact (List.mem_cons.mp hw).elim (fun e => e ▸ hf.1) (fun e => e)
    exact ⟨key, good_of_word (List.mem_filter.mp key).2⟩
  exact x_ret5 (As := .ref a :: As) (va_runF (C := q.1) (b := a) (rest := rest) (g := F0 m pc ls st0) (hR.2.2.1.1 ci q hc).2 ⟨hexec, hb, hml, hown, hts⟩ hM (va_cwF k hts hT rfl rfl rfl (hR.2.2.2.1.2 _ hq) ⟨(xFs_ok _ hq).1, (xFs_ok _ hq).2, hdn⟩ hroom) ⟨xPc_blind, hR.recv hc ha, fun U hU hW => ⟨rfl, by show xR D G h U U.heap; rw [hU]; exact hR.moved hW.alike⟩⟩ rfl hn hsize hstack (by show 2 * 0 + _ ≤ 8; omega) hdg hcs) hS kk
end XCALLS
end
section
section XMISC
variable {p : Program} {l : Launch} {e : Env} {R : Room} {s : State} {m : MethodId} {args : Array Value} {below : List Frame} {meth : Method} {c : Code} {H : Heap} {locs : List Loc} {cells slots : Nat} {Q : State → Prop}
variable {cc : ByteArray} {pc : Nat} {ls : Array Slot} {rest : List Value} {D : va_G} {G : Nat → Nat} {h h' : xH} {H0 : Heap} {o : Option Nat}
theorem x_aload_n (hexec : p.tables.exec = Jvm.exec) (hb : c.code = cc) {k : Fin 4} {i : Nat} (hdg : decode cc pc = .ok (.aload_n k, 1)) (hi : (k : Nat) = i) (hl : ls[i]? = some (.val (va_rf o)))
    (kk : W p l e R s m args below meth c H locs cells slots Q (F0 m (pc + 1) ls (va_rf o :: rest))) : W p l e R s m args below meth c H locs cells slots Q (F0 m pc ls rest) := by
  cases o with
  | none => exact lv_aload_nN hexec hb hdg hi hl kk
  | some a => exact lv_aload_n hexec hb hdg hi hl kk
theorem x_aload (hexec : p.tables.exec = Jvm.exec) (hb : c.code = cc) {i : Nat} (hdg : decode cc pc = .ok (.aload i, 2)) (hl : ls[i]? = some (.val (va_rf o)))
    (kk : W p l e R s m args below meth c H locs cells slots Q (F0 m (pc + 2) ls (va_rf o :: rest))) : W p l e R s m args below meth c H locs cells slots Q (F0 m pc ls rest) := by
  cases o with
  | none => exact lv_aloadN hexec hb hdg hl kk
  | some a => exact lv_aload hexec hb hdg hl kk
theorem x_astore_n (hexec : p.tables.exec = Jvm.exec) (hb : c.code = cc) {k : Fin 4} {i nL : Nat} {lv lv' : List (Nat × Value)} (hdg : decode cc pc = .ok (.astore_n k, 1)) (hi : (k : Nat) = i) (hl : lv_has ls nL lv) (hn : i < nL) (hl' : (i, va_rf o) :: lv.filter (fun q => !(q.1 == i) && !(q.1 + 1 == i && q.2.category == 2)) = lv')
    (kk : ∀ ls : Array Slot, lv_has ls nL lv' → W p l e R s m args below meth c H locs cells slots Q (F0 m (pc + 1) ls rest)) : W p l e R s m args below meth c H locs cells slots Q (F0 m pc ls (va_rf o :: rest)) := by
  cases o with
  | none => exact lv_astore_nN hexec hb hdg hi hl hn hl' kk
  | some a => exact lv_astore_n hexec hb hdg hi hl hn hl' kk
theorem x_astore (hexec : p.tables.exec = Jvm.exec) (hb : c.code = cc) {i nL : Nat} {lv lv' : List (Nat × Value)} (hdg : decode cc pc = .ok (.astore i, 2)) (hl : lv_has ls nL lv) (hn : i < nL) (hl' : (i, va_rf o) :: lv.filter (fun q => !(q.1 == i) && !(q.1 + 1 == i && q.2.category == 2)) = lv')
    (kk : ∀ ls : Array Slot, lv_has ls nL lv' → W p l e R s m args below meth c H locs cells slots Q (F0 m (pc + 2) ls rest)) : W p l e R s m args below meth c H locs cells slots Q (F0 m pc ls (va_rf o :: rest)) := by
  cases o with
  | none => exact lv_astoreN hexec hb hdg hl hn hl' kk
  | some a => exact lv_astore hexec hb hdg hl hn hl' kk
theorem x_ifnull (hexec : p.tables.exec = Jvm.exec) (hb : c.code = cc) {off : Int} {tgt : Nat} (hdg : decode cc pc = .ok (.ifnull off, 3)) (ht : (pc : Int) + off = (tgt : Int)) (kt : o = none → W p l e R s m args below meth c H locs cells slots Q (F0 m tgt ls rest)) (kf : ¬ o = none → W p l e R s m args below meth c H locs cells slots Q (F0 m (pc + 3) ls rest)) : W p l e R s m args below meth c H locs cells slots Q (F0 m pc ls (va_rf o :: rest)) := by
  cases o with
  | none => exact lv_ifnullN hexec hb hdg ht (kt rfl)
  | some a => exact lv_ifnull hexec hb hdg (kf (fun z => by cases z))
theorem x_ifnonnull (hexec : p.tables.exec = Jvm.exec) (hb : c.code = cc) {off : Int} {tgt : Nat} (hdg : decode cc pc = .ok (.ifnonnull off, 3)) (ht : (pc : Int) + off = (tgt : Int)) (kt : ¬ o = none → W p l e R s m args below meth c H locs cells slots Q (F0 m tgt ls rest)) (kf : o = none → W p l e R s m args below meth c H locs cells slots Q (F0 m (pc + 3) ls rest)) : W p l e R s m args below meth c H locs cells slots Q (F0 m pc ls (va_rf o :: rest)) := by
  cases o with
  | none => exact lv_ifnonnullN hexec hb hdg (kf rfl)
  | some a => exact lv_ifnonnull hexec hb hdg ht (kt (fun z => by cases z))
/-- a cast to the object's own class; null passes -/
theorem x_cast (hexec : p.tables.exec = Jvm.exec) (hb : c.code = cc) {own : String} {index ci : Nat} {q : vw_C} (hown : s.vm.findClass own = some m.cls) {Ts : List Cond} (hts : ∀ w ∈ Ts, w.before args s = true) (hR : xR D G h s H) (hc : vwCl[ci]? = some q) (hlink : Cond.classLink own index q.1 ∈ Ts) (hv : o = none ∨ ∃ a, xc h o ci = some a) (hdg : decode cc pc = .ok (.checkcast index, 3))
    (kk : W p l e R s m args below meth c H locs cells slots Q (F0 m (pc + 3) ls (va_rf o :: rest))) : W p l e R s m args below meth c H locs cells slots Q (F0 m pc ls (va_rf o :: rest)) := by
  rcases hv with rfl | ⟨a, ha⟩
  · exact lv_castN hexec hb hdg kk
  · obtain ⟨rfl, fs, hf⟩ := xc_spec ha
    exact va_castS hexec hb hown (hts _ hlink) (hR.2.2.1.1 ci q hc).2 (hR.recv hc hf) hdg kk
/-- the empty list's array -/
theorem x_gets (hexec : p.tables.exec = Jvm.exec) (hb : c.code = cc) {own : String} {index : Nat} (hown : s.vm.findClass own = some m.cls) {Ts : List Cond} (hts : ∀ w ∈ Ts, w.before args s = true) (hR : xR D G h s H) (hlink : Cond.fieldLink own index "java/util/ArrayList" "DEFAULTCAPACITY_EMPTY_ELEMENTDATA" "[Ljava/lang/Object;" ∈ Ts) (hdg : decode cc pc = .ok (.getstatic index, 3))
    (kk : W p l e R s m args below meth c H locs cells slots Q (F0 m (pc + 3) ls (va_rf (some (G 1)) :: rest))) : W p l e R s m args below meth c H locs cells slots Q (F0 m pc ls rest) := by
  obtain ⟨cf, kf, fi, f, a, cell, h1, h2, h3, h4, h5, h6, h7, h8⟩ := hR.2.2.2.1.1
  exact W.gets hexec hb hown (hts _ hlink) h1 h2 h3 h4 h5 (fun e => by rw [e] at h6; cases h6) h7 rfl hdg kk
theorem x_new (hexec : p.tables.exec = Jvm.exec) (hb : c.code = cc) {own C : String} {T : u_T} {N ci index : Nat} {Ts : List Cond} (hts : ∀ w ∈ Ts, w.before args s = true) (hin : ∀ w ∈ u_ws C T N, w ∈ Ts) {ty : Nat → FieldType} (hty : ∀ k, k < N → parseFieldDescriptor (T k).2.2.1 = some (ty k)) (hown : s.vm.findClass own = some m.cls) (hcl : Cond.classLink own index C ∈ Ts) (hinst : Cond.instantiable C N ∈ Ts) (hini : Cond.initialized C ∈ Ts)
    (hR : xR D G h s H) (hS : va_S (xA G) H0 H locs) (hc : vwCl[ci]? = some (C, T, N)) {fs : List Value} (hfs : (List.range N).map (fun j => defaultValue (ty j)) = fs) (hcells : cells + 1 ≤ R.cells) (hslots : slots + N ≤ R.slots) (hdg : decode cc pc = .ok (.new index, 3))
    (kk : ∀ (H1 : Heap), xR D G (xn h (.inr (ci, fs))) s H1 → va_S (xA G) H0 H1 locs → W p l e R s m args below meth c H1 locs (cells + 1) (slots + N) Q (F0 m (pc + 3) ls (va_rf (some h.1) :: rest))) : W p l e R s m args below meth c H locs cells slots Q (F0 m pc ls rest) := by
  have hKn := hR.2.2.1.1 ci _ hc
  refine W.newcK hexec hb hown (hts _ hcl) (hts _ hinst) (hts _ hini) rfl hdg hcells hslots hKn.2.1 hR.1 fun H1 kC hkC e1 z1 o1 => ?_
  refine kk H1 (hR.new ⟨_, hc, (u_born ty hts hin hKn hkC e1 hty).to (fun j hj => ?_)⟩ (by rw [z1, hR.1]) (fun q hq => o1 q (by rw [← hR.1]; exact hq))) ⟨by rw [z1, ← hR.1]; exact Nat.le_succ_of_le hS.1, fun x h1 h2 => (o1 x (by rw [← hR.1]; exact Nat.lt_of_lt_of_le h1 hS.1)).trans (hS.2.1 x h1 h2), hS.2.2⟩
  subst hfs
  simp [vp_V, hj]
theorem xarr {U : State} {t0 : Nat} {cA cB : ClassId} {ty : FieldType} (hR : xR D G h U H) (h1 : (xTy G)[t0]? = some (cA, ty)) (hty : ty = .int ∨ ty = .boolean ∨ ty = .long) (h2 : U.vm.findClass ("[" ++ ty.toString) = some cB) : cB = cA := by
  have h3 := (hR.2.2.1.2 t0 _ h1).2
  rcases hty with rfl | rfl | rfl <;> exact Option.some.inj (h2.symm.trans h3)
/-- an array of zeros: of int, of boolean -/
theorem x_newI (hexec : p.tables.exec = Jvm.exec) (hb : c.code = cc) {Ts : List Cond} (hts : ∀ w ∈ Ts, w.before args s = true) (harr : Cond.arrayClass .int ∈ Ts) (hR : xR D G h s H) (hS : va_S (xA G) H0 H locs) {n : Int32} {N : Nat} (hn : ¬ n < 0) (hN : n.toNatClampNeg = N) (hbytes : N ≤ 100000) (hcells : cells + 1 ≤ R.cells) (hslots : slots + N ≤ R.slots) (hdg : decode cc pc = .ok (.newarray .int, 2))
    (kk : ∀ (H1 : Heap), xR D G (xn h (.inl (G 2, N, .inl (fun _ => 0)))) s H1 → va_S (xA G) H0 H1 locs → W p l e R s m args below meth c H1 locs (cells + 1) (slots + N) Q (F0 m (pc + 2) ls (va_rf (some h.1) :: rest))) : W p l e R s m args below meth c H locs cells slots Q (F0 m pc ls (.int n :: rest)) := by
  refine va_newaK hexec hb (atype := .int) (hts _ harr) rfl hdg rfl hn hN (by show N * 4 ≤ _; omega) hcells hslots hR.1 fun H1 cA e1 z1 o1 hAr hNm => ?_
  have hcA := xarr hR (t0 := 0) rfl (Or.inl rfl) hNm
  subst hcA
  exact kk H1 (hR.new (by exact e1) (by rw [z1, hR.1]) (fun q hq => o1 q (by rw [← hR.1]; exact hq))) ⟨by rw [z1, ← hR.1]; exact Nat.le_succ_of_le hS.1, fun x h1 h2 => (o1 x (by rw [← hR.1]; exact Nat.lt_of_lt_of_le h1 hS.1)).trans (hS.2.1 x h1 h2), hS.2.2⟩
theorem x_newZ (hexec : p.tables.exec = Jvm.exec) (hb : c.code = cc) {Ts : List Cond} (hts : ∀ w ∈ Ts, w.before args s = true) (harr : Cond.arrayClass .boolean ∈ Ts) (hR : xR D G h s H) (hS : va_S (xA G) H0 H locs) {n : Int32} {N : Nat} (hn : ¬ n < 0) (hN : n.toNatClampNeg = N) (hbytes : N ≤ 100000) (hcells : cells + 1 ≤ R.cells) (hslots : slots + N ≤ R.slots) (hdg : decode cc pc = .ok (.newarray .boolean, 2))
    (kk : ∀ (H1 : Heap), xR D G (xn h (.inl (G 3, N, .inl (fun _ => 0)))) s H1 → va_S (xA G) H0 H1 locs → W p l e R s m args below meth c H1 locs (cells + 1) (slots + N) Q (F0 m (pc + 2) ls (va_rf (some h.1) :: rest))) : W p l e R s m args below meth c H locs cells slots Q (F0 m pc ls (.int n :: rest)) := by
  refine va_newaK hexec hb (atype := .boolean) (hts _ harr) rfl hdg rfl hn hN (by show N * 1 ≤ _; omega) hcells hslots hR.1 fun H1 cA e1 z1 o1 hAr hNm => ?_
  have hcA := xarr hR (t0 := 1) rfl (Or.inr (Or.inl rfl)) hNm
  subst hcA
  exact kk H1 (hR.new (by exact e1) (by rw [z1, hR.1]) (fun q hq => o1 q (by rw [← hR.1]; exact hq))) ⟨by rw [z1, ← hR.1]; exact Nat.le_succ_of_le hS.1, fun x h1 h2 => (o1 x (by rw [← hR.1]; exact Nat.lt_of_lt_of_le h1 hS.1)).trans (hS.2.1 x h1 h2), hS.2.2⟩
theorem x_newJ (hexec : p.tables.exec = Jvm.exec) (hb : c.code = cc) {Ts : List Cond} (hts : ∀ w ∈ Ts, w.before args s = true) (harr : Cond.arrayClass .long ∈ Ts) (hR : xR D G h s H) (hS : va_S (xA G) H0 H locs) {n : Int32} {N : Nat} (hn : ¬ n < 0) (hN : n.toNatClampNeg = N) (hbytes : N ≤ 100000) (hcells : cells + 1 ≤ R.cells) (hslots : slots + N ≤ R.slots) (hdg : decode cc pc = .ok (.newarray .long, 2))
    (kk : ∀ (H1 : Heap), xR D G (xn h (.inl (G 4, N, .inr (.inl (fun _ => 0))))) s H1 → va_S (xA G) H0 H1 locs → W p l e R s m args below meth c H1 locs (cells + 1) (slots + N) Q (F0 m (pc + 2) ls (va_rf (some h.1) :: rest))) : W p l e R s m args below meth c H locs cells slots Q (F0 m pc ls (.int n :: rest)) := by
  refine va_newaK hexec hb (atype := .long) (hts _ harr) rfl hdg rfl hn hN (by show N * 8 ≤ _; omega) hcells hslots hR.1 fun H1 cA e1 z1 o1 hAr hNm => ?_
  have hcA := xarr hR (t0 := 2) rfl (Or.inr (Or.inr rfl)) hNm
  subst hcA
  exact kk H1 (hR.new (by exact e1) (by rw [z1, hR.1]) (fun q hq => o1 q (by rw [← hR.1]; exact hq))) ⟨by rw [z1, ← hR.1]; exact Nat.le_succ_of_le hS.1, fun x h1 h2 => (o1 x (by rw [← hR.1]; exact Nat.lt_of_lt_of_le h1 hS.1)).trans (hS.2.1 x h1 h2), hS.2.2⟩
theorem x_oinit (hexec : p.tables.exec = Jvm.exec) (hb : c.code = cc) {own : String} {index : Nat} (hown : s.vm.findClass own = some m.cls) (hml : c.maxLocals = ls.size) {Ts : List Cond} (hts : ∀ w ∈ Ts, w.before args s = true) (hl : Cond.methodLink own index Lib.objectInit ∈ Ts) (hi : Cond.instanceMethod Lib.objectInit ∈ Ts) (hcd : Cond.code Lib.objectInit ⟨#[0xb1]⟩ 1 none ∈ Ts) {a : Nat} (ho : o = some a) (hdg : decode cc pc = .ok (.invokespecial index, 3)) (hframes : 1 ≤ R.frames) (hW : (rest.map fun v => v.category).sum ≤ 8) (hlocals : 20 ≤ R.locals)
    (kk : W p l e R s m args below meth c H locs cells slots Q (F0 m (pc + 3) ls rest)) : W p l e R s m args below meth c H locs cells slots Q (F0 m pc ls (va_rf o :: rest)) := by
  subst ho
  exact W.objInit (g := F0 m pc ls (.ref a :: rest)) (a := a) (rest := rest) hexec hb hown (hts _ hl) (hts _ hi) (hts _ hcd) rfl hml.symm rfl hdg hframes (by show 2 * 0 + _ + 12 ≤ _; omega) kk
section XEND
variable {rm : Room}
theorem x_iret (hexec : p.tables.exec = Jvm.exec) (hb : c.code = cc) {v : Int32} {ty : FieldType} (hr : meth.sig.returnType = some ty) (hn : narrow ty (.int v) = .int v) (hlk : meth.locks = false) (hR : xR D G h s H) (hS : va_S (xA G) s.heap H locs) (hc : cells ≤ rm.cells) (hs : slots ≤ rm.slots) (hdg : decode cc pc = .ok (.ireturn, 1)) : W p l e R s m args below meth c H locs cells slots (MQ below (xQ D G (some (.int v)) h) args s rm.cells rm.slots (xA G)) (F0 m pc ls [.int v]) :=
  W.widen hc hs (W.zret hexec hb hr hn (fun t ht hW => ⟨rfl, by rw [ht]; exact hR.moved hW.alike, hS.F ht⟩) hS.2.2 hdg hlk)
theorem x_lret (hexec : p.tables.exec = Jvm.exec) (hb : c.code = cc) {v : Int64} (hr : meth.sig.returnType = some .long) (hlk : meth.locks = false) (hR : xR D G h s H) (hS : va_S (xA G) s.heap H locs) (hc : cells ≤ rm.cells) (hs : slots ≤ rm.slots) (hdg : decode cc pc = .ok (.lreturn, 1)) : W p l e R s m args below meth c H locs cells slots (MQ below (xQ D G (some (.long v)) h) args s rm.cells rm.slots (xA G)) (F0 m pc ls [.long v]) :=
  W.widen hc hs (W.lret hexec hb hr (fun t ht hW => ⟨rfl, by rw [ht]; exact hR.moved hW.alike, hS.F ht⟩) hS.2.2 hdg hlk)
theorem x_vret (hexec : p.tables.exec = Jvm.exec) (hb : c.code = cc) (hr : meth.sig.returnType = none) (hlk : meth.locks = false) (hR : xR D G h s H) (hS : va_S (xA G) s.heap H locs) (hc : cells ≤ rm.cells) (hs : slots ≤ rm.slots) (hdg : decode cc pc = .ok (.return_, 1)) : W p l e R s m args below meth c H locs cells slots (MQ below (xQ D G none h) args s rm.cells rm.slots (xA G)) (F0 m pc ls []) :=
  W.widen hc hs (W.vret hexec hb hr (fun t ht hW => ⟨rfl, by rw [ht]; exact hR.moved hW.alike, hS.F ht⟩) hS.2.2 hdg hlk)
theorem x_aret (hexec : p.tables.exec = Jvm.exec) (hb : c.code = cc) {rt : FieldType} (hr : meth.sig.returnType = some rt) (hrt : (∃ n, rt = .object n) ∨ ∃ t, rt = .array t) (hlk : meth.locks = false) (hR : xR D G h s H) (hS : va_S (xA G) s.heap H locs) (hc : cells ≤ rm.cells) (hs : slots ≤ rm.slots) (hdg : decode cc pc = .ok (.areturn, 1)) : W p l e R s m args below meth c H locs cells slots (MQ below (xQ D G (some (va_rf o)) h) args s rm.cells rm.slots (xA G)) (F0 m pc ls [va_rf o]) :=
  W.widen hc hs (W.aret hexec hb hr hrt (by cases o with | none => exact Or.inl rfl | some a => exact Or.inr ⟨a, rfl⟩) (fun t ht hW => ⟨rfl, by rw [ht]; exact hR.moved hW.alike, hS.F ht⟩) hS.2.2 hdg hlk)
end XEND
end XMISC
/-- A METHOD'S BODY: from its entry -/
theorem xC_of {l : Launch} {y : MethodName} {b : ByteArray} {n : Nat} {r : Option FieldType} {rm : Room} {D : va_G} {G : Nat → Nat} {h h' : xH} {as : List Value} {v : Option Value} (hy : plainName y.cls = true) (hn : (lg_sl as).length ≤ n)
    (body : ∀ (p : Program) (e : Env) (s : State) (m : MethodId) (args : Array Value) (below : List Frame) (meth : Method) (c : Code) (ls : Array Slot), p.tables.exec = Jvm.exec → c.code = b → meth.sig.returnType = r → meth.locks = false → c.maxLocals = n → s.vm.findClass y.cls = some m.cls → meth.name = y.name → (∀ w ∈ xt, w.before args s = true) → xR D G h s s.heap → va_S (xA G) s.heap s.heap [] → lv_has ls n (lv_args 0 as) →
      W p l e rm s m args below meth c s.heap [] 0 0 (MQ below (xQ D G v h') args s rm.cells rm.slots (xA G)) (F0 m 0 ls [])) : xC l y b n r rm D G h as v h' := by
  refine Met.ofW (cc := b) (maxL := n) (ret := r) hy rfl ?_
  intro p e s m args below meth c s₁ B hml hv
  obtain ⟨rfl, hR⟩ := hv
  have hl := lv_entry as (n := n) hn
  rw [lg_entry_eq]
  have hts := atoms_spec (ws := xW y b n r) B.pre
  exact body p e s m _ below meth c _ B.exec B.bytes B.returns B.notSynchronized hml (findClass_of_methodNamed B.named) (name_of_methodNamed B.named B.method).1 (fun w hw => hts w (List.mem_cons_of_mem _ hw)) hR va_S.rf hl
end
section
/-! small words of the functions that a program lays, and what their answers say -/
def xl {α β : Type} (a : α) (f : α → β) : β := f a
theorem xlet {α β : Type} {a v : α} {f : α → β} {r : β} (e : v = a) (h : xl a f = r) : f v = r := by subst e; exact h
theorem xbind {α β : Type} {x : Option α} {f : α → Option β} {r : β} (h : x.bind f = some r) : ∃ a, x = some a ∧ f a = some r := Option.bind_eq_some_iff.mp h
theorem xift {c : Prop} [Decidable c] {α : Type} {a b r : α} (hc : c) (h : (if c then a else b) = r) : a = r := by rw [if_pos hc] at h; exact h
theorem xiff {c : Prop} [Decidable c] {α : Type} {a b r : α} (hc : ¬ c) (h : (if c then a else b) = r) : b = r := by rw [if_neg hc] at h; exact h
def xg {α : Type} (c : Prop) [Decidable c] (x : Option α) : Option α := if c then x else none
theorem xguard {α : Type} {c : Prop} [Decidable c] {x : Option α} {r : α} (h : xg c x = some r) : c ∧ x = some r := by
  unfold xg at h
  split at h
  · rename_i hc
    exact ⟨hc, h⟩
  · cases h
def xk {α : Type} (h : xH) (o : Option Nat) (ci : Nat) (x : Option α) : Option α := if o = none ∨ (xc h o ci).isSome then x else none
theorem xkguard {α : Type} {h : xH} {o : Option Nat} {ci : Nat} {x : Option α} {r : α} (e : xk h o ci x = some r) : (o = none ∨ ∃ a, xc h o ci = some a) ∧ x = some r := by
  unfold xk at e
  split at e
  · rename_i hc
    exact ⟨hc.imp id Option.isSome_iff_exists.mp, e⟩
  · cases e
/-- the bound of every loop: far above what a run needs -/
def xN : Nat := 200000
def nO (h : xH) (ci : Nat) (fs : List Value) : Option (Nat × xH) := some (h.1, xn h (.inr (ci, fs)))
def nAI (G : Nat → Nat) (h : xH) (n : Nat) : Option (Nat × xH) := some (h.1, xn h (.inl (G 2, n, .inl (fun _ => 0))))
def nAZ (G : Nat → Nat) (h : xH) (n : Nat) : Option (Nat × xH) := some (h.1, xn h (.inl (G 3, n, .inl (fun _ => 0))))
def nAJ (G : Nat → Nat) (h : xH) (n : Nat) : Option (Nat × xH) := some (h.1, xn h (.inl (G 4, n, .inr (.inl (fun _ => 0)))))
theorem xrf_cat {o : Option Nat} : (va_rf o).category = 1 := by cases o <;> rfl
theorem xcI {x : Int32} : (Value.int x).category = 1 := rfl
theorem xcJ {x : Int64} : (Value.long x).category = 2 := rfl
theorem xcA {x : Nat} : (Value.ref x).category = 1 := rfl
theorem xnarZ {v : Int32} (h : v = 0 ∨ v = 1) : narrow .boolean (.int v) = .int v := by rcases h with rfl | rfl <;> rfl
theorem xfitZ {v : Int32} (h : v = 0 ∨ v = 1) : fits .boolean (.int v) = true := by rcases h with rfl | rfl <;> rfl
theorem xnarR {o : Option Nat} {C : String} : narrow (.object C) (va_rf o) = va_rf o := by cases o <;> rfl
theorem xfitR {o : Option Nat} {C : String} : fits (.object C) (va_rf o) = true := by cases o <;> rfl
theorem xnarRA {o : Option Nat} {t : FieldType} : narrow (.array t) (va_rf o) = va_rf o := by cases o <;> rfl
theorem xfitRA {o : Option Nat} {t : FieldType} : fits (.array t) (va_rf o) = true := by cases o <;> rfl
/-- one of two classes behind an interface -/
def xI {α : Type} (h : xH) (o : Option Nat) (c0 c1 : Nat) (f g : Nat → Option α) : Option α := match xc h o c0 with
  | some a => f a
  | none => (xc h o c1).bind g
theorem xI_or {α : Type} {h : xH} {o : Option Nat} {c0 c1 : Nat} {f g : Nat → Option α} {r : α} {P Q : Nat → Prop} (e : xI h o c0 c1 f g = some r) (hf : ∀ z, f z = some r → P z) (hg : ∀ z, g z = some r → Q z) : (∃ a, xc h o c0 = some a ∧ P a) ∨ (∃ a, xc h o c1 = some a ∧ Q a) := by
  unfold xI at e
  split at e
  · rename_i a ha
    exact Or.inl ⟨a, ha, hf a e⟩
  · obtain ⟨a, ha, e2⟩ := xbind e
    exact Or.inr ⟨a, ha, hg a e2⟩
section XAUX
variable {p : Program} {l : Launch} {e : Env} {R : Room} {s : State} {m : MethodId} {args : Array Value} {below : List Frame} {meth : Method} {c : Code} {H : Heap} {locs : List Loc} {cells slots : Nat} {Q : State → Prop}
variable {cc : ByteArray} {pc : Nat} {ls : Array Slot} {rest st0 : List Value} {D : va_G} {G : Nat → Nat} {h h' : xH} {H0 : Heap} {o : Option Nat}
theorem x_newO (hexec : p.tables.exec = Jvm.exec) (hb : c.code = cc) {own C : String} {T : u_T} {N ci index : Nat} {Ts : List Cond} (hts : ∀ w ∈ Ts, w.before args s = true) (hin : ∀ w ∈ u_ws C T N, w ∈ Ts) {ty : Nat → FieldType} (hty : ∀ k, k < N → parseFieldDescriptor (T k).2.2.1 = some (ty k)) (hown : s.vm.findClass own = some m.cls) (hcl : Cond.classLink own index C ∈ Ts) (hinst : Cond.instantiable C N ∈ Ts) (hini : Cond.initialized C ∈ Ts)
    (hR : xR D G h s H) (hS : va_S (xA G) H0 H locs) (hc : vwCl[ci]? = some (C, T, N)) {fs : List Value} (hfs : (List.range N).map (fun j => defaultValue (ty j)) = fs) (hcells : cells + 1 ≤ R.cells) (hslots : slots + N ≤ R.slots) {q : Nat} (hv : nO h ci fs = some (q, h')) (hdg : decode cc pc = .ok (.new index, 3))
    (kk : ∀ (H1 : Heap), xR D G h' s H1 → va_S (xA G) H0 H1 locs → W p l e R s m args below meth c H1 locs (cells + 1) (slots + N) Q (F0 m (pc + 3) ls (va_rf (some q) :: rest))) : W p l e R s m args below meth c H locs cells slots Q (F0 m pc ls rest) := by
  cases hv
  exact x_new hexec hb hts hin hty hown hcl hinst hini hR hS hc hfs hcells hslots hdg kk
theorem x_nAI (hexec : p.tables.exec = Jvm.exec) (hb : c.code = cc) {Ts : List Cond} (hts : ∀ w ∈ Ts, w.before args s = true) (harr : Cond.arrayClass .int ∈ Ts) (hR : xR D G h s H) (hS : va_S (xA G) H0 H locs) {n : Int32} {N : Nat} (hn : ¬ n < 0) (hN : n.toNatClampNeg = N) (hbytes : N ≤ 100000) (hcells : cells + 1 ≤ R.cells) (hslots : slots + N ≤ R.slots) {q : Nat} (hv : nAI G h N = some (q, h')) (hdg : decode cc pc = .ok (.newarray .int, 2))
    (kk : ∀ (H1 : Heap), xR D G h' s H1 → va_S (xA G) H0 H1 locs → W p l e R s m args below meth c H1 locs (cells + 1) (slots + N) Q (F0 m (pc + 2) ls (va_rf (some q) :: rest))) : W p l e R s m args below meth c H locs cells slots Q (F0 m pc ls (.int n :: rest)) := by
  cases hv
  exact x_newI hexec hb hts harr hR hS hn hN hbytes hcells hslots hdg kk
theorem x_nAZ (hexec : p.tables.exec = Jvm.exec) (hb : c.code = cc) {Ts : List Cond} (hts : ∀ w ∈ Ts, w.before args s = true) (harr : Cond.arrayClass .boolean ∈ Ts) (hR : xR D G h s H) (hS : va_S (xA G) H0 H locs) {n : Int32} {N : Nat} (hn : ¬ n < 0) (hN : n.toNatClampNeg = N) (hbytes : N ≤ 100000) (hcells : cells + 1 ≤ R.cells) (hslots : slots + N ≤ R.slots) {q : Nat} (hv : nAZ G h N = some (q, h')) (hdg : decode cc pc = .ok (.newarray .boolean, 2))
    (kk : ∀ (H1 : Heap), xR D G h' s H1 → va_S (xA G) H0 H1 locs → W p l e R s m args below meth c H1 locs (cells + 1) (slots + N) Q (F0 m (pc + 2) ls (va_rf (some q) :: rest))) : W p l e R s m args below meth c H locs cells slots Q (F0 m pc ls (.int n :: rest)) := by
  cases hv
  exact x_newZ hexec hb hts harr hR hS hn hN hbytes hcells hslots hdg kk
theorem x_nAJ (hexec : p.tables.exec = Jvm.exec) (hb : c.code = cc) {Ts : List Cond} (hts : ∀ w ∈ Ts, w.before args s = true) (harr : Cond.arrayClass .long ∈ Ts) (hR : xR D G h s H) (hS : va_S (xA G) H0 H locs) {n : Int32} {N : Nat} (hn : ¬ n < 0) (hN : n.toNatClampNeg = N) (hbytes : N ≤ 100000) (hcells : cells + 1 ≤ R.cells) (hslots : slots + N ≤ R.slots) {q : Nat} (hv : nAJ G h N = some (q, h')) (hdg : decode cc pc = .ok (.newarray .long, 2))
    (kk : ∀ (H1 : Heap), xR D G h' s H1 → va_S (xA G) H0 H1 locs → W p l e R s m args below meth c H1 locs (cells + 1) (slots + N) Q (F0 m (pc + 2) ls (va_rf (some q) :: rest))) : W p l e R s m args below meth c H locs cells slots Q (F0 m pc ls (.int n :: rest)) := by
  cases hv
  exact x_newJ hexec hb hts harr hR hS hn hN hbytes hcells hslots hdg kk
theorem x_callF2 {y0 y1 x : MethodName} {b0 b1 : ByteArray} {n0 n1 k nL index count ci0 ci1 : Nat} {r0 r1 : Option FieldType} {rm0 rm1 : Room} {v : Option Value} {As : List Value} {own : String} {q0 q1 : vw_C} (hexec : p.tables.exec = Jvm.exec) (hb : c.code = cc) (hml : c.maxLocals = nL) (hown : s.vm.findClass own = some m.cls) (hts : ∀ w ∈ xt, w.before args s = true) (hR : xR D G h s H) (hS : va_S (xA G) H0 H locs) (hc0 : vwCl[ci0]? = some q0) (hc1 : vwCl[ci1]? = some q1) (hq0 : (q0.1, x, y0) ∈ xFs) (hq1 : (q1.1, x, y1) ∈ xFs)
    (hd : (∃ a, xc h o ci0 = some a ∧ xC l y0 b0 n0 r0 rm0 D G h (.ref a :: As) v h) ∨ (∃ a, xc h o ci1 = some a ∧ xC l y1 b1 n1 r1 rm1 D G h (.ref a :: As) v h)) (hf0 : xM y0 b0 n0 r0 k) (hf1 : xM y1 b1 n1 r1 k) (hl : Cond.methodLink own index x ∈ xt) (hin0 : Cond.instanceMethod y0 ∈ xt) (hin1 : Cond.instanceMethod y1 ∈ xt) (hse0 : Cond.selects q0.1 x y0 ∈ xt) (hse1 : Cond.selects q1.1 x y1 ∈ xt) (hdn : (parseMethodDescriptor x.desc).map (fun d => d.parameters.length) = some k)
    (z0 : rm0.cells = 0) (z0' : rm0.slots = 0) (z1 : rm1.cells = 0) (z1' : rm1.slots = 0) (hn : As.length = k) (hsize : ls.size = nL) (hstack : st0 = As.reverse ++ va_rf o :: rest) (hW : (rest.map fun v => v.category).sum ≤ 8) (hdg : decode cc pc = .ok (.invokeinterface index count, 5)) (hroom0 : rm0.frames + 1 ≤ R.frames ∧ 8 + (n0 + 11) + rm0.locals ≤ R.locals) (hroom1 : rm1.frames + 1 ≤ R.frames ∧ 8 + (n1 + 11) + rm1.locals ≤ R.locals) (hcs : cells ≤ R.cells ∧ slots ≤ R.slots) {st1 : List Value} (hst1 : v.toList ++ rest = st1)
    (kk : ∀ (H1 : Heap) (locs1 : List Loc), xR D G h s H1 → va_S (xA G) H0 H1 locs1 → W p l e R s m args below meth c H1 locs1 cells slots Q (F0 m (pc + 5) ls st1)) : W p l e R s m args below meth c H locs cells slots Q (F0 m pc ls st0) := by
  rcases hd with ⟨a, ha, hM⟩ | ⟨a, ha, hM⟩
  · exact x_callF hexec hb hml hown hts hR hS ha hc0 hq0 hM hf0 hl hin0 hse0 hdn hn hsize hstack hW hdg hroom0 (by rw [z0, z0']; exact hcs) hst1 (by rw [z0, z0']; exact kk)
  · exact x_callF hexec hb hml hown hts hR hS ha hc1 hq1 hM hf1 hl hin1 hse1 hdn hn hsize hstack hW hdg hroom1 (by rw [z1, z1']; exact hcs) hst1 (by rw [z1, z1']; exact kk)
def xmax (x y : Int32) : Int32 := if x < y then y else x
def xmin (x y : Int32) : Int32 := if y < x then y else x
def xminJ (x y : Int64) : Int64 := if y < x then y else x
theorem x_max (hexec : p.tables.exec = Jvm.exec) (hb : c.code = cc) (hml : c.maxLocals = ls.size) {own : String} {index : Nat} (hown : s.vm.findClass own = some m.cls) {Ts : List Cond} (hts : ∀ w ∈ Ts, w.before args s = true) (hl : Cond.methodLink own index Lib.Math.max.name ∈ Ts) (hst : Cond.static Lib.Math.max.name ∈ Ts) (hini : Cond.initialized "java/lang/Math" ∈ Ts) (hcode : Cond.code Lib.Math.max.name Lib.Math.max.code 2 (some .int) ∈ Ts)
    (hframes : 1 ≤ R.frames) (hW : (rest.map fun v => v.category).sum ≤ 8) (hlocals : 23 ≤ R.locals) (hcs : cells ≤ R.cells ∧ slots ≤ R.slots) {x y : Int32} (hdg : decode cc pc = .ok (.invokestatic index, 3))
    (kk : W p l e R s m args below meth c H locs cells slots Q (F0 m (pc + 3) ls (.int (xmax x y) :: rest))) : W p l e R s m args below meth c H locs cells slots Q (F0 m pc ls (.int y :: .int x :: rest)) := va_mmax hexec hb hml hown (hts _ hl) (hts _ hst) (hts _ hini) (hts _ hcode) hframes (by omega) hcs.1 hcs.2 hdg kk
theorem x_min (hexec : p.tables.exec = Jvm.exec) (hb : c.code = cc) (hml : c.maxLocals = ls.size) {own : String} {index : Nat} (hown : s.vm.findClass own = some m.cls) {Ts : List Cond} (hts : ∀ w ∈ Ts, w.before args s = true) (hl : Cond.methodLink own index Lib.Math.min.name ∈ Ts) (hst : Cond.static Lib.Math.min.name ∈ Ts) (hini : Cond.initialized "java/lang/Math" ∈ Ts) (hcode : Cond.code Lib.Math.min.name Lib.Math.min.code 2 (some .int) ∈ Ts)
    (hframes : 1 ≤ R.frames) (hW : (rest.map fun v => v.category).sum ≤ 8) (hlocals : 23 ≤ R.locals) (hcs : cells ≤ R.cells ∧ slots ≤ R.slots) {x y : Int32} (hdg : decode cc pc = .ok (.invokestatic index, 3))
    (kk : W p l e R s m args below meth c H locs cells slots Q (F0 m (pc + 3) ls (.int (xmin x y) :: rest))) : W p l e R s m args below meth c H locs cells slots Q (F0 m pc ls (.int y :: .int x :: rest)) := va_mmin hexec hb hml hown (hts _ hl) (hts _ hst) (hts _ hini) (hts _ hcode) hframes (by omega) hcs.1 hcs.2 hdg kk
theorem x_minJ (hexec : p.tables.exec = Jvm.exec) (hb : c.code = cc) (hml : c.maxLocals = ls.size) {own : String} {index : Nat} (hown : s.vm.findClass own = some m.cls) {Ts : List Cond} (hts : ∀ w ∈ Ts, w.before args s = true) (hl : Cond.methodLink own index Lib.MathLoose.min_long.x ∈ Ts) (hst : Cond.static Lib.MathLoose.min_long.x ∈ Ts) (hini : Cond.initialized "java/lang/Math" ∈ Ts) (hcode : Cond.code Lib.MathLoose.min_long.x Lib.MathLoose.min_long.code 4 (some .long) ∈ Ts)
    (hframes : 1 ≤ R.frames) (hW : (rest.map fun v => v.category).sum ≤ 8) (hlocals : 23 ≤ R.locals) (hcs : cells ≤ R.cells ∧ slots ≤ R.slots) {x y : Int64} (hdg : decode cc pc = .ok (.invokestatic index, 3))
    (kk : W p l e R s m args below meth c H locs cells slots Q (F0 m (pc + 3) ls (.long (xminJ x y) :: rest))) : W p l e R s m args below meth c H locs cells slots Q (F0 m pc ls (.long y :: .long x :: rest)) := va_mmin_long hexec hb hml hown (hts _ hl) (hts _ hst) (hts _ hini) (hts _ hcode) hframes (by omega) hcs.1 hcs.2 hdg kk
end XAUX
end
section
theorem mm_0 : Cond.selects "java/util/ArrayList" ⟨"java/util/ArrayList", "add", "(Ljava/lang/Object;[Ljava/lang/Object;I)V"⟩ ⟨"java/util/ArrayList", "add", "(Ljava/lang/Object;[Ljava/lang/Object;I)V"⟩ ∈ xt := xt_of (List.mem_of_getElem? (i := 0) (by decide +kernel)) (by decide +kernel)
theorem mm_1 : Cond.selects "java/util/ArrayList" ⟨"java/util/ArrayList", "grow", "()[Ljava/lang/Object;"⟩ ⟨"java/util/ArrayList", "grow", "()[Ljava/lang/Object;"⟩ ∈ xt := xt_of (List.mem_of_getElem? (i := 1) (by decide +kernel)) (by decide +kernel)
theorem mm_2 : Cond.selects "java/util/ArrayList" ⟨"java/util/ArrayList", "grow", "(I)[Ljava/lang/Object;"⟩ ⟨"java/util/ArrayList", "grow", "(I)[Ljava/lang/Object;"⟩ ∈ xt := xt_of (List.mem_of_getElem? (i := 2) (by decide +kernel)) (by decide +kernel)
theorem mm_3 : Cond.selects "ShareKeeper" ⟨"ShareKeeper", "serviceAt", "(I)LShareKeeper$Service;"⟩ ⟨"ShareKeeper", "serviceAt", "(I)LShareKeeper$Service;"⟩ ∈ xt := xt_of (List.mem_of_getElem? (i := 3) (by decide +kernel)) (by decide +kernel)
theorem mm_4 : Cond.selects "ShareKeeper" ⟨"ShareKeeper", "sourceAt", "(I)LShareKeeper$Source;"⟩ ⟨"ShareKeeper", "sourceAt", "(I)LShareKeeper$Source;"⟩ ∈ xt := xt_of (List.mem_of_getElem? (i := 4) (by decide +kernel)) (by decide +kernel)
theorem mm_5 : Cond.selects "ShareKeeper$Source" ⟨"ShareKeeper$Source", "isOpen", "(II)Z"⟩ ⟨"ShareKeeper$Source", "isOpen", "(II)Z"⟩ ∈ xt := xt_of (List.mem_of_getElem? (i := 5) (by decide +kernel)) (by decide +kernel)
theorem mm_6 : Cond.selects "ShareKeeper" ⟨"ShareKeeper", "promiseAt", "(I)LShareKeeper$Promise;"⟩ ⟨"ShareKeeper", "promiseAt", "(I)LShareKeeper$Promise;"⟩ ∈ xt := xt_of (List.mem_of_getElem? (i := 6) (by decide +kernel)) (by decide +kernel)
theorem mm_7 : Cond.selects "ShareKeeper$Promise" ⟨"ShareKeeper$Promise", "firstOfSpan", "(I)I"⟩ ⟨"ShareKeeper$Promise", "firstOfSpan", "(I)I"⟩ ∈ xt := xt_of (List.mem_of_getElem? (i := 7) (by decide +kernel)) (by decide +kernel)
theorem mm_8 : Cond.selects "ShareKeeper$Promise" ⟨"ShareKeeper$Promise", "lastOfSpan", "(I)I"⟩ ⟨"ShareKeeper$Promise", "lastOfSpan", "(I)I"⟩ ∈ xt := xt_of (List.mem_of_getElem? (i := 8) (by decide +kernel)) (by decide +kernel)
theorem mm_9 : Cond.selects "ShareKeeper$Promise" ⟨"ShareKeeper$Promise", "asksAt", "(I)I"⟩ ⟨"ShareKeeper$Promise", "asksAt", "(I)I"⟩ ∈ xt := xt_of (List.mem_of_getElem? (i := 9) (by decide +kernel)) (by decide +kernel)
theorem mm_10 : Cond.selects "ShareKeeper$Promise" ⟨"ShareKeeper$Promise", "isIn", "(I)Z"⟩ ⟨"ShareKeeper$Promise", "isIn", "(I)Z"⟩ ∈ xt := xt_of (List.mem_of_getElem? (i := 10) (by decide +kernel)) (by decide +kernel)
theorem mm_11 : Cond.selects "ShareKeeper$Promise" ⟨"ShareKeeper$Promise", "badAt", "(I)I"⟩ ⟨"ShareKeeper$Promise", "badAt", "(I)I"⟩ ∈ xt := xt_of (List.mem_of_getElem? (i := 11) (by decide +kernel)) (by decide +kernel)
theorem mm_12 : Cond.selects "ShareKeeper$Promise" ⟨"ShareKeeper$Promise", "leftOf", "(II)I"⟩ ⟨"ShareKeeper$Promise", "leftOf", "(II)I"⟩ ∈ xt := xt_of (List.mem_of_getElem? (i := 12) (by decide +kernel)) (by decide +kernel)
theorem mm_13 : Cond.selects "ShareKeeper$Parts" ⟨"ShareKeeper$Parts", "mostMeeting", "(IIZ)I"⟩ ⟨"ShareKeeper$Parts", "mostMeeting", "(IIZ)I"⟩ ∈ xt := xt_of (List.mem_of_getElem? (i := 13) (by decide +kernel)) (by decide +kernel)
theorem mm_14 : Cond.selects "ShareKeeper$Parts" ⟨"ShareKeeper$Parts", "canMeet", "(IIIZ)Z"⟩ ⟨"ShareKeeper$Parts", "canMeet", "(IIIZ)Z"⟩ ∈ xt := xt_of (List.mem_of_getElem? (i := 14) (by decide +kernel)) (by decide +kernel)
theorem mm_15 : Cond.selects "ShareKeeper" ⟨"ShareKeeper", "alarmAt", "(I)LShareKeeper$Alarm;"⟩ ⟨"ShareKeeper", "alarmAt", "(I)LShareKeeper$Alarm;"⟩ ∈ xt := xt_of (List.mem_of_getElem? (i := 15) (by decide +kernel)) (by decide +kernel)
theorem mm_16 : Cond.selects "ShareKeeper$Alarm" ⟨"ShareKeeper$Alarm", "isOver", "(LShareKeeper$History;II)Z"⟩ ⟨"ShareKeeper$Alarm", "isOver", "(LShareKeeper$History;II)Z"⟩ ∈ xt := xt_of (List.mem_of_getElem? (i := 16) (by decide +kernel)) (by decide +kernel)
theorem mm_17 : Cond.selects "ShareKeeper$AlarmSearch" ⟨"ShareKeeper$AlarmSearch", "noteHistory", "(LShareKeeper$SteadyHistory;II)V"⟩ ⟨"ShareKeeper$AlarmSearch", "noteHistory", "(LShareKeeper$SteadyHistory;II)V"⟩ ∈ xt := xt_of (List.mem_of_getElem? (i := 17) (by decide +kernel)) (by decide +kernel)
theorem mm_18 : Cond.selects "ShareKeeper$AlarmSearch" ⟨"ShareKeeper$AlarmSearch", "measure", "(LShareKeeper$History;II)Z"⟩ ⟨"ShareKeeper$AlarmSearch", "measure", "(LShareKeeper$History;II)Z"⟩ ∈ xt := xt_of (List.mem_of_getElem? (i := 18) (by decide +kernel)) (by decide +kernel)
theorem mm_19 : Cond.selects "ShareKeeper$AlarmSearch" ⟨"ShareKeeper$AlarmSearch", "noteReached", "()V"⟩ ⟨"ShareKeeper$AlarmSearch", "noteReached", "()V"⟩ ∈ xt := xt_of (List.mem_of_getElem? (i := 19) (by decide +kernel)) (by decide +kernel)
theorem mm_20 : Cond.selects "ShareKeeper$AlarmSearch" ⟨"ShareKeeper$AlarmSearch", "noteRings", "()V"⟩ ⟨"ShareKeeper$AlarmSearch", "noteRings", "()V"⟩ ∈ xt := xt_of (List.mem_of_getElem? (i := 20) (by decide +kernel)) (by decide +kernel)
theorem mm_21 : Cond.selects "ShareKeeper$AlarmSearch" ⟨"ShareKeeper$AlarmSearch", "choose", "()I"⟩ ⟨"ShareKeeper$AlarmSearch", "choose", "()I"⟩ ∈ xt := xt_of (List.mem_of_getElem? (i := 21) (by decide +kernel)) (by decide +kernel)
theorem mm_22 : Cond.selects "ShareKeeper$AlarmSearch" ⟨"ShareKeeper$AlarmSearch", "chooseRate", "(I)V"⟩ ⟨"ShareKeeper$AlarmSearch", "chooseRate", "(I)V"⟩ ∈ xt := xt_of (List.mem_of_getElem? (i := 22) (by decide +kernel)) (by decide +kernel)
theorem mm_23 : Cond.selects "ShareKeeper" ⟨"ShareKeeper", "changeAt", "(I)LShareKeeper$Change;"⟩ ⟨"ShareKeeper", "changeAt", "(I)LShareKeeper$Change;"⟩ ∈ xt := xt_of (List.mem_of_getElem? (i := 23) (by decide +kernel)) (by decide +kernel)
theorem mm_24 : Cond.selects "ShareKeeper" ⟨"ShareKeeper", "roomOf", "(I)I"⟩ ⟨"ShareKeeper", "roomOf", "(I)I"⟩ ∈ xt := xt_of (List.mem_of_getElem? (i := 24) (by decide +kernel)) (by decide +kernel)
theorem mm_25 : Cond.selects "ShareKeeper$Promise" ⟨"ShareKeeper$Promise", "toCome", "(II)I"⟩ ⟨"ShareKeeper$Promise", "toCome", "(II)I"⟩ ∈ xt := xt_of (List.mem_of_getElem? (i := 25) (by decide +kernel)) (by decide +kernel)
theorem mm_26 : Cond.selects "ShareKeeper$Planner" ⟨"ShareKeeper$Planner", "addUpWorths", "()V"⟩ ⟨"ShareKeeper$Planner", "addUpWorths", "()V"⟩ ∈ xt := xt_of (List.mem_of_getElem? (i := 26) (by decide +kernel)) (by decide +kernel)
theorem mm_27 : Cond.selects "ShareKeeper$Planner" ⟨"ShareKeeper$Planner", "explore", "(IIII)V"⟩ ⟨"ShareKeeper$Planner", "explore", "(IIII)V"⟩ ∈ xt := xt_of (List.mem_of_getElem? (i := 27) (by decide +kernel)) (by decide +kernel)
theorem mm_28 : Cond.selects "ShareKeeper$Planner" ⟨"ShareKeeper$Planner", "isBetter", "(II)Z"⟩ ⟨"ShareKeeper$Planner", "isBetter", "(II)Z"⟩ ∈ xt := xt_of (List.mem_of_getElem? (i := 28) (by decide +kernel)) (by decide +kernel)
theorem mm_29 : Cond.selects "ShareKeeper$Planner" ⟨"ShareKeeper$Planner", "branch", "(IIII)V"⟩ ⟨"ShareKeeper$Planner", "branch", "(IIII)V"⟩ ∈ xt := xt_of (List.mem_of_getElem? (i := 29) (by decide +kernel)) (by decide +kernel)
theorem mm_30 : Cond.selects "ShareKeeper$Planner" ⟨"ShareKeeper$Planner", "keepBest", "()V"⟩ ⟨"ShareKeeper$Planner", "keepBest", "()V"⟩ ∈ xt := xt_of (List.mem_of_getElem? (i := 30) (by decide +kernel)) (by decide +kernel)
theorem mm_31 : Cond.selects "java/lang/Throwable" ⟨"java/lang/Throwable", "fillInStackTrace", "(I)Ljava/lang/Throwable;"⟩ ⟨"java/lang/Throwable", "fillInStackTrace", "(I)Ljava/lang/Throwable;"⟩ ∈ xt := xt_of (List.mem_of_getElem? (i := 31) (by decide +kernel)) (by decide +kernel)
theorem mm_32 : Cond.selects "ShareKeeperModel" ⟨"ShareKeeperModel", "isService", "(I)Z"⟩ ⟨"ShareKeeperModel", "isService", "(I)Z"⟩ ∈ xt := xt_of (List.mem_of_getElem? (i := 32) (by decide +kernel)) (by decide +kernel)
theorem mm_33 : Cond.selects "ShareKeeperModel" ⟨"ShareKeeperModel", "sums", "(III)V"⟩ ⟨"ShareKeeperModel", "sums", "(III)V"⟩ ∈ xt := xt_of (List.mem_of_getElem? (i := 33) (by decide +kernel)) (by decide +kernel)
theorem mm_34 : Cond.selects "ShareKeeperModel" ⟨"ShareKeeperModel", "addTick", "(II)V"⟩ ⟨"ShareKeeperModel", "addTick", "(II)V"⟩ ∈ xt := xt_of (List.mem_of_getElem? (i := 34) (by decide +kernel)) (by decide +kernel)
theorem mm_35 : Cond.selects "ShareKeeperModel" ⟨"ShareKeeperModel", "isPromise", "(I)Z"⟩ ⟨"ShareKeeperModel", "isPromise", "(I)Z"⟩ ∈ xt := xt_of (List.mem_of_getElem? (i := 35) (by decide +kernel)) (by decide +kernel)
theorem mm_36 : Cond.selects "ShareKeeperModel" ⟨"ShareKeeperModel", "spans", "(II)V"⟩ ⟨"ShareKeeperModel", "spans", "(II)V"⟩ ∈ xt := xt_of (List.mem_of_getElem? (i := 36) (by decide +kernel)) (by decide +kernel)
theorem mm_37 : Cond.selects "ShareKeeperModel" ⟨"ShareKeeperModel", "isGrace", "(II)Z"⟩ ⟨"ShareKeeperModel", "isGrace", "(II)Z"⟩ ∈ xt := xt_of (List.mem_of_getElem? (i := 37) (by decide +kernel)) (by decide +kernel)
theorem mm_38 : Cond.selects "ShareKeeperModel" ⟨"ShareKeeperModel", "leftOf", "(IJJ)J"⟩ ⟨"ShareKeeperModel", "leftOf", "(IJJ)J"⟩ ∈ xt := xt_of (List.mem_of_getElem? (i := 38) (by decide +kernel)) (by decide +kernel)
theorem mm_39 : Cond.selects "ShareKeeperModel" ⟨"ShareKeeperModel", "least", "(I)J"⟩ ⟨"ShareKeeperModel", "least", "(I)J"⟩ ∈ xt := xt_of (List.mem_of_getElem? (i := 39) (by decide +kernel)) (by decide +kernel)
theorem mm_40 : Cond.selects "ShareKeeperModel" ⟨"ShareKeeperModel", "greatest", "(I)J"⟩ ⟨"ShareKeeperModel", "greatest", "(I)J"⟩ ∈ xt := xt_of (List.mem_of_getElem? (i := 40) (by decide +kernel)) (by decide +kernel)
theorem mm_41 : Cond.selects "ShareKeeperModel" ⟨"ShareKeeperModel", "isWhole", "(I)Z"⟩ ⟨"ShareKeeperModel", "isWhole", "(I)Z"⟩ ∈ xt := xt_of (List.mem_of_getElem? (i := 41) (by decide +kernel)) (by decide +kernel)
theorem mm_42 : Cond.selects "ShareKeeperModel" ⟨"ShareKeeperModel", "settledAt", "(I)I"⟩ ⟨"ShareKeeperModel", "settledAt", "(I)I"⟩ ∈ xt := xt_of (List.mem_of_getElem? (i := 42) (by decide +kernel)) (by decide +kernel)
theorem mm_43 : Cond.selects "ShareKeeperModel" ⟨"ShareKeeperModel", "marks", "(IZI)J"⟩ ⟨"ShareKeeperModel", "marks", "(IZI)J"⟩ ∈ xt := xt_of (List.mem_of_getElem? (i := 43) (by decide +kernel)) (by decide +kernel)
theorem mm_44 : Cond.selects "ShareKeeperModel" ⟨"ShareKeeperModel", "isAlarm", "(I)Z"⟩ ⟨"ShareKeeperModel", "isAlarm", "(I)Z"⟩ ∈ xt := xt_of (List.mem_of_getElem? (i := 44) (by decide +kernel)) (by decide +kernel)
theorem mm_45 : Cond.selects "ShareKeeperModel" ⟨"ShareKeeperModel", "isWorseIn", "(IIII)Z"⟩ ⟨"ShareKeeperModel", "isWorseIn", "(IIII)Z"⟩ ∈ xt := xt_of (List.mem_of_getElem? (i := 45) (by decide +kernel)) (by decide +kernel)
theorem mm_46 : Cond.selects "ShareKeeperModel" ⟨"ShareKeeperModel", "isWorse", "(IIJJ)Z"⟩ ⟨"ShareKeeperModel", "isWorse", "(IIJJ)Z"⟩ ∈ xt := xt_of (List.mem_of_getElem? (i := 46) (by decide +kernel)) (by decide +kernel)
theorem mm_47 : Cond.selects "ShareKeeperModel" ⟨"ShareKeeperModel", "soonestOf", "(IIIIII)I"⟩ ⟨"ShareKeeperModel", "soonestOf", "(IIIIII)I"⟩ ∈ xt := xt_of (List.mem_of_getElem? (i := 47) (by decide +kernel)) (by decide +kernel)
theorem mm_48 : Cond.selects "ShareKeeperModel" ⟨"ShareKeeperModel", "isSteadyWorse", "(IIIIII)Z"⟩ ⟨"ShareKeeperModel", "isSteadyWorse", "(IIIIII)Z"⟩ ∈ xt := xt_of (List.mem_of_getElem? (i := 48) (by decide +kernel)) (by decide +kernel)
theorem mm_49 : Cond.selects "ShareKeeperModel" ⟨"ShareKeeperModel", "sumsTo", "(I)V"⟩ ⟨"ShareKeeperModel", "sumsTo", "(I)V"⟩ ∈ xt := xt_of (List.mem_of_getElem? (i := 49) (by decide +kernel)) (by decide +kernel)
theorem mm_50 : Cond.selects "ShareKeeperModel" ⟨"ShareKeeperModel", "ringsTill", "(IIII)I"⟩ ⟨"ShareKeeperModel", "ringsTill", "(IIII)I"⟩ ∈ xt := xt_of (List.mem_of_getElem? (i := 50) (by decide +kernel)) (by decide +kernel)
theorem mm_51 : Cond.selects "ShareKeeperModel" ⟨"ShareKeeperModel", "isWorseTo", "(IIII)Z"⟩ ⟨"ShareKeeperModel", "isWorseTo", "(IIII)Z"⟩ ∈ xt := xt_of (List.mem_of_getElem? (i := 51) (by decide +kernel)) (by decide +kernel)
theorem mm_52 : Cond.selects "ShareKeeperModel" ⟨"ShareKeeperModel", "isChange", "(I)Z"⟩ ⟨"ShareKeeperModel", "isChange", "(I)Z"⟩ ∈ xt := xt_of (List.mem_of_getElem? (i := 52) (by decide +kernel)) (by decide +kernel)
theorem mm_53 : Cond.selects "ShareKeeperModel" ⟨"ShareKeeperModel", "room", "(I)J"⟩ ⟨"ShareKeeperModel", "room", "(I)J"⟩ ∈ xt := xt_of (List.mem_of_getElem? (i := 53) (by decide +kernel)) (by decide +kernel)
theorem mm_54 : Cond.initialized "ShareKeeperLaw" ∈ xt := xt_of (List.mem_of_getElem? (i := 54) (by decide +kernel)) (by decide +kernel)
theorem mm_55 : Cond.initialized "ShareKeeper" ∈ xt := xt_of (List.mem_of_getElem? (i := 55) (by decide +kernel)) (by decide +kernel)
theorem mm_56 : Cond.initialized "java/util/AbstractCollection" ∈ xt := xt_of (List.mem_of_getElem? (i := 56) (by decide +kernel)) (by decide +kernel)
theorem mm_57 : Cond.initialized "java/util/AbstractList" ∈ xt := xt_of (List.mem_of_getElem? (i := 57) (by decide +kernel)) (by decide +kernel)
theorem mm_58 : Cond.initialized "java/util/ArrayList" ∈ xt := xt_of (List.mem_of_getElem? (i := 58) (by decide +kernel)) (by decide +kernel)
theorem mm_59 : Cond.initialized "ShareKeeper$Parts" ∈ xt := xt_of (List.mem_of_getElem? (i := 59) (by decide +kernel)) (by decide +kernel)
theorem mm_60 : Cond.initialized "ShareKeeper$Planner" ∈ xt := xt_of (List.mem_of_getElem? (i := 60) (by decide +kernel)) (by decide +kernel)
theorem mm_61 : Cond.initialized "ShareKeeper$AlarmSearch" ∈ xt := xt_of (List.mem_of_getElem? (i := 61) (by decide +kernel)) (by decide +kernel)
theorem mm_62 : Cond.initialized "ShareKeeperModel" ∈ xt := xt_of (List.mem_of_getElem? (i := 62) (by decide +kernel)) (by decide +kernel)
theorem mm_63 : Cond.initialized "ShareKeeper$Service" ∈ xt := xt_of (List.mem_of_getElem? (i := 63) (by decide +kernel)) (by decide +kernel)
theorem mm_64 : Cond.initialized "jdk/internal/util/ArraysSupport" ∈ xt := xt_of (List.mem_of_getElem? (i := 64) (by decide +kernel)) (by decide +kernel)
theorem mm_65 : Cond.initialized "java/lang/Math" ∈ xt := xt_of (List.mem_of_getElem? (i := 65) (by decide +kernel)) (by decide +kernel)
theorem mm_66 : Cond.initialized "java/util/Arrays" ∈ xt := xt_of (List.mem_of_getElem? (i := 66) (by decide +kernel)) (by decide +kernel)
theorem mm_67 : Cond.initialized "java/lang/System" ∈ xt := xt_of (List.mem_of_getElem? (i := 67) (by decide +kernel)) (by decide +kernel)
theorem mm_68 : Cond.initialized "java/util/Objects" ∈ xt := xt_of (List.mem_of_getElem? (i := 68) (by decide +kernel)) (by decide +kernel)
theorem mm_69 : Cond.initialized "jdk/internal/util/Preconditions" ∈ xt := xt_of (List.mem_of_getElem? (i := 69) (by decide +kernel)) (by decide +kernel)
theorem mm_70 : Cond.initialized "ShareKeeper$Source" ∈ xt := xt_of (List.mem_of_getElem? (i := 70) (by decide +kernel)) (by decide +kernel)
theorem mm_71 : Cond.initialized "ShareKeeper$Promise" ∈ xt := xt_of (List.mem_of_getElem? (i := 71) (by decide +kernel)) (by decide +kernel)
theorem mm_72 : Cond.initialized "java/lang/Throwable" ∈ xt := xt_of (List.mem_of_getElem? (i := 72) (by decide +kernel)) (by decide +kernel)
theorem mm_73 : Cond.initialized "java/lang/Exception" ∈ xt := xt_of (List.mem_of_getElem? (i := 73) (by decide +kernel)) (by decide +kernel)
theorem mm_74 : Cond.initialized "java/lang/RuntimeException" ∈ xt := xt_of (List.mem_of_getElem? (i := 74) (by decide +kernel)) (by decide +kernel)
theorem mm_75 : Cond.initialized "java/util/NoSuchElementException" ∈ xt := xt_of (List.mem_of_getElem? (i := 75) (by decide +kernel)) (by decide +kernel)
theorem mm_76 : Cond.initialized "ShareKeeper$Alarm" ∈ xt := xt_of (List.mem_of_getElem? (i := 76) (by decide +kernel)) (by decide +kernel)
theorem mm_77 : Cond.initialized "ShareKeeper$SteadyHistory" ∈ xt := xt_of (List.mem_of_getElem? (i := 77) (by decide +kernel)) (by decide +kernel)
theorem mm_78 : Cond.initialized "ShareKeeper$Change" ∈ xt := xt_of (List.mem_of_getElem? (i := 78) (by decide +kernel)) (by decide +kernel)
theorem mm_79 : Cond.initialized "java/lang/Integer" ∈ xt := xt_of (List.mem_of_getElem? (i := 79) (by decide +kernel)) (by decide +kernel)
theorem mm_80 : Cond.classLink "ShareKeeperLaw" 8 "ShareKeeper" ∈ xt := xt_of (List.mem_of_getElem? (i := 80) (by decide +kernel)) (by decide +kernel)
theorem mm_81 : Cond.instantiable "ShareKeeper" 11 ∈ xt := xt_of (List.mem_of_getElem? (i := 81) (by decide +kernel)) (by decide +kernel)
theorem mm_82 : Cond.methodLink "ShareKeeperLaw" 15 ⟨"ShareKeeper", "<init>", "()V"⟩ ∈ xt := xt_of (List.mem_of_getElem? (i := 82) (by decide +kernel)) (by decide +kernel)
theorem mm_83 : Cond.instanceMethod ⟨"ShareKeeper", "<init>", "()V"⟩ ∈ xt := xt_of (List.mem_of_getElem? (i := 83) (by decide +kernel)) (by decide +kernel)
theorem mm_84 : Cond.code ⟨"ShareKeeper", "<init>", "()V"⟩ prog_1_method_1_code 1 none ∈ xt := xt_of (List.mem_of_getElem? (i := 84) (by decide +kernel)) (by decide +kernel)
theorem mm_85 : Cond.methodLink "ShareKeeper" 3 ⟨"java/lang/Object", "<init>", "()V"⟩ ∈ xt := xt_of (List.mem_of_getElem? (i := 85) (by decide +kernel)) (by decide +kernel)
theorem mm_86 : Cond.instanceMethod ⟨"java/lang/Object", "<init>", "()V"⟩ ∈ xt := xt_of (List.mem_of_getElem? (i := 86) (by decide +kernel)) (by decide +kernel)
theorem mm_87 : Cond.code ⟨"java/lang/Object", "<init>", "()V"⟩ object_method_1_code 1 none ∈ xt := xt_of (List.mem_of_getElem? (i := 87) (by decide +kernel)) (by decide +kernel)
theorem mm_88 : Cond.classLink "ShareKeeper" 9 "java/util/ArrayList" ∈ xt := xt_of (List.mem_of_getElem? (i := 88) (by decide +kernel)) (by decide +kernel)
theorem mm_89 : Cond.instantiable "java/util/ArrayList" 3 ∈ xt := xt_of (List.mem_of_getElem? (i := 89) (by decide +kernel)) (by decide +kernel)
theorem mm_90 : Cond.methodLink "ShareKeeper" 11 ⟨"java/util/ArrayList", "<init>", "()V"⟩ ∈ xt := xt_of (List.mem_of_getElem? (i := 90) (by decide +kernel)) (by decide +kernel)
theorem mm_91 : Cond.instanceMethod ⟨"java/util/ArrayList", "<init>", "()V"⟩ ∈ xt := xt_of (List.mem_of_getElem? (i := 91) (by decide +kernel)) (by decide +kernel)
theorem mm_92 : Cond.code ⟨"java/util/ArrayList", "<init>", "()V"⟩ prog_25_method_2_code 1 none ∈ xt := xt_of (List.mem_of_getElem? (i := 92) (by decide +kernel)) (by decide +kernel)
theorem mm_93 : Cond.methodLink "java/util/ArrayList" 1 ⟨"java/util/AbstractList", "<init>", "()V"⟩ ∈ xt := xt_of (List.mem_of_getElem? (i := 93) (by decide +kernel)) (by decide +kernel)
theorem mm_94 : Cond.instanceMethod ⟨"java/util/AbstractList", "<init>", "()V"⟩ ∈ xt := xt_of (List.mem_of_getElem? (i := 94) (by decide +kernel)) (by decide +kernel)
theorem mm_95 : Cond.code ⟨"java/util/AbstractList", "<init>", "()V"⟩ prog_24_method_1_code 1 none ∈ xt := xt_of (List.mem_of_getElem? (i := 95) (by decide +kernel)) (by decide +kernel)
theorem mm_96 : Cond.methodLink "java/util/AbstractList" 1 ⟨"java/util/AbstractCollection", "<init>", "()V"⟩ ∈ xt := xt_of (List.mem_of_getElem? (i := 96) (by decide +kernel)) (by decide +kernel)
theorem mm_97 : Cond.instanceMethod ⟨"java/util/AbstractCollection", "<init>", "()V"⟩ ∈ xt := xt_of (List.mem_of_getElem? (i := 97) (by decide +kernel)) (by decide +kernel)
theorem mm_98 : Cond.code ⟨"java/util/AbstractCollection", "<init>", "()V"⟩ prog_23_method_1_code 1 none ∈ xt := xt_of (List.mem_of_getElem? (i := 98) (by decide +kernel)) (by decide +kernel)
theorem mm_99 : Cond.methodLink "java/util/AbstractCollection" 1 ⟨"java/lang/Object", "<init>", "()V"⟩ ∈ xt := xt_of (List.mem_of_getElem? (i := 99) (by decide +kernel)) (by decide +kernel)
theorem mm_100 : Cond.fieldLink "java/util/ArrayList" 39 "java/util/ArrayList" "DEFAULTCAPACITY_EMPTY_ELEMENTDATA" "[Ljava/lang/Object;" ∈ xt := xt_of (List.mem_of_getElem? (i := 100) (by decide +kernel)) (by decide +kernel)
theorem mm_102 : Cond.fieldLink "java/util/ArrayList" 9 "java/util/ArrayList" "elementData" "[Ljava/lang/Object;" ∈ xt := xt_of (List.mem_of_getElem? (i := 102) (by decide +kernel)) (by decide +kernel)
theorem mm_103 : Cond.fieldLink "java/util/ArrayList" 48 "java/util/ArrayList" "size" "I" ∈ xt := xt_of (List.mem_of_getElem? (i := 103) (by decide +kernel)) (by decide +kernel)
theorem mm_104 : Cond.fieldLink "java/util/AbstractList" 7 "java/util/AbstractList" "modCount" "I" ∈ xt := xt_of (List.mem_of_getElem? (i := 104) (by decide +kernel)) (by decide +kernel)
theorem mm_105 : Cond.fieldLink "java/util/ArrayList" 63 "java/util/ArrayList" "modCount" "I" ∈ xt := xt_of (List.mem_of_getElem? (i := 105) (by decide +kernel)) (by decide +kernel)
theorem mm_106 : Cond.sameField "java/util/ArrayList" "java/util/AbstractList" "modCount" "I" ∈ xt := xt_of (List.mem_of_getElem? (i := 106) (by decide +kernel)) (by decide +kernel)
theorem mm_114 : Cond.classLink "ShareKeeper" 28 "ShareKeeper$Parts" ∈ xt := xt_of (List.mem_of_getElem? (i := 114) (by decide +kernel)) (by decide +kernel)
theorem mm_115 : Cond.instantiable "ShareKeeper$Parts" 2 ∈ xt := xt_of (List.mem_of_getElem? (i := 115) (by decide +kernel)) (by decide +kernel)
theorem mm_117 : Cond.instanceMethod ⟨"ShareKeeper$Parts", "<init>", "()V"⟩ ∈ xt := xt_of (List.mem_of_getElem? (i := 117) (by decide +kernel)) (by decide +kernel)
theorem mm_118 : Cond.code ⟨"ShareKeeper$Parts", "<init>", "()V"⟩ prog_6_method_1_code 1 none ∈ xt := xt_of (List.mem_of_getElem? (i := 118) (by decide +kernel)) (by decide +kernel)
theorem mm_119 : Cond.methodLink "ShareKeeper$Parts" 3 ⟨"java/lang/Object", "<init>", "()V"⟩ ∈ xt := xt_of (List.mem_of_getElem? (i := 119) (by decide +kernel)) (by decide +kernel)
theorem mm_120 : Cond.fieldLink "ShareKeeper$Parts" 9 "ShareKeeper$Parts" "bad" "[I" ∈ xt := xt_of (List.mem_of_getElem? (i := 120) (by decide +kernel)) (by decide +kernel)
theorem mm_121 : Cond.fieldLink "ShareKeeper$Parts" 15 "ShareKeeper$Parts" "size" "I" ∈ xt := xt_of (List.mem_of_getElem? (i := 121) (by decide +kernel)) (by decide +kernel)
theorem mm_127 : Cond.arrayClass .int ∈ xt := xt_of (List.mem_of_getElem? (i := 127) (by decide +kernel)) (by decide +kernel)
theorem mm_128 : Cond.classLink "ShareKeeper" 35 "ShareKeeper$Planner" ∈ xt := xt_of (List.mem_of_getElem? (i := 128) (by decide +kernel)) (by decide +kernel)
theorem mm_129 : Cond.instantiable "ShareKeeper$Planner" 10 ∈ xt := xt_of (List.mem_of_getElem? (i := 129) (by decide +kernel)) (by decide +kernel)
theorem mm_131 : Cond.instanceMethod ⟨"ShareKeeper$Planner", "<init>", "()V"⟩ ∈ xt := xt_of (List.mem_of_getElem? (i := 131) (by decide +kernel)) (by decide +kernel)
theorem mm_132 : Cond.code ⟨"ShareKeeper$Planner", "<init>", "()V"⟩ prog_7_method_1_code 1 none ∈ xt := xt_of (List.mem_of_getElem? (i := 132) (by decide +kernel)) (by decide +kernel)
theorem mm_133 : Cond.methodLink "ShareKeeper$Planner" 3 ⟨"java/lang/Object", "<init>", "()V"⟩ ∈ xt := xt_of (List.mem_of_getElem? (i := 133) (by decide +kernel)) (by decide +kernel)
theorem mm_134 : Cond.fieldLink "ShareKeeper$Planner" 9 "ShareKeeper$Planner" "numbers" "[I" ∈ xt := xt_of (List.mem_of_getElem? (i := 134) (by decide +kernel)) (by decide +kernel)
theorem mm_135 : Cond.fieldLink "ShareKeeper$Planner" 15 "ShareKeeper$Planner" "guesses" "[I" ∈ xt := xt_of (List.mem_of_getElem? (i := 135) (by decide +kernel)) (by decide +kernel)
theorem mm_136 : Cond.fieldLink "ShareKeeper$Planner" 18 "ShareKeeper$Planner" "worths" "[I" ∈ xt := xt_of (List.mem_of_getElem? (i := 136) (by decide +kernel)) (by decide +kernel)
theorem mm_137 : Cond.fieldLink "ShareKeeper$Planner" 21 "ShareKeeper$Planner" "worthFrom" "[I" ∈ xt := xt_of (List.mem_of_getElem? (i := 137) (by decide +kernel)) (by decide +kernel)
theorem mm_138 : Cond.fieldLink "ShareKeeper$Planner" 24 "ShareKeeper$Planner" "chosen" "[I" ∈ xt := xt_of (List.mem_of_getElem? (i := 138) (by decide +kernel)) (by decide +kernel)
theorem mm_139 : Cond.fieldLink "ShareKeeper$Planner" 27 "ShareKeeper$Planner" "offered" "I" ∈ xt := xt_of (List.mem_of_getElem? (i := 139) (by decide +kernel)) (by decide +kernel)
theorem mm_140 : Cond.fieldLink "ShareKeeper$Planner" 50 "ShareKeeper$Planner" "chosenSize" "I" ∈ xt := xt_of (List.mem_of_getElem? (i := 140) (by decide +kernel)) (by decide +kernel)
theorem mm_141 : Cond.fieldLink "ShareKeeper$Planner" 31 "ShareKeeper$Planner" "bestMask" "I" ∈ xt := xt_of (List.mem_of_getElem? (i := 141) (by decide +kernel)) (by decide +kernel)
theorem mm_142 : Cond.fieldLink "ShareKeeper$Planner" 34 "ShareKeeper$Planner" "bestSize" "I" ∈ xt := xt_of (List.mem_of_getElem? (i := 142) (by decide +kernel)) (by decide +kernel)
theorem mm_143 : Cond.fieldLink "ShareKeeper$Planner" 37 "ShareKeeper$Planner" "bestWorth" "I" ∈ xt := xt_of (List.mem_of_getElem? (i := 143) (by decide +kernel)) (by decide +kernel)
theorem mm_165 : Cond.classLink "ShareKeeper" 42 "ShareKeeper$AlarmSearch" ∈ xt := xt_of (List.mem_of_getElem? (i := 165) (by decide +kernel)) (by decide +kernel)
theorem mm_166 : Cond.instantiable "ShareKeeper$AlarmSearch" 5 ∈ xt := xt_of (List.mem_of_getElem? (i := 166) (by decide +kernel)) (by decide +kernel)
theorem mm_168 : Cond.instanceMethod ⟨"ShareKeeper$AlarmSearch", "<init>", "()V"⟩ ∈ xt := xt_of (List.mem_of_getElem? (i := 168) (by decide +kernel)) (by decide +kernel)
theorem mm_169 : Cond.code ⟨"ShareKeeper$AlarmSearch", "<init>", "()V"⟩ prog_3_method_1_code 1 none ∈ xt := xt_of (List.mem_of_getElem? (i := 169) (by decide +kernel)) (by decide +kernel)
theorem mm_170 : Cond.methodLink "ShareKeeper$AlarmSearch" 5 ⟨"java/lang/Object", "<init>", "()V"⟩ ∈ xt := xt_of (List.mem_of_getElem? (i := 170) (by decide +kernel)) (by decide +kernel)
theorem mm_171 : Cond.fieldLink "ShareKeeper$AlarmSearch" 11 "ShareKeeper$AlarmSearch" "levels" "[I" ∈ xt := xt_of (List.mem_of_getElem? (i := 171) (by decide +kernel)) (by decide +kernel)
theorem mm_172 : Cond.fieldLink "ShareKeeper$AlarmSearch" 15 "ShareKeeper$AlarmSearch" "reached" "[I" ∈ xt := xt_of (List.mem_of_getElem? (i := 172) (by decide +kernel)) (by decide +kernel)
theorem mm_173 : Cond.fieldLink "ShareKeeper$AlarmSearch" 18 "ShareKeeper$AlarmSearch" "ticksAtLevel" "[I" ∈ xt := xt_of (List.mem_of_getElem? (i := 173) (by decide +kernel)) (by decide +kernel)
theorem mm_174 : Cond.fieldLink "ShareKeeper$AlarmSearch" 96 "ShareKeeper$AlarmSearch" "rateLevel" "I" ∈ xt := xt_of (List.mem_of_getElem? (i := 174) (by decide +kernel)) (by decide +kernel)
theorem mm_175 : Cond.fieldLink "ShareKeeper$AlarmSearch" 99 "ShareKeeper$AlarmSearch" "rateRings" "I" ∈ xt := xt_of (List.mem_of_getElem? (i := 175) (by decide +kernel)) (by decide +kernel)
theorem mm_187 : Cond.fieldLink "ShareKeeper" 12 "ShareKeeper" "services" "Ljava/util/List;" ∈ xt := xt_of (List.mem_of_getElem? (i := 187) (by decide +kernel)) (by decide +kernel)
theorem mm_188 : Cond.fieldLink "ShareKeeper" 16 "ShareKeeper" "sources" "Ljava/util/List;" ∈ xt := xt_of (List.mem_of_getElem? (i := 188) (by decide +kernel)) (by decide +kernel)
theorem mm_189 : Cond.fieldLink "ShareKeeper" 19 "ShareKeeper" "promises" "Ljava/util/List;" ∈ xt := xt_of (List.mem_of_getElem? (i := 189) (by decide +kernel)) (by decide +kernel)
theorem mm_190 : Cond.fieldLink "ShareKeeper" 22 "ShareKeeper" "alarms" "Ljava/util/List;" ∈ xt := xt_of (List.mem_of_getElem? (i := 190) (by decide +kernel)) (by decide +kernel)
theorem mm_191 : Cond.fieldLink "ShareKeeper" 25 "ShareKeeper" "changes" "Ljava/util/List;" ∈ xt := xt_of (List.mem_of_getElem? (i := 191) (by decide +kernel)) (by decide +kernel)
theorem mm_192 : Cond.fieldLink "ShareKeeper" 31 "ShareKeeper" "parts" "LShareKeeper$Parts;" ∈ xt := xt_of (List.mem_of_getElem? (i := 192) (by decide +kernel)) (by decide +kernel)
theorem mm_193 : Cond.fieldLink "ShareKeeper" 38 "ShareKeeper" "planner" "LShareKeeper$Planner;" ∈ xt := xt_of (List.mem_of_getElem? (i := 193) (by decide +kernel)) (by decide +kernel)
theorem mm_194 : Cond.fieldLink "ShareKeeper" 45 "ShareKeeper" "alarmSearch" "LShareKeeper$AlarmSearch;" ∈ xt := xt_of (List.mem_of_getElem? (i := 194) (by decide +kernel)) (by decide +kernel)
theorem mm_195 : Cond.fieldLink "ShareKeeper" 80 "ShareKeeper" "now" "I" ∈ xt := xt_of (List.mem_of_getElem? (i := 195) (by decide +kernel)) (by decide +kernel)
theorem mm_196 : Cond.fieldLink "ShareKeeper" 92 "ShareKeeper" "countsTaken" "I" ∈ xt := xt_of (List.mem_of_getElem? (i := 196) (by decide +kernel)) (by decide +kernel)
theorem mm_197 : Cond.fieldLink "ShareKeeper" 95 "ShareKeeper" "countsAgain" "I" ∈ xt := xt_of (List.mem_of_getElem? (i := 197) (by decide +kernel)) (by decide +kernel)
theorem mm_221 : Cond.methodLink "ShareKeeperLaw" 19 ⟨"ShareKeeper", "service", "()I"⟩ ∈ xt := xt_of (List.mem_of_getElem? (i := 221) (by decide +kernel)) (by decide +kernel)
theorem mm_222 : Cond.instanceMethod ⟨"ShareKeeper", "service", "()I"⟩ ∈ xt := xt_of (List.mem_of_getElem? (i := 222) (by decide +kernel)) (by decide +kernel)
theorem mm_223 : Cond.selects "ShareKeeper" ⟨"ShareKeeper", "service", "()I"⟩ ⟨"ShareKeeper", "service", "()I"⟩ ∈ xt := xt_of (List.mem_of_getElem? (i := 223) (by decide +kernel)) (by decide +kernel)
theorem mm_224 : Cond.code ⟨"ShareKeeper", "service", "()I"⟩ prog_1_method_2_code 1 (some .int) ∈ xt := xt_of (List.mem_of_getElem? (i := 224) (by decide +kernel)) (by decide +kernel)
theorem mm_226 : Cond.methodLink "ShareKeeper" 49 ⟨"java/util/List", "size", "()I"⟩ ∈ xt := xt_of (List.mem_of_getElem? (i := 226) (by decide +kernel)) (by decide +kernel)
theorem mm_230 : Cond.selects "java/util/ArrayList" ⟨"java/util/List", "size", "()I"⟩ ⟨"java/util/ArrayList", "size", "()I"⟩ ∈ xt := xt_of (List.mem_of_getElem? (i := 230) (by decide +kernel)) (by decide +kernel)
theorem mm_232 : Cond.instanceMethod ⟨"java/util/ArrayList", "size", "()I"⟩ ∈ xt := xt_of (List.mem_of_getElem? (i := 232) (by decide +kernel)) (by decide +kernel)
theorem mm_234 : Cond.code ⟨"java/util/ArrayList", "size", "()I"⟩ prog_25_method_8_code 1 (some .int) ∈ xt := xt_of (List.mem_of_getElem? (i := 234) (by decide +kernel)) (by decide +kernel)
theorem mm_235 : Cond.classLink "ShareKeeper" 55 "ShareKeeper$Service" ∈ xt := xt_of (List.mem_of_getElem? (i := 235) (by decide +kernel)) (by decide +kernel)
theorem mm_236 : Cond.instantiable "ShareKeeper$Service" 3 ∈ xt := xt_of (List.mem_of_getElem? (i := 236) (by decide +kernel)) (by decide +kernel)
theorem mm_238 : Cond.instanceMethod ⟨"ShareKeeper$Service", "<init>", "()V"⟩ ∈ xt := xt_of (List.mem_of_getElem? (i := 238) (by decide +kernel)) (by decide +kernel)
theorem mm_239 : Cond.code ⟨"ShareKeeper$Service", "<init>", "()V"⟩ prog_9_method_1_code 1 none ∈ xt := xt_of (List.mem_of_getElem? (i := 239) (by decide +kernel)) (by decide +kernel)
theorem mm_240 : Cond.methodLink "ShareKeeper$Service" 3 ⟨"java/lang/Object", "<init>", "()V"⟩ ∈ xt := xt_of (List.mem_of_getElem? (i := 240) (by decide +kernel)) (by decide +kernel)
theorem mm_241 : Cond.classLink "ShareKeeper$Service" 9 "java/util/ArrayList" ∈ xt := xt_of (List.mem_of_getElem? (i := 241) (by decide +kernel)) (by decide +kernel)
theorem mm_242 : Cond.methodLink "ShareKeeper$Service" 11 ⟨"java/util/ArrayList", "<init>", "()V"⟩ ∈ xt := xt_of (List.mem_of_getElem? (i := 242) (by decide +kernel)) (by decide +kernel)
theorem mm_243 : Cond.fieldLink "ShareKeeper$Service" 12 "ShareKeeper$Service" "sources" "Ljava/util/List;" ∈ xt := xt_of (List.mem_of_getElem? (i := 243) (by decide +kernel)) (by decide +kernel)
theorem mm_244 : Cond.fieldLink "ShareKeeper" 75 "ShareKeeper$Service" "sources" "Ljava/util/List;" ∈ xt := xt_of (List.mem_of_getElem? (i := 244) (by decide +kernel)) (by decide +kernel)
theorem mm_245 : Cond.fieldLink "ShareKeeper$Promise" 70 "ShareKeeper$Service" "sources" "Ljava/util/List;" ∈ xt := xt_of (List.mem_of_getElem? (i := 245) (by decide +kernel)) (by decide +kernel)
theorem mm_246 : Cond.fieldLink "ShareKeeper$Service" 18 "ShareKeeper$Service" "asks" "[I" ∈ xt := xt_of (List.mem_of_getElem? (i := 246) (by decide +kernel)) (by decide +kernel)
theorem mm_247 : Cond.fieldLink "ShareKeeper$Service" 22 "ShareKeeper$Service" "bad" "[I" ∈ xt := xt_of (List.mem_of_getElem? (i := 247) (by decide +kernel)) (by decide +kernel)
theorem mm_256 : Cond.methodLink "ShareKeeper" 58 ⟨"java/util/List", "add", "(Ljava/lang/Object;)Z"⟩ ∈ xt := xt_of (List.mem_of_getElem? (i := 256) (by decide +kernel)) (by decide +kernel)
theorem mm_259 : Cond.selects "java/util/ArrayList" ⟨"java/util/List", "add", "(Ljava/lang/Object;)Z"⟩ ⟨"java/util/ArrayList", "add", "(Ljava/lang/Object;)Z"⟩ ∈ xt := xt_of (List.mem_of_getElem? (i := 259) (by decide +kernel)) (by decide +kernel)
theorem mm_261 : Cond.instanceMethod ⟨"java/util/ArrayList", "add", "(Ljava/lang/Object;)Z"⟩ ∈ xt := xt_of (List.mem_of_getElem? (i := 261) (by decide +kernel)) (by decide +kernel)
theorem mm_263 : Cond.code ⟨"java/util/ArrayList", "add", "(Ljava/lang/Object;)Z"⟩ prog_25_method_25_code 2 (some .boolean) ∈ xt := xt_of (List.mem_of_getElem? (i := 263) (by decide +kernel)) (by decide +kernel)
theorem mm_264 : Cond.methodLink "java/util/ArrayList" 131 ⟨"java/util/ArrayList", "add", "(Ljava/lang/Object;[Ljava/lang/Object;I)V"⟩ ∈ xt := xt_of (List.mem_of_getElem? (i := 264) (by decide +kernel)) (by decide +kernel)
theorem mm_266 : Cond.instanceMethod ⟨"java/util/ArrayList", "add", "(Ljava/lang/Object;[Ljava/lang/Object;I)V"⟩ ∈ xt := xt_of (List.mem_of_getElem? (i := 266) (by decide +kernel)) (by decide +kernel)
theorem mm_267 : Cond.code ⟨"java/util/ArrayList", "add", "(Ljava/lang/Object;[Ljava/lang/Object;I)V"⟩ prog_25_method_24_code 4 none ∈ xt := xt_of (List.mem_of_getElem? (i := 267) (by decide +kernel)) (by decide +kernel)
theorem mm_268 : Cond.methodLink "java/util/ArrayList" 129 ⟨"java/util/ArrayList", "grow", "()[Ljava/lang/Object;"⟩ ∈ xt := xt_of (List.mem_of_getElem? (i := 268) (by decide +kernel)) (by decide +kernel)
theorem mm_270 : Cond.instanceMethod ⟨"java/util/ArrayList", "grow", "()[Ljava/lang/Object;"⟩ ∈ xt := xt_of (List.mem_of_getElem? (i := 270) (by decide +kernel)) (by decide +kernel)
theorem mm_271 : Cond.code ⟨"java/util/ArrayList", "grow", "()[Ljava/lang/Object;"⟩ prog_25_method_7_code 1 (some (.array (.object "java/lang/Object"))) ∈ xt := xt_of (List.mem_of_getElem? (i := 271) (by decide +kernel)) (by decide +kernel)
theorem mm_272 : Cond.methodLink "java/util/ArrayList" 69 ⟨"java/util/ArrayList", "grow", "(I)[Ljava/lang/Object;"⟩ ∈ xt := xt_of (List.mem_of_getElem? (i := 272) (by decide +kernel)) (by decide +kernel)
theorem mm_274 : Cond.instanceMethod ⟨"java/util/ArrayList", "grow", "(I)[Ljava/lang/Object;"⟩ ∈ xt := xt_of (List.mem_of_getElem? (i := 274) (by decide +kernel)) (by decide +kernel)
theorem mm_275 : Cond.code ⟨"java/util/ArrayList", "grow", "(I)[Ljava/lang/Object;"⟩ prog_25_method_6_code 4 (some (.array (.object "java/lang/Object"))) ∈ xt := xt_of (List.mem_of_getElem? (i := 275) (by decide +kernel)) (by decide +kernel)
theorem mm_276 : Cond.methodLink "java/util/ArrayList" 73 ⟨"jdk/internal/util/ArraysSupport", "newLength", "(III)I"⟩ ∈ xt := xt_of (List.mem_of_getElem? (i := 276) (by decide +kernel)) (by decide +kernel)
theorem mm_277 : Cond.static ⟨"jdk/internal/util/ArraysSupport", "newLength", "(III)I"⟩ ∈ xt := xt_of (List.mem_of_getElem? (i := 277) (by decide +kernel)) (by decide +kernel)
theorem mm_278 : Cond.code ⟨"jdk/internal/util/ArraysSupport", "newLength", "(III)I"⟩ prog_33_method_27_code 4 (some .int) ∈ xt := xt_of (List.mem_of_getElem? (i := 278) (by decide +kernel)) (by decide +kernel)
theorem mm_279 : Cond.methodLink "jdk/internal/util/ArraysSupport" 194 ⟨"java/lang/Math", "max", "(II)I"⟩ ∈ xt := xt_of (List.mem_of_getElem? (i := 279) (by decide +kernel)) (by decide +kernel)
theorem mm_280 : Cond.static ⟨"java/lang/Math", "max", "(II)I"⟩ ∈ xt := xt_of (List.mem_of_getElem? (i := 280) (by decide +kernel)) (by decide +kernel)
theorem mm_281 : Cond.code ⟨"java/lang/Math", "max", "(II)I"⟩ prog_19_method_65_code 2 (some .int) ∈ xt := xt_of (List.mem_of_getElem? (i := 281) (by decide +kernel)) (by decide +kernel)
theorem mm_282 : Cond.constant "jdk/internal/util/ArraysSupport" 200 (2147483639) ∈ xt := xt_of (List.mem_of_getElem? (i := 282) (by decide +kernel)) (by decide +kernel)
theorem mm_283 : Cond.methodLink "jdk/internal/util/ArraysSupport" 201 ⟨"jdk/internal/util/ArraysSupport", "hugeLength", "(II)I"⟩ ∈ xt := xt_of (List.mem_of_getElem? (i := 283) (by decide +kernel)) (by decide +kernel)
theorem mm_284 : Cond.static ⟨"jdk/internal/util/ArraysSupport", "hugeLength", "(II)I"⟩ ∈ xt := xt_of (List.mem_of_getElem? (i := 284) (by decide +kernel)) (by decide +kernel)
theorem mm_285 : Cond.code ⟨"jdk/internal/util/ArraysSupport", "hugeLength", "(II)I"⟩ prog_33_method_28_code 3 (some .int) ∈ xt := xt_of (List.mem_of_getElem? (i := 285) (by decide +kernel)) (by decide +kernel)
theorem mm_286 : Cond.methodLink "java/util/ArrayList" 66 ⟨"java/util/Arrays", "copyOf", "([Ljava/lang/Object;I)[Ljava/lang/Object;"⟩ ∈ xt := xt_of (List.mem_of_getElem? (i := 286) (by decide +kernel)) (by decide +kernel)
theorem mm_287 : Cond.static ⟨"java/util/Arrays", "copyOf", "([Ljava/lang/Object;I)[Ljava/lang/Object;"⟩ ∈ xt := xt_of (List.mem_of_getElem? (i := 287) (by decide +kernel)) (by decide +kernel)
theorem mm_288 : Cond.code ⟨"java/util/Arrays", "copyOf", "([Ljava/lang/Object;I)[Ljava/lang/Object;"⟩ prog_26_method_119_code 2 (some (.array (.object "java/lang/Object"))) ∈ xt := xt_of (List.mem_of_getElem? (i := 288) (by decide +kernel)) (by decide +kernel)
theorem mm_289 : Cond.methodLink "java/util/Arrays" 86 ⟨"java/lang/Object", "getClass", "()Ljava/lang/Class;"⟩ ∈ xt := xt_of (List.mem_of_getElem? (i := 289) (by decide +kernel)) (by decide +kernel)
theorem mm_290 : Cond.instanceMethod ⟨"java/lang/Object", "getClass", "()Ljava/lang/Class;"⟩ ∈ xt := xt_of (List.mem_of_getElem? (i := 290) (by decide +kernel)) (by decide +kernel)
theorem mm_292 : Cond.selects "ShareKeeper" ⟨"java/lang/Object", "getClass", "()Ljava/lang/Class;"⟩ ⟨"java/lang/Object", "getClass", "()Ljava/lang/Class;"⟩ ∈ xt := xt_of (List.mem_of_getElem? (i := 292) (by decide +kernel)) (by decide +kernel)
theorem mm_293 : Cond.selects "ShareKeeper$Alarm" ⟨"java/lang/Object", "getClass", "()Ljava/lang/Class;"⟩ ⟨"java/lang/Object", "getClass", "()Ljava/lang/Class;"⟩ ∈ xt := xt_of (List.mem_of_getElem? (i := 293) (by decide +kernel)) (by decide +kernel)
theorem mm_294 : Cond.selects "ShareKeeper$AlarmSearch" ⟨"java/lang/Object", "getClass", "()Ljava/lang/Class;"⟩ ⟨"java/lang/Object", "getClass", "()Ljava/lang/Class;"⟩ ∈ xt := xt_of (List.mem_of_getElem? (i := 294) (by decide +kernel)) (by decide +kernel)
theorem mm_295 : Cond.selects "ShareKeeper$Change" ⟨"java/lang/Object", "getClass", "()Ljava/lang/Class;"⟩ ⟨"java/lang/Object", "getClass", "()Ljava/lang/Class;"⟩ ∈ xt := xt_of (List.mem_of_getElem? (i := 295) (by decide +kernel)) (by decide +kernel)
theorem mm_296 : Cond.selects "ShareKeeper$Parts" ⟨"java/lang/Object", "getClass", "()Ljava/lang/Class;"⟩ ⟨"java/lang/Object", "getClass", "()Ljava/lang/Class;"⟩ ∈ xt := xt_of (List.mem_of_getElem? (i := 296) (by decide +kernel)) (by decide +kernel)
theorem mm_297 : Cond.selects "ShareKeeper$Planner" ⟨"java/lang/Object", "getClass", "()Ljava/lang/Class;"⟩ ⟨"java/lang/Object", "getClass", "()Ljava/lang/Class;"⟩ ∈ xt := xt_of (List.mem_of_getElem? (i := 297) (by decide +kernel)) (by decide +kernel)
theorem mm_298 : Cond.selects "ShareKeeper$Promise" ⟨"java/lang/Object", "getClass", "()Ljava/lang/Class;"⟩ ⟨"java/lang/Object", "getClass", "()Ljava/lang/Class;"⟩ ∈ xt := xt_of (List.mem_of_getElem? (i := 298) (by decide +kernel)) (by decide +kernel)
theorem mm_299 : Cond.selects "ShareKeeper$Service" ⟨"java/lang/Object", "getClass", "()Ljava/lang/Class;"⟩ ⟨"java/lang/Object", "getClass", "()Ljava/lang/Class;"⟩ ∈ xt := xt_of (List.mem_of_getElem? (i := 299) (by decide +kernel)) (by decide +kernel)
theorem mm_300 : Cond.selects "ShareKeeper$Source" ⟨"java/lang/Object", "getClass", "()Ljava/lang/Class;"⟩ ⟨"java/lang/Object", "getClass", "()Ljava/lang/Class;"⟩ ∈ xt := xt_of (List.mem_of_getElem? (i := 300) (by decide +kernel)) (by decide +kernel)
theorem mm_301 : Cond.selects "ShareKeeper$SteadyHistory" ⟨"java/lang/Object", "getClass", "()Ljava/lang/Class;"⟩ ⟨"java/lang/Object", "getClass", "()Ljava/lang/Class;"⟩ ∈ xt := xt_of (List.mem_of_getElem? (i := 301) (by decide +kernel)) (by decide +kernel)
theorem mm_302 : Cond.selects "ShareKeeperModel" ⟨"java/lang/Object", "getClass", "()Ljava/lang/Class;"⟩ ⟨"java/lang/Object", "getClass", "()Ljava/lang/Class;"⟩ ∈ xt := xt_of (List.mem_of_getElem? (i := 302) (by decide +kernel)) (by decide +kernel)
theorem mm_303 : Cond.selects "java/util/ArrayList" ⟨"java/lang/Object", "getClass", "()Ljava/lang/Class;"⟩ ⟨"java/lang/Object", "getClass", "()Ljava/lang/Class;"⟩ ∈ xt := xt_of (List.mem_of_getElem? (i := 303) (by decide +kernel)) (by decide +kernel)
theorem mm_304 : Cond.selects "java/util/NoSuchElementException" ⟨"java/lang/Object", "getClass", "()Ljava/lang/Class;"⟩ ⟨"java/lang/Object", "getClass", "()Ljava/lang/Class;"⟩ ∈ xt := xt_of (List.mem_of_getElem? (i := 304) (by decide +kernel)) (by decide +kernel)
theorem mm_306 : Cond.methodLink "java/util/Arrays" 300 ⟨"java/util/Arrays", "copyOf", "([Ljava/lang/Object;ILjava/lang/Class;)[Ljava/lang/Object;"⟩ ∈ xt := xt_of (List.mem_of_getElem? (i := 306) (by decide +kernel)) (by decide +kernel)
theorem mm_307 : Cond.static ⟨"java/util/Arrays", "copyOf", "([Ljava/lang/Object;ILjava/lang/Class;)[Ljava/lang/Object;"⟩ ∈ xt := xt_of (List.mem_of_getElem? (i := 307) (by decide +kernel)) (by decide +kernel)
theorem mm_308 : Cond.code ⟨"java/util/Arrays", "copyOf", "([Ljava/lang/Object;ILjava/lang/Class;)[Ljava/lang/Object;"⟩ prog_26_method_120_code 4 (some (.array (.object "java/lang/Object"))) ∈ xt := xt_of (List.mem_of_getElem? (i := 308) (by decide +kernel)) (by decide +kernel)
theorem mm_309 : Cond.classLink "java/util/Arrays" 110 "[Ljava/lang/Object;" ∈ xt := xt_of (List.mem_of_getElem? (i := 309) (by decide +kernel)) (by decide +kernel)
theorem mm_311 : Cond.classLink "java/util/Arrays" 2 "java/lang/Object" ∈ xt := xt_of (List.mem_of_getElem? (i := 311) (by decide +kernel)) (by decide +kernel)
theorem mm_312 : Cond.methodLink "java/util/Arrays" 304 ⟨"java/lang/Math", "min", "(II)I"⟩ ∈ xt := xt_of (List.mem_of_getElem? (i := 312) (by decide +kernel)) (by decide +kernel)
theorem mm_313 : Cond.static ⟨"java/lang/Math", "min", "(II)I"⟩ ∈ xt := xt_of (List.mem_of_getElem? (i := 313) (by decide +kernel)) (by decide +kernel)
theorem mm_314 : Cond.code ⟨"java/lang/Math", "min", "(II)I"⟩ prog_19_method_69_code 2 (some .int) ∈ xt := xt_of (List.mem_of_getElem? (i := 314) (by decide +kernel)) (by decide +kernel)
theorem mm_315 : Cond.methodLink "java/util/Arrays" 150 ⟨"java/lang/System", "arraycopy", "(Ljava/lang/Object;ILjava/lang/Object;II)V"⟩ ∈ xt := xt_of (List.mem_of_getElem? (i := 315) (by decide +kernel)) (by decide +kernel)
theorem mm_316 : Cond.static ⟨"java/lang/System", "arraycopy", "(Ljava/lang/Object;ILjava/lang/Object;II)V"⟩ ∈ xt := xt_of (List.mem_of_getElem? (i := 316) (by decide +kernel)) (by decide +kernel)
theorem mm_318 : Cond.methodLink "java/util/ArrayList" 79 ⟨"java/lang/Math", "max", "(II)I"⟩ ∈ xt := xt_of (List.mem_of_getElem? (i := 318) (by decide +kernel)) (by decide +kernel)
theorem mm_319 : Cond.classLink "java/util/ArrayList" 7 "java/lang/Object" ∈ xt := xt_of (List.mem_of_getElem? (i := 319) (by decide +kernel)) (by decide +kernel)
theorem mm_320 : Cond.methodLink "ShareKeeperLaw" 24 ⟨"ShareKeeper", "source", "(III)I"⟩ ∈ xt := xt_of (List.mem_of_getElem? (i := 320) (by decide +kernel)) (by decide +kernel)
theorem mm_321 : Cond.instanceMethod ⟨"ShareKeeper", "source", "(III)I"⟩ ∈ xt := xt_of (List.mem_of_getElem? (i := 321) (by decide +kernel)) (by decide +kernel)
theorem mm_322 : Cond.selects "ShareKeeper" ⟨"ShareKeeper", "source", "(III)I"⟩ ⟨"ShareKeeper", "source", "(III)I"⟩ ∈ xt := xt_of (List.mem_of_getElem? (i := 322) (by decide +kernel)) (by decide +kernel)
theorem mm_323 : Cond.code ⟨"ShareKeeper", "source", "(III)I"⟩ prog_1_method_3_code 6 (some .int) ∈ xt := xt_of (List.mem_of_getElem? (i := 323) (by decide +kernel)) (by decide +kernel)
theorem mm_324 : Cond.methodLink "ShareKeeper" 62 ⟨"ShareKeeper", "serviceAt", "(I)LShareKeeper$Service;"⟩ ∈ xt := xt_of (List.mem_of_getElem? (i := 324) (by decide +kernel)) (by decide +kernel)
theorem mm_326 : Cond.instanceMethod ⟨"ShareKeeper", "serviceAt", "(I)LShareKeeper$Service;"⟩ ∈ xt := xt_of (List.mem_of_getElem? (i := 326) (by decide +kernel)) (by decide +kernel)
theorem mm_327 : Cond.code ⟨"ShareKeeper", "serviceAt", "(I)LShareKeeper$Service;"⟩ prog_1_method_26_code 2 (some (.object "ShareKeeper$Service")) ∈ xt := xt_of (List.mem_of_getElem? (i := 327) (by decide +kernel)) (by decide +kernel)
theorem mm_329 : Cond.methodLink "ShareKeeper" 225 ⟨"java/util/List", "get", "(I)Ljava/lang/Object;"⟩ ∈ xt := xt_of (List.mem_of_getElem? (i := 329) (by decide +kernel)) (by decide +kernel)
theorem mm_332 : Cond.selects "java/util/ArrayList" ⟨"java/util/List", "get", "(I)Ljava/lang/Object;"⟩ ⟨"java/util/ArrayList", "get", "(I)Ljava/lang/Object;"⟩ ∈ xt := xt_of (List.mem_of_getElem? (i := 332) (by decide +kernel)) (by decide +kernel)
theorem mm_334 : Cond.instanceMethod ⟨"java/util/ArrayList", "get", "(I)Ljava/lang/Object;"⟩ ∈ xt := xt_of (List.mem_of_getElem? (i := 334) (by decide +kernel)) (by decide +kernel)
theorem mm_336 : Cond.code ⟨"java/util/ArrayList", "get", "(I)Ljava/lang/Object;"⟩ prog_25_method_20_code 2 (some (.object "java/lang/Object")) ∈ xt := xt_of (List.mem_of_getElem? (i := 336) (by decide +kernel)) (by decide +kernel)
theorem mm_337 : Cond.methodLink "java/util/ArrayList" 118 ⟨"java/util/Objects", "checkIndex", "(II)I"⟩ ∈ xt := xt_of (List.mem_of_getElem? (i := 337) (by decide +kernel)) (by decide +kernel)
theorem mm_338 : Cond.static ⟨"java/util/Objects", "checkIndex", "(II)I"⟩ ∈ xt := xt_of (List.mem_of_getElem? (i := 338) (by decide +kernel)) (by decide +kernel)
theorem mm_339 : Cond.code ⟨"java/util/Objects", "checkIndex", "(II)I"⟩ prog_30_method_17_code 2 (some .int) ∈ xt := xt_of (List.mem_of_getElem? (i := 339) (by decide +kernel)) (by decide +kernel)
theorem mm_340 : Cond.methodLink "java/util/Objects" 105 ⟨"jdk/internal/util/Preconditions", "checkIndex", "(IILjava/util/function/BiFunction;)I"⟩ ∈ xt := xt_of (List.mem_of_getElem? (i := 340) (by decide +kernel)) (by decide +kernel)
theorem mm_341 : Cond.static ⟨"jdk/internal/util/Preconditions", "checkIndex", "(IILjava/util/function/BiFunction;)I"⟩ ∈ xt := xt_of (List.mem_of_getElem? (i := 341) (by decide +kernel)) (by decide +kernel)
theorem mm_342 : Cond.code ⟨"jdk/internal/util/Preconditions", "checkIndex", "(IILjava/util/function/BiFunction;)I"⟩ prog_34_method_11_code 3 (some .int) ∈ xt := xt_of (List.mem_of_getElem? (i := 342) (by decide +kernel)) (by decide +kernel)
theorem mm_343 : Cond.methodLink "java/util/ArrayList" 123 ⟨"java/util/ArrayList", "elementData", "(I)Ljava/lang/Object;"⟩ ∈ xt := xt_of (List.mem_of_getElem? (i := 343) (by decide +kernel)) (by decide +kernel)
theorem mm_344 : Cond.instanceMethod ⟨"java/util/ArrayList", "elementData", "(I)Ljava/lang/Object;"⟩ ∈ xt := xt_of (List.mem_of_getElem? (i := 344) (by decide +kernel)) (by decide +kernel)
theorem mm_345 : Cond.selects "java/util/ArrayList" ⟨"java/util/ArrayList", "elementData", "(I)Ljava/lang/Object;"⟩ ⟨"java/util/ArrayList", "elementData", "(I)Ljava/lang/Object;"⟩ ∈ xt := xt_of (List.mem_of_getElem? (i := 345) (by decide +kernel)) (by decide +kernel)
theorem mm_346 : Cond.code ⟨"java/util/ArrayList", "elementData", "(I)Ljava/lang/Object;"⟩ prog_25_method_18_code 2 (some (.object "java/lang/Object")) ∈ xt := xt_of (List.mem_of_getElem? (i := 346) (by decide +kernel)) (by decide +kernel)
theorem mm_347 : Cond.methodLink "ShareKeeper" 66 ⟨"ShareKeeper", "within", "(III)Z"⟩ ∈ xt := xt_of (List.mem_of_getElem? (i := 347) (by decide +kernel)) (by decide +kernel)
theorem mm_348 : Cond.static ⟨"ShareKeeper", "within", "(III)Z"⟩ ∈ xt := xt_of (List.mem_of_getElem? (i := 348) (by decide +kernel)) (by decide +kernel)
theorem mm_349 : Cond.code ⟨"ShareKeeper", "within", "(III)Z"⟩ prog_1_method_24_code 3 (some .boolean) ∈ xt := xt_of (List.mem_of_getElem? (i := 349) (by decide +kernel)) (by decide +kernel)
theorem mm_350 : Cond.classLink "ShareKeeper" 70 "ShareKeeper$Source" ∈ xt := xt_of (List.mem_of_getElem? (i := 350) (by decide +kernel)) (by decide +kernel)
theorem mm_351 : Cond.instantiable "ShareKeeper$Source" 5 ∈ xt := xt_of (List.mem_of_getElem? (i := 351) (by decide +kernel)) (by decide +kernel)
theorem mm_352 : Cond.methodLink "ShareKeeper" 72 ⟨"ShareKeeper$Source", "<init>", "(LShareKeeper$Service;II)V"⟩ ∈ xt := xt_of (List.mem_of_getElem? (i := 352) (by decide +kernel)) (by decide +kernel)
theorem mm_353 : Cond.instanceMethod ⟨"ShareKeeper$Source", "<init>", "(LShareKeeper$Service;II)V"⟩ ∈ xt := xt_of (List.mem_of_getElem? (i := 353) (by decide +kernel)) (by decide +kernel)
theorem mm_354 : Cond.code ⟨"ShareKeeper$Source", "<init>", "(LShareKeeper$Service;II)V"⟩ prog_10_method_1_code 4 none ∈ xt := xt_of (List.mem_of_getElem? (i := 354) (by decide +kernel)) (by decide +kernel)
theorem mm_355 : Cond.methodLink "ShareKeeper$Source" 3 ⟨"java/lang/Object", "<init>", "()V"⟩ ∈ xt := xt_of (List.mem_of_getElem? (i := 355) (by decide +kernel)) (by decide +kernel)
theorem mm_356 : Cond.fieldLink "ShareKeeper$Source" 23 "ShareKeeper$Source" "late" "I" ∈ xt := xt_of (List.mem_of_getElem? (i := 356) (by decide +kernel)) (by decide +kernel)
theorem mm_357 : Cond.fieldLink "ShareKeeper$Service" 53 "ShareKeeper$Source" "late" "I" ∈ xt := xt_of (List.mem_of_getElem? (i := 357) (by decide +kernel)) (by decide +kernel)
theorem mm_358 : Cond.fieldLink "ShareKeeper$Source" 19 "ShareKeeper$Source" "service" "LShareKeeper$Service;" ∈ xt := xt_of (List.mem_of_getElem? (i := 358) (by decide +kernel)) (by decide +kernel)
theorem mm_359 : Cond.fieldLink "ShareKeeper$Source" 27 "ShareKeeper$Source" "most" "I" ∈ xt := xt_of (List.mem_of_getElem? (i := 359) (by decide +kernel)) (by decide +kernel)
theorem mm_360 : Cond.fieldLink "ShareKeeper$Source" 9 "ShareKeeper$Source" "came" "[I" ∈ xt := xt_of (List.mem_of_getElem? (i := 360) (by decide +kernel)) (by decide +kernel)
theorem mm_361 : Cond.fieldLink "ShareKeeper$Source" 15 "ShareKeeper$Source" "taken" "[Z" ∈ xt := xt_of (List.mem_of_getElem? (i := 361) (by decide +kernel)) (by decide +kernel)
theorem mm_373 : Cond.arrayClass .boolean ∈ xt := xt_of (List.mem_of_getElem? (i := 373) (by decide +kernel)) (by decide +kernel)
theorem mm_374 : Cond.methodLink "ShareKeeperLaw" 28 ⟨"ShareKeeper", "count", "(IIIII)I"⟩ ∈ xt := xt_of (List.mem_of_getElem? (i := 374) (by decide +kernel)) (by decide +kernel)
theorem mm_375 : Cond.instanceMethod ⟨"ShareKeeper", "count", "(IIIII)I"⟩ ∈ xt := xt_of (List.mem_of_getElem? (i := 375) (by decide +kernel)) (by decide +kernel)
theorem mm_376 : Cond.selects "ShareKeeper" ⟨"ShareKeeper", "count", "(IIIII)I"⟩ ⟨"ShareKeeper", "count", "(IIIII)I"⟩ ∈ xt := xt_of (List.mem_of_getElem? (i := 376) (by decide +kernel)) (by decide +kernel)
theorem mm_377 : Cond.code ⟨"ShareKeeper", "count", "(IIIII)I"⟩ prog_1_method_4_code 8 (some .int) ∈ xt := xt_of (List.mem_of_getElem? (i := 377) (by decide +kernel)) (by decide +kernel)
theorem mm_378 : Cond.methodLink "ShareKeeper" 76 ⟨"ShareKeeper", "sourceAt", "(I)LShareKeeper$Source;"⟩ ∈ xt := xt_of (List.mem_of_getElem? (i := 378) (by decide +kernel)) (by decide +kernel)
theorem mm_380 : Cond.instanceMethod ⟨"ShareKeeper", "sourceAt", "(I)LShareKeeper$Source;"⟩ ∈ xt := xt_of (List.mem_of_getElem? (i := 380) (by decide +kernel)) (by decide +kernel)
theorem mm_381 : Cond.code ⟨"ShareKeeper", "sourceAt", "(I)LShareKeeper$Source;"⟩ prog_1_method_27_code 2 (some (.object "ShareKeeper$Source")) ∈ xt := xt_of (List.mem_of_getElem? (i := 381) (by decide +kernel)) (by decide +kernel)
theorem mm_382 : Cond.methodLink "ShareKeeper" 84 ⟨"ShareKeeper$Source", "refusal", "(IIII)I"⟩ ∈ xt := xt_of (List.mem_of_getElem? (i := 382) (by decide +kernel)) (by decide +kernel)
theorem mm_383 : Cond.instanceMethod ⟨"ShareKeeper$Source", "refusal", "(IIII)I"⟩ ∈ xt := xt_of (List.mem_of_getElem? (i := 383) (by decide +kernel)) (by decide +kernel)
theorem mm_384 : Cond.selects "ShareKeeper$Source" ⟨"ShareKeeper$Source", "refusal", "(IIII)I"⟩ ⟨"ShareKeeper$Source", "refusal", "(IIII)I"⟩ ∈ xt := xt_of (List.mem_of_getElem? (i := 384) (by decide +kernel)) (by decide +kernel)
theorem mm_385 : Cond.code ⟨"ShareKeeper$Source", "refusal", "(IIII)I"⟩ prog_10_method_2_code 5 (some .int) ∈ xt := xt_of (List.mem_of_getElem? (i := 385) (by decide +kernel)) (by decide +kernel)
theorem mm_386 : Cond.methodLink "ShareKeeper$Source" 30 ⟨"ShareKeeper$Source", "isOpen", "(II)Z"⟩ ∈ xt := xt_of (List.mem_of_getElem? (i := 386) (by decide +kernel)) (by decide +kernel)
theorem mm_388 : Cond.instanceMethod ⟨"ShareKeeper$Source", "isOpen", "(II)Z"⟩ ∈ xt := xt_of (List.mem_of_getElem? (i := 388) (by decide +kernel)) (by decide +kernel)
theorem mm_389 : Cond.code ⟨"ShareKeeper$Source", "isOpen", "(II)Z"⟩ prog_10_method_5_code 3 (some .boolean) ∈ xt := xt_of (List.mem_of_getElem? (i := 389) (by decide +kernel)) (by decide +kernel)
theorem mm_390 : Cond.methodLink "ShareKeeper" 88 ⟨"ShareKeeper$Source", "take", "(IIII)V"⟩ ∈ xt := xt_of (List.mem_of_getElem? (i := 390) (by decide +kernel)) (by decide +kernel)
theorem mm_391 : Cond.instanceMethod ⟨"ShareKeeper$Source", "take", "(IIII)V"⟩ ∈ xt := xt_of (List.mem_of_getElem? (i := 391) (by decide +kernel)) (by decide +kernel)
theorem mm_392 : Cond.selects "ShareKeeper$Source" ⟨"ShareKeeper$Source", "take", "(IIII)V"⟩ ⟨"ShareKeeper$Source", "take", "(IIII)V"⟩ ∈ xt := xt_of (List.mem_of_getElem? (i := 392) (by decide +kernel)) (by decide +kernel)
theorem mm_393 : Cond.code ⟨"ShareKeeper$Source", "take", "(IIII)V"⟩ prog_10_method_3_code 5 none ∈ xt := xt_of (List.mem_of_getElem? (i := 393) (by decide +kernel)) (by decide +kernel)
theorem mm_394 : Cond.methodLink "ShareKeeper$Source" 34 ⟨"ShareKeeper$Service", "add", "(III)V"⟩ ∈ xt := xt_of (List.mem_of_getElem? (i := 394) (by decide +kernel)) (by decide +kernel)
theorem mm_395 : Cond.instanceMethod ⟨"ShareKeeper$Service", "add", "(III)V"⟩ ∈ xt := xt_of (List.mem_of_getElem? (i := 395) (by decide +kernel)) (by decide +kernel)
theorem mm_396 : Cond.selects "ShareKeeper$Service" ⟨"ShareKeeper$Service", "add", "(III)V"⟩ ⟨"ShareKeeper$Service", "add", "(III)V"⟩ ∈ xt := xt_of (List.mem_of_getElem? (i := 396) (by decide +kernel)) (by decide +kernel)
theorem mm_397 : Cond.code ⟨"ShareKeeper$Service", "add", "(III)V"⟩ prog_9_method_2_code 4 none ∈ xt := xt_of (List.mem_of_getElem? (i := 397) (by decide +kernel)) (by decide +kernel)
theorem mm_398 : Cond.methodLink "ShareKeeperLaw" 33 ⟨"ShareKeeper", "ticks", "(I)I"⟩ ∈ xt := xt_of (List.mem_of_getElem? (i := 398) (by decide +kernel)) (by decide +kernel)
theorem mm_399 : Cond.instanceMethod ⟨"ShareKeeper", "ticks", "(I)I"⟩ ∈ xt := xt_of (List.mem_of_getElem? (i := 399) (by decide +kernel)) (by decide +kernel)
theorem mm_400 : Cond.selects "ShareKeeper" ⟨"ShareKeeper", "ticks", "(I)I"⟩ ⟨"ShareKeeper", "ticks", "(I)I"⟩ ∈ xt := xt_of (List.mem_of_getElem? (i := 400) (by decide +kernel)) (by decide +kernel)
theorem mm_401 : Cond.code ⟨"ShareKeeper", "ticks", "(I)I"⟩ prog_1_method_5_code 2 (some .int) ∈ xt := xt_of (List.mem_of_getElem? (i := 401) (by decide +kernel)) (by decide +kernel)
theorem mm_402 : Cond.methodLink "ShareKeeperLaw" 38 ⟨"ShareKeeper", "promise", "(IIIZ)I"⟩ ∈ xt := xt_of (List.mem_of_getElem? (i := 402) (by decide +kernel)) (by decide +kernel)
theorem mm_403 : Cond.instanceMethod ⟨"ShareKeeper", "promise", "(IIIZ)I"⟩ ∈ xt := xt_of (List.mem_of_getElem? (i := 403) (by decide +kernel)) (by decide +kernel)
theorem mm_404 : Cond.selects "ShareKeeper" ⟨"ShareKeeper", "promise", "(IIIZ)I"⟩ ⟨"ShareKeeper", "promise", "(IIIZ)I"⟩ ∈ xt := xt_of (List.mem_of_getElem? (i := 404) (by decide +kernel)) (by decide +kernel)
theorem mm_405 : Cond.code ⟨"ShareKeeper", "promise", "(IIIZ)I"⟩ prog_1_method_6_code 6 (some .int) ∈ xt := xt_of (List.mem_of_getElem? (i := 405) (by decide +kernel)) (by decide +kernel)
theorem mm_406 : Cond.classLink "ShareKeeper" 98 "ShareKeeper$Promise" ∈ xt := xt_of (List.mem_of_getElem? (i := 406) (by decide +kernel)) (by decide +kernel)
theorem mm_407 : Cond.instantiable "ShareKeeper$Promise" 6 ∈ xt := xt_of (List.mem_of_getElem? (i := 407) (by decide +kernel)) (by decide +kernel)
theorem mm_408 : Cond.methodLink "ShareKeeper" 100 ⟨"ShareKeeper$Promise", "<init>", "(LShareKeeper$Service;IIZ)V"⟩ ∈ xt := xt_of (List.mem_of_getElem? (i := 408) (by decide +kernel)) (by decide +kernel)
theorem mm_409 : Cond.instanceMethod ⟨"ShareKeeper$Promise", "<init>", "(LShareKeeper$Service;IIZ)V"⟩ ∈ xt := xt_of (List.mem_of_getElem? (i := 409) (by decide +kernel)) (by decide +kernel)
theorem mm_410 : Cond.code ⟨"ShareKeeper$Promise", "<init>", "(LShareKeeper$Service;IIZ)V"⟩ prog_8_method_1_code 5 none ∈ xt := xt_of (List.mem_of_getElem? (i := 410) (by decide +kernel)) (by decide +kernel)
theorem mm_411 : Cond.methodLink "ShareKeeper$Promise" 3 ⟨"java/lang/Object", "<init>", "()V"⟩ ∈ xt := xt_of (List.mem_of_getElem? (i := 411) (by decide +kernel)) (by decide +kernel)
theorem mm_412 : Cond.fieldLink "ShareKeeper$Promise" 15 "ShareKeeper$Promise" "service" "LShareKeeper$Service;" ∈ xt := xt_of (List.mem_of_getElem? (i := 412) (by decide +kernel)) (by decide +kernel)
theorem mm_413 : Cond.fieldLink "ShareKeeper$AlarmSearch" 37 "ShareKeeper$Promise" "service" "LShareKeeper$Service;" ∈ xt := xt_of (List.mem_of_getElem? (i := 413) (by decide +kernel)) (by decide +kernel)
theorem mm_414 : Cond.fieldLink "ShareKeeper" 180 "ShareKeeper$Promise" "service" "LShareKeeper$Service;" ∈ xt := xt_of (List.mem_of_getElem? (i := 414) (by decide +kernel)) (by decide +kernel)
theorem mm_415 : Cond.fieldLink "ShareKeeper$Promise" 19 "ShareKeeper$Promise" "width" "I" ∈ xt := xt_of (List.mem_of_getElem? (i := 415) (by decide +kernel)) (by decide +kernel)
theorem mm_416 : Cond.fieldLink "ShareKeeper$Promise" 23 "ShareKeeper$Promise" "share" "I" ∈ xt := xt_of (List.mem_of_getElem? (i := 416) (by decide +kernel)) (by decide +kernel)
theorem mm_417 : Cond.fieldLink "ShareKeeper$Promise" 26 "ShareKeeper$Promise" "fixed" "Z" ∈ xt := xt_of (List.mem_of_getElem? (i := 417) (by decide +kernel)) (by decide +kernel)
theorem mm_418 : Cond.fieldLink "ShareKeeper$Promise" 9 "ShareKeeper$Promise" "leftOut" "[Z" ∈ xt := xt_of (List.mem_of_getElem? (i := 418) (by decide +kernel)) (by decide +kernel)
theorem mm_419 : Cond.fieldLink "ShareKeeper$Promise" 30 "ShareKeeper$Promise" "graceRows" "I" ∈ xt := xt_of (List.mem_of_getElem? (i := 419) (by decide +kernel)) (by decide +kernel)
theorem mm_433 : Cond.methodLink "ShareKeeperLaw" 43 ⟨"ShareKeeper", "grace", "(III)Z"⟩ ∈ xt := xt_of (List.mem_of_getElem? (i := 433) (by decide +kernel)) (by decide +kernel)
theorem mm_434 : Cond.instanceMethod ⟨"ShareKeeper", "grace", "(III)Z"⟩ ∈ xt := xt_of (List.mem_of_getElem? (i := 434) (by decide +kernel)) (by decide +kernel)
theorem mm_435 : Cond.selects "ShareKeeper" ⟨"ShareKeeper", "grace", "(III)Z"⟩ ⟨"ShareKeeper", "grace", "(III)Z"⟩ ∈ xt := xt_of (List.mem_of_getElem? (i := 435) (by decide +kernel)) (by decide +kernel)
theorem mm_436 : Cond.code ⟨"ShareKeeper", "grace", "(III)Z"⟩ prog_1_method_7_code 5 (some .boolean) ∈ xt := xt_of (List.mem_of_getElem? (i := 436) (by decide +kernel)) (by decide +kernel)
theorem mm_437 : Cond.methodLink "ShareKeeper" 103 ⟨"ShareKeeper", "promiseAt", "(I)LShareKeeper$Promise;"⟩ ∈ xt := xt_of (List.mem_of_getElem? (i := 437) (by decide +kernel)) (by decide +kernel)
theorem mm_439 : Cond.instanceMethod ⟨"ShareKeeper", "promiseAt", "(I)LShareKeeper$Promise;"⟩ ∈ xt := xt_of (List.mem_of_getElem? (i := 439) (by decide +kernel)) (by decide +kernel)
theorem mm_440 : Cond.code ⟨"ShareKeeper", "promiseAt", "(I)LShareKeeper$Promise;"⟩ prog_1_method_28_code 2 (some (.object "ShareKeeper$Promise")) ∈ xt := xt_of (List.mem_of_getElem? (i := 440) (by decide +kernel)) (by decide +kernel)
theorem mm_441 : Cond.methodLink "ShareKeeper" 107 ⟨"ShareKeeper$Promise", "leaveOut", "(II)Z"⟩ ∈ xt := xt_of (List.mem_of_getElem? (i := 441) (by decide +kernel)) (by decide +kernel)
theorem mm_442 : Cond.instanceMethod ⟨"ShareKeeper$Promise", "leaveOut", "(II)Z"⟩ ∈ xt := xt_of (List.mem_of_getElem? (i := 442) (by decide +kernel)) (by decide +kernel)
theorem mm_443 : Cond.selects "ShareKeeper$Promise" ⟨"ShareKeeper$Promise", "leaveOut", "(II)Z"⟩ ⟨"ShareKeeper$Promise", "leaveOut", "(II)Z"⟩ ∈ xt := xt_of (List.mem_of_getElem? (i := 443) (by decide +kernel)) (by decide +kernel)
theorem mm_444 : Cond.code ⟨"ShareKeeper$Promise", "leaveOut", "(II)Z"⟩ prog_8_method_2_code 4 (some .boolean) ∈ xt := xt_of (List.mem_of_getElem? (i := 444) (by decide +kernel)) (by decide +kernel)
theorem mm_445 : Cond.methodLink "ShareKeeper$Promise" 33 ⟨"java/lang/Math", "max", "(II)I"⟩ ∈ xt := xt_of (List.mem_of_getElem? (i := 445) (by decide +kernel)) (by decide +kernel)
theorem mm_446 : Cond.methodLink "ShareKeeperLaw" 48 ⟨"ShareKeeper", "sum", "(IIII)I"⟩ ∈ xt := xt_of (List.mem_of_getElem? (i := 446) (by decide +kernel)) (by decide +kernel)
theorem mm_447 : Cond.instanceMethod ⟨"ShareKeeper", "sum", "(IIII)I"⟩ ∈ xt := xt_of (List.mem_of_getElem? (i := 447) (by decide +kernel)) (by decide +kernel)
theorem mm_448 : Cond.selects "ShareKeeper" ⟨"ShareKeeper", "sum", "(IIII)I"⟩ ⟨"ShareKeeper", "sum", "(IIII)I"⟩ ∈ xt := xt_of (List.mem_of_getElem? (i := 448) (by decide +kernel)) (by decide +kernel)
theorem mm_449 : Cond.code ⟨"ShareKeeper", "sum", "(IIII)I"⟩ prog_1_method_8_code 6 (some .int) ∈ xt := xt_of (List.mem_of_getElem? (i := 449) (by decide +kernel)) (by decide +kernel)
theorem mm_450 : Cond.methodLink "ShareKeeper" 111 ⟨"ShareKeeper$Service", "asksIn", "(II)I"⟩ ∈ xt := xt_of (List.mem_of_getElem? (i := 450) (by decide +kernel)) (by decide +kernel)
theorem mm_451 : Cond.instanceMethod ⟨"ShareKeeper$Service", "asksIn", "(II)I"⟩ ∈ xt := xt_of (List.mem_of_getElem? (i := 451) (by decide +kernel)) (by decide +kernel)
theorem mm_452 : Cond.selects "ShareKeeper$Service" ⟨"ShareKeeper$Service", "asksIn", "(II)I"⟩ ⟨"ShareKeeper$Service", "asksIn", "(II)I"⟩ ∈ xt := xt_of (List.mem_of_getElem? (i := 452) (by decide +kernel)) (by decide +kernel)
theorem mm_453 : Cond.code ⟨"ShareKeeper$Service", "asksIn", "(II)I"⟩ prog_9_method_3_code 3 (some .int) ∈ xt := xt_of (List.mem_of_getElem? (i := 453) (by decide +kernel)) (by decide +kernel)
theorem mm_454 : Cond.methodLink "ShareKeeper$Service" 25 ⟨"ShareKeeper$Service", "total", "([III)I"⟩ ∈ xt := xt_of (List.mem_of_getElem? (i := 454) (by decide +kernel)) (by decide +kernel)
theorem mm_455 : Cond.static ⟨"ShareKeeper$Service", "total", "([III)I"⟩ ∈ xt := xt_of (List.mem_of_getElem? (i := 455) (by decide +kernel)) (by decide +kernel)
theorem mm_456 : Cond.code ⟨"ShareKeeper$Service", "total", "([III)I"⟩ prog_9_method_10_code 5 (some .int) ∈ xt := xt_of (List.mem_of_getElem? (i := 456) (by decide +kernel)) (by decide +kernel)
theorem mm_457 : Cond.methodLink "ShareKeeper$Service" 29 ⟨"java/lang/Math", "max", "(II)I"⟩ ∈ xt := xt_of (List.mem_of_getElem? (i := 457) (by decide +kernel)) (by decide +kernel)
theorem mm_458 : Cond.methodLink "ShareKeeper" 115 ⟨"ShareKeeper$Service", "badIn", "(II)I"⟩ ∈ xt := xt_of (List.mem_of_getElem? (i := 458) (by decide +kernel)) (by decide +kernel)
theorem mm_459 : Cond.instanceMethod ⟨"ShareKeeper$Service", "badIn", "(II)I"⟩ ∈ xt := xt_of (List.mem_of_getElem? (i := 459) (by decide +kernel)) (by decide +kernel)
theorem mm_460 : Cond.selects "ShareKeeper$Service" ⟨"ShareKeeper$Service", "badIn", "(II)I"⟩ ⟨"ShareKeeper$Service", "badIn", "(II)I"⟩ ∈ xt := xt_of (List.mem_of_getElem? (i := 460) (by decide +kernel)) (by decide +kernel)
theorem mm_461 : Cond.code ⟨"ShareKeeper$Service", "badIn", "(II)I"⟩ prog_9_method_4_code 3 (some .int) ∈ xt := xt_of (List.mem_of_getElem? (i := 461) (by decide +kernel)) (by decide +kernel)
theorem mm_462 : Cond.methodLink "ShareKeeper" 118 ⟨"ShareKeeper$Service", "toComeIn", "(III)I"⟩ ∈ xt := xt_of (List.mem_of_getElem? (i := 462) (by decide +kernel)) (by decide +kernel)
theorem mm_463 : Cond.instanceMethod ⟨"ShareKeeper$Service", "toComeIn", "(III)I"⟩ ∈ xt := xt_of (List.mem_of_getElem? (i := 463) (by decide +kernel)) (by decide +kernel)
theorem mm_464 : Cond.selects "ShareKeeper$Service" ⟨"ShareKeeper$Service", "toComeIn", "(III)I"⟩ ⟨"ShareKeeper$Service", "toComeIn", "(III)I"⟩ ∈ xt := xt_of (List.mem_of_getElem? (i := 464) (by decide +kernel)) (by decide +kernel)
theorem mm_465 : Cond.code ⟨"ShareKeeper$Service", "toComeIn", "(III)I"⟩ prog_9_method_7_code 6 (some .int) ∈ xt := xt_of (List.mem_of_getElem? (i := 465) (by decide +kernel)) (by decide +kernel)
theorem mm_466 : Cond.methodLink "ShareKeeper$Service" 35 ⟨"ShareKeeper$Service", "toComeAt", "(II)I"⟩ ∈ xt := xt_of (List.mem_of_getElem? (i := 466) (by decide +kernel)) (by decide +kernel)
theorem mm_467 : Cond.instanceMethod ⟨"ShareKeeper$Service", "toComeAt", "(II)I"⟩ ∈ xt := xt_of (List.mem_of_getElem? (i := 467) (by decide +kernel)) (by decide +kernel)
theorem mm_468 : Cond.selects "ShareKeeper$Service" ⟨"ShareKeeper$Service", "toComeAt", "(II)I"⟩ ⟨"ShareKeeper$Service", "toComeAt", "(II)I"⟩ ∈ xt := xt_of (List.mem_of_getElem? (i := 468) (by decide +kernel)) (by decide +kernel)
theorem mm_469 : Cond.code ⟨"ShareKeeper$Service", "toComeAt", "(II)I"⟩ prog_9_method_8_code 5 (some .int) ∈ xt := xt_of (List.mem_of_getElem? (i := 469) (by decide +kernel)) (by decide +kernel)
theorem mm_471 : Cond.methodLink "ShareKeeper$Service" 38 ⟨"java/util/List", "size", "()I"⟩ ∈ xt := xt_of (List.mem_of_getElem? (i := 471) (by decide +kernel)) (by decide +kernel)
theorem mm_473 : Cond.methodLink "ShareKeeper$Service" 44 ⟨"java/util/List", "get", "(I)Ljava/lang/Object;"⟩ ∈ xt := xt_of (List.mem_of_getElem? (i := 473) (by decide +kernel)) (by decide +kernel)
theorem mm_474 : Cond.classLink "ShareKeeper$Service" 48 "ShareKeeper$Source" ∈ xt := xt_of (List.mem_of_getElem? (i := 474) (by decide +kernel)) (by decide +kernel)
theorem mm_475 : Cond.methodLink "ShareKeeper$Service" 50 ⟨"ShareKeeper$Source", "toCome", "(II)I"⟩ ∈ xt := xt_of (List.mem_of_getElem? (i := 475) (by decide +kernel)) (by decide +kernel)
theorem mm_476 : Cond.instanceMethod ⟨"ShareKeeper$Source", "toCome", "(II)I"⟩ ∈ xt := xt_of (List.mem_of_getElem? (i := 476) (by decide +kernel)) (by decide +kernel)
theorem mm_477 : Cond.selects "ShareKeeper$Source" ⟨"ShareKeeper$Source", "toCome", "(II)I"⟩ ⟨"ShareKeeper$Source", "toCome", "(II)I"⟩ ∈ xt := xt_of (List.mem_of_getElem? (i := 477) (by decide +kernel)) (by decide +kernel)
theorem mm_478 : Cond.code ⟨"ShareKeeper$Source", "toCome", "(II)I"⟩ prog_10_method_4_code 3 (some .int) ∈ xt := xt_of (List.mem_of_getElem? (i := 478) (by decide +kernel)) (by decide +kernel)
theorem mm_479 : Cond.methodLink "ShareKeeperLaw" 62 ⟨"ShareKeeper", "broken", "(II)I"⟩ ∈ xt := xt_of (List.mem_of_getElem? (i := 479) (by decide +kernel)) (by decide +kernel)
theorem mm_480 : Cond.instanceMethod ⟨"ShareKeeper", "broken", "(II)I"⟩ ∈ xt := xt_of (List.mem_of_getElem? (i := 480) (by decide +kernel)) (by decide +kernel)
theorem mm_481 : Cond.selects "ShareKeeper" ⟨"ShareKeeper", "broken", "(II)I"⟩ ⟨"ShareKeeper", "broken", "(II)I"⟩ ∈ xt := xt_of (List.mem_of_getElem? (i := 481) (by decide +kernel)) (by decide +kernel)
theorem mm_482 : Cond.code ⟨"ShareKeeper", "broken", "(II)I"⟩ prog_1_method_10_code 4 (some .int) ∈ xt := xt_of (List.mem_of_getElem? (i := 482) (by decide +kernel)) (by decide +kernel)
theorem mm_483 : Cond.methodLink "ShareKeeper" 147 ⟨"ShareKeeper$Promise", "firstBroken", "(I)I"⟩ ∈ xt := xt_of (List.mem_of_getElem? (i := 483) (by decide +kernel)) (by decide +kernel)
theorem mm_484 : Cond.instanceMethod ⟨"ShareKeeper$Promise", "firstBroken", "(I)I"⟩ ∈ xt := xt_of (List.mem_of_getElem? (i := 484) (by decide +kernel)) (by decide +kernel)
theorem mm_485 : Cond.selects "ShareKeeper$Promise" ⟨"ShareKeeper$Promise", "firstBroken", "(I)I"⟩ ⟨"ShareKeeper$Promise", "firstBroken", "(I)I"⟩ ∈ xt := xt_of (List.mem_of_getElem? (i := 485) (by decide +kernel)) (by decide +kernel)
theorem mm_486 : Cond.code ⟨"ShareKeeper$Promise", "firstBroken", "(I)I"⟩ prog_8_method_11_code 9 (some .int) ∈ xt := xt_of (List.mem_of_getElem? (i := 486) (by decide +kernel)) (by decide +kernel)
theorem mm_487 : Cond.methodLink "ShareKeeper$Promise" 43 ⟨"ShareKeeper$Promise", "firstOfSpan", "(I)I"⟩ ∈ xt := xt_of (List.mem_of_getElem? (i := 487) (by decide +kernel)) (by decide +kernel)
theorem mm_489 : Cond.instanceMethod ⟨"ShareKeeper$Promise", "firstOfSpan", "(I)I"⟩ ∈ xt := xt_of (List.mem_of_getElem? (i := 489) (by decide +kernel)) (by decide +kernel)
theorem mm_490 : Cond.code ⟨"ShareKeeper$Promise", "firstOfSpan", "(I)I"⟩ prog_8_method_12_code 2 (some .int) ∈ xt := xt_of (List.mem_of_getElem? (i := 490) (by decide +kernel)) (by decide +kernel)
theorem mm_491 : Cond.methodLink "ShareKeeper$Promise" 39 ⟨"ShareKeeper$Promise", "lastOfSpan", "(I)I"⟩ ∈ xt := xt_of (List.mem_of_getElem? (i := 491) (by decide +kernel)) (by decide +kernel)
theorem mm_493 : Cond.instanceMethod ⟨"ShareKeeper$Promise", "lastOfSpan", "(I)I"⟩ ∈ xt := xt_of (List.mem_of_getElem? (i := 493) (by decide +kernel)) (by decide +kernel)
theorem mm_494 : Cond.code ⟨"ShareKeeper$Promise", "lastOfSpan", "(I)I"⟩ prog_8_method_13_code 2 (some .int) ∈ xt := xt_of (List.mem_of_getElem? (i := 494) (by decide +kernel)) (by decide +kernel)
theorem mm_495 : Cond.methodLink "ShareKeeper$Promise" 90 ⟨"java/lang/Math", "min", "(II)I"⟩ ∈ xt := xt_of (List.mem_of_getElem? (i := 495) (by decide +kernel)) (by decide +kernel)
theorem mm_496 : Cond.methodLink "ShareKeeper$Promise" 46 ⟨"ShareKeeper$Promise", "asksAt", "(I)I"⟩ ∈ xt := xt_of (List.mem_of_getElem? (i := 496) (by decide +kernel)) (by decide +kernel)
theorem mm_498 : Cond.instanceMethod ⟨"ShareKeeper$Promise", "asksAt", "(I)I"⟩ ∈ xt := xt_of (List.mem_of_getElem? (i := 498) (by decide +kernel)) (by decide +kernel)
theorem mm_499 : Cond.code ⟨"ShareKeeper$Promise", "asksAt", "(I)I"⟩ prog_8_method_15_code 2 (some .int) ∈ xt := xt_of (List.mem_of_getElem? (i := 499) (by decide +kernel)) (by decide +kernel)
theorem mm_500 : Cond.methodLink "ShareKeeper$Promise" 82 ⟨"ShareKeeper$Promise", "isIn", "(I)Z"⟩ ∈ xt := xt_of (List.mem_of_getElem? (i := 500) (by decide +kernel)) (by decide +kernel)
theorem mm_502 : Cond.instanceMethod ⟨"ShareKeeper$Promise", "isIn", "(I)Z"⟩ ∈ xt := xt_of (List.mem_of_getElem? (i := 502) (by decide +kernel)) (by decide +kernel)
theorem mm_503 : Cond.code ⟨"ShareKeeper$Promise", "isIn", "(I)Z"⟩ prog_8_method_14_code 2 (some .boolean) ∈ xt := xt_of (List.mem_of_getElem? (i := 503) (by decide +kernel)) (by decide +kernel)
theorem mm_504 : Cond.methodLink "ShareKeeper$Promise" 93 ⟨"ShareKeeper$Service", "asksAt", "(I)I"⟩ ∈ xt := xt_of (List.mem_of_getElem? (i := 504) (by decide +kernel)) (by decide +kernel)
theorem mm_505 : Cond.instanceMethod ⟨"ShareKeeper$Service", "asksAt", "(I)I"⟩ ∈ xt := xt_of (List.mem_of_getElem? (i := 505) (by decide +kernel)) (by decide +kernel)
theorem mm_506 : Cond.selects "ShareKeeper$Service" ⟨"ShareKeeper$Service", "asksAt", "(I)I"⟩ ⟨"ShareKeeper$Service", "asksAt", "(I)I"⟩ ∈ xt := xt_of (List.mem_of_getElem? (i := 506) (by decide +kernel)) (by decide +kernel)
theorem mm_507 : Cond.code ⟨"ShareKeeper$Service", "asksAt", "(I)I"⟩ prog_9_method_5_code 2 (some .int) ∈ xt := xt_of (List.mem_of_getElem? (i := 507) (by decide +kernel)) (by decide +kernel)
theorem mm_508 : Cond.methodLink "ShareKeeper$Promise" 49 ⟨"ShareKeeper$Promise", "badAt", "(I)I"⟩ ∈ xt := xt_of (List.mem_of_getElem? (i := 508) (by decide +kernel)) (by decide +kernel)
theorem mm_510 : Cond.instanceMethod ⟨"ShareKeeper$Promise", "badAt", "(I)I"⟩ ∈ xt := xt_of (List.mem_of_getElem? (i := 510) (by decide +kernel)) (by decide +kernel)
theorem mm_511 : Cond.code ⟨"ShareKeeper$Promise", "badAt", "(I)I"⟩ prog_8_method_16_code 2 (some .int) ∈ xt := xt_of (List.mem_of_getElem? (i := 511) (by decide +kernel)) (by decide +kernel)
theorem mm_512 : Cond.methodLink "ShareKeeper$Promise" 94 ⟨"ShareKeeper$Service", "badAt", "(I)I"⟩ ∈ xt := xt_of (List.mem_of_getElem? (i := 512) (by decide +kernel)) (by decide +kernel)
theorem mm_513 : Cond.instanceMethod ⟨"ShareKeeper$Service", "badAt", "(I)I"⟩ ∈ xt := xt_of (List.mem_of_getElem? (i := 513) (by decide +kernel)) (by decide +kernel)
theorem mm_514 : Cond.selects "ShareKeeper$Service" ⟨"ShareKeeper$Service", "badAt", "(I)I"⟩ ⟨"ShareKeeper$Service", "badAt", "(I)I"⟩ ∈ xt := xt_of (List.mem_of_getElem? (i := 514) (by decide +kernel)) (by decide +kernel)
theorem mm_515 : Cond.code ⟨"ShareKeeper$Service", "badAt", "(I)I"⟩ prog_9_method_6_code 2 (some .int) ∈ xt := xt_of (List.mem_of_getElem? (i := 515) (by decide +kernel)) (by decide +kernel)
theorem mm_516 : Cond.methodLink "ShareKeeper$Promise" 58 ⟨"ShareKeeper$Promise", "leftOf", "(II)I"⟩ ∈ xt := xt_of (List.mem_of_getElem? (i := 516) (by decide +kernel)) (by decide +kernel)
theorem mm_518 : Cond.instanceMethod ⟨"ShareKeeper$Promise", "leftOf", "(II)I"⟩ ∈ xt := xt_of (List.mem_of_getElem? (i := 518) (by decide +kernel)) (by decide +kernel)
theorem mm_519 : Cond.code ⟨"ShareKeeper$Promise", "leftOf", "(II)I"⟩ prog_8_method_18_code 3 (some .int) ∈ xt := xt_of (List.mem_of_getElem? (i := 519) (by decide +kernel)) (by decide +kernel)
theorem mm_520 : Cond.methodLink "ShareKeeper$Promise" 98 ⟨"ShareKeeper$Promise", "slack", "()I"⟩ ∈ xt := xt_of (List.mem_of_getElem? (i := 520) (by decide +kernel)) (by decide +kernel)
theorem mm_521 : Cond.instanceMethod ⟨"ShareKeeper$Promise", "slack", "()I"⟩ ∈ xt := xt_of (List.mem_of_getElem? (i := 521) (by decide +kernel)) (by decide +kernel)
theorem mm_522 : Cond.selects "ShareKeeper$Promise" ⟨"ShareKeeper$Promise", "slack", "()I"⟩ ⟨"ShareKeeper$Promise", "slack", "()I"⟩ ∈ xt := xt_of (List.mem_of_getElem? (i := 522) (by decide +kernel)) (by decide +kernel)
theorem mm_523 : Cond.code ⟨"ShareKeeper$Promise", "slack", "()I"⟩ prog_8_method_3_code 1 (some .int) ∈ xt := xt_of (List.mem_of_getElem? (i := 523) (by decide +kernel)) (by decide +kernel)
theorem mm_524 : Cond.constantLong "ShareKeeper$Promise" 101 (1000) ∈ xt := xt_of (List.mem_of_getElem? (i := 524) (by decide +kernel)) (by decide +kernel)
theorem mm_525 : Cond.methodLink "ShareKeeperLaw" 67 ⟨"ShareKeeper", "part", "(I)I"⟩ ∈ xt := xt_of (List.mem_of_getElem? (i := 525) (by decide +kernel)) (by decide +kernel)
theorem mm_526 : Cond.instanceMethod ⟨"ShareKeeper", "part", "(I)I"⟩ ∈ xt := xt_of (List.mem_of_getElem? (i := 526) (by decide +kernel)) (by decide +kernel)
theorem mm_527 : Cond.selects "ShareKeeper" ⟨"ShareKeeper", "part", "(I)I"⟩ ⟨"ShareKeeper", "part", "(I)I"⟩ ∈ xt := xt_of (List.mem_of_getElem? (i := 527) (by decide +kernel)) (by decide +kernel)
theorem mm_528 : Cond.code ⟨"ShareKeeper", "part", "(I)I"⟩ prog_1_method_11_code 2 (some .int) ∈ xt := xt_of (List.mem_of_getElem? (i := 528) (by decide +kernel)) (by decide +kernel)
theorem mm_529 : Cond.constant "ShareKeeper" 150 (100000) ∈ xt := xt_of (List.mem_of_getElem? (i := 529) (by decide +kernel)) (by decide +kernel)
theorem mm_530 : Cond.methodLink "ShareKeeper" 151 ⟨"ShareKeeper$Parts", "add", "(I)I"⟩ ∈ xt := xt_of (List.mem_of_getElem? (i := 530) (by decide +kernel)) (by decide +kernel)
theorem mm_531 : Cond.instanceMethod ⟨"ShareKeeper$Parts", "add", "(I)I"⟩ ∈ xt := xt_of (List.mem_of_getElem? (i := 531) (by decide +kernel)) (by decide +kernel)
theorem mm_532 : Cond.selects "ShareKeeper$Parts" ⟨"ShareKeeper$Parts", "add", "(I)I"⟩ ⟨"ShareKeeper$Parts", "add", "(I)I"⟩ ∈ xt := xt_of (List.mem_of_getElem? (i := 532) (by decide +kernel)) (by decide +kernel)
theorem mm_533 : Cond.code ⟨"ShareKeeper$Parts", "add", "(I)I"⟩ prog_6_method_4_code 2 (some .int) ∈ xt := xt_of (List.mem_of_getElem? (i := 533) (by decide +kernel)) (by decide +kernel)
theorem mm_534 : Cond.methodLink "ShareKeeperLaw" 71 ⟨"ShareKeeper", "made", "(III)I"⟩ ∈ xt := xt_of (List.mem_of_getElem? (i := 534) (by decide +kernel)) (by decide +kernel)
theorem mm_535 : Cond.instanceMethod ⟨"ShareKeeper", "made", "(III)I"⟩ ∈ xt := xt_of (List.mem_of_getElem? (i := 535) (by decide +kernel)) (by decide +kernel)
theorem mm_536 : Cond.selects "ShareKeeper" ⟨"ShareKeeper", "made", "(III)I"⟩ ⟨"ShareKeeper", "made", "(III)I"⟩ ∈ xt := xt_of (List.mem_of_getElem? (i := 536) (by decide +kernel)) (by decide +kernel)
theorem mm_537 : Cond.code ⟨"ShareKeeper", "made", "(III)I"⟩ prog_1_method_12_code 5 (some .int) ∈ xt := xt_of (List.mem_of_getElem? (i := 537) (by decide +kernel)) (by decide +kernel)
theorem mm_538 : Cond.methodLink "ShareKeeper" 153 ⟨"ShareKeeper$Parts", "size", "()I"⟩ ∈ xt := xt_of (List.mem_of_getElem? (i := 538) (by decide +kernel)) (by decide +kernel)
theorem mm_539 : Cond.instanceMethod ⟨"ShareKeeper$Parts", "size", "()I"⟩ ∈ xt := xt_of (List.mem_of_getElem? (i := 539) (by decide +kernel)) (by decide +kernel)
theorem mm_540 : Cond.selects "ShareKeeper$Parts" ⟨"ShareKeeper$Parts", "size", "()I"⟩ ⟨"ShareKeeper$Parts", "size", "()I"⟩ ∈ xt := xt_of (List.mem_of_getElem? (i := 540) (by decide +kernel)) (by decide +kernel)
theorem mm_541 : Cond.code ⟨"ShareKeeper$Parts", "size", "()I"⟩ prog_6_method_2_code 1 (some .int) ∈ xt := xt_of (List.mem_of_getElem? (i := 541) (by decide +kernel)) (by decide +kernel)
theorem mm_542 : Cond.methodLink "ShareKeeper" 154 ⟨"ShareKeeper$Parts", "fitInto", "(I)Z"⟩ ∈ xt := xt_of (List.mem_of_getElem? (i := 542) (by decide +kernel)) (by decide +kernel)
theorem mm_543 : Cond.instanceMethod ⟨"ShareKeeper$Parts", "fitInto", "(I)Z"⟩ ∈ xt := xt_of (List.mem_of_getElem? (i := 543) (by decide +kernel)) (by decide +kernel)
theorem mm_544 : Cond.selects "ShareKeeper$Parts" ⟨"ShareKeeper$Parts", "fitInto", "(I)Z"⟩ ⟨"ShareKeeper$Parts", "fitInto", "(I)Z"⟩ ∈ xt := xt_of (List.mem_of_getElem? (i := 544) (by decide +kernel)) (by decide +kernel)
theorem mm_545 : Cond.code ⟨"ShareKeeper$Parts", "fitInto", "(I)Z"⟩ prog_6_method_5_code 3 (some .boolean) ∈ xt := xt_of (List.mem_of_getElem? (i := 545) (by decide +kernel)) (by decide +kernel)
theorem mm_546 : Cond.methodLink "ShareKeeper" 158 ⟨"ShareKeeper$Parts", "leastBad", "(II)I"⟩ ∈ xt := xt_of (List.mem_of_getElem? (i := 546) (by decide +kernel)) (by decide +kernel)
theorem mm_547 : Cond.instanceMethod ⟨"ShareKeeper$Parts", "leastBad", "(II)I"⟩ ∈ xt := xt_of (List.mem_of_getElem? (i := 547) (by decide +kernel)) (by decide +kernel)
theorem mm_548 : Cond.selects "ShareKeeper$Parts" ⟨"ShareKeeper$Parts", "leastBad", "(II)I"⟩ ⟨"ShareKeeper$Parts", "leastBad", "(II)I"⟩ ∈ xt := xt_of (List.mem_of_getElem? (i := 548) (by decide +kernel)) (by decide +kernel)
theorem mm_549 : Cond.code ⟨"ShareKeeper$Parts", "leastBad", "(II)I"⟩ prog_6_method_6_code 3 (some .int) ∈ xt := xt_of (List.mem_of_getElem? (i := 549) (by decide +kernel)) (by decide +kernel)
theorem mm_550 : Cond.methodLink "ShareKeeper$Parts" 19 ⟨"ShareKeeper$Parts", "mostMeeting", "(IIZ)I"⟩ ∈ xt := xt_of (List.mem_of_getElem? (i := 550) (by decide +kernel)) (by decide +kernel)
theorem mm_552 : Cond.instanceMethod ⟨"ShareKeeper$Parts", "mostMeeting", "(IIZ)I"⟩ ∈ xt := xt_of (List.mem_of_getElem? (i := 552) (by decide +kernel)) (by decide +kernel)
theorem mm_553 : Cond.code ⟨"ShareKeeper$Parts", "mostMeeting", "(IIZ)I"⟩ prog_6_method_8_code 6 (some .int) ∈ xt := xt_of (List.mem_of_getElem? (i := 553) (by decide +kernel)) (by decide +kernel)
theorem mm_554 : Cond.constant "ShareKeeper$Parts" 23 (65536) ∈ xt := xt_of (List.mem_of_getElem? (i := 554) (by decide +kernel)) (by decide +kernel)
theorem mm_555 : Cond.methodLink "ShareKeeper$Parts" 24 ⟨"ShareKeeper$Parts", "canMeet", "(IIIZ)Z"⟩ ∈ xt := xt_of (List.mem_of_getElem? (i := 555) (by decide +kernel)) (by decide +kernel)
theorem mm_557 : Cond.instanceMethod ⟨"ShareKeeper$Parts", "canMeet", "(IIIZ)Z"⟩ ∈ xt := xt_of (List.mem_of_getElem? (i := 557) (by decide +kernel)) (by decide +kernel)
theorem mm_558 : Cond.code ⟨"ShareKeeper$Parts", "canMeet", "(IIIZ)Z"⟩ prog_6_method_9_code 7 (some .boolean) ∈ xt := xt_of (List.mem_of_getElem? (i := 558) (by decide +kernel)) (by decide +kernel)
theorem mm_559 : Cond.methodLink "ShareKeeper$Parts" 28 ⟨"java/lang/Math", "min", "(II)I"⟩ ∈ xt := xt_of (List.mem_of_getElem? (i := 559) (by decide +kernel)) (by decide +kernel)
theorem mm_560 : Cond.methodLink "ShareKeeper" 161 ⟨"ShareKeeper$Parts", "greatestBad", "(II)I"⟩ ∈ xt := xt_of (List.mem_of_getElem? (i := 560) (by decide +kernel)) (by decide +kernel)
theorem mm_561 : Cond.instanceMethod ⟨"ShareKeeper$Parts", "greatestBad", "(II)I"⟩ ∈ xt := xt_of (List.mem_of_getElem? (i := 561) (by decide +kernel)) (by decide +kernel)
theorem mm_562 : Cond.selects "ShareKeeper$Parts" ⟨"ShareKeeper$Parts", "greatestBad", "(II)I"⟩ ⟨"ShareKeeper$Parts", "greatestBad", "(II)I"⟩ ∈ xt := xt_of (List.mem_of_getElem? (i := 562) (by decide +kernel)) (by decide +kernel)
theorem mm_563 : Cond.code ⟨"ShareKeeper$Parts", "greatestBad", "(II)I"⟩ prog_6_method_7_code 3 (some .int) ∈ xt := xt_of (List.mem_of_getElem? (i := 563) (by decide +kernel)) (by decide +kernel)
theorem mm_564 : Cond.methodLink "ShareKeeper" 164 ⟨"ShareKeeper$Parts", "clear", "()V"⟩ ∈ xt := xt_of (List.mem_of_getElem? (i := 564) (by decide +kernel)) (by decide +kernel)
theorem mm_565 : Cond.instanceMethod ⟨"ShareKeeper$Parts", "clear", "()V"⟩ ∈ xt := xt_of (List.mem_of_getElem? (i := 565) (by decide +kernel)) (by decide +kernel)
theorem mm_566 : Cond.selects "ShareKeeper$Parts" ⟨"ShareKeeper$Parts", "clear", "()V"⟩ ⟨"ShareKeeper$Parts", "clear", "()V"⟩ ∈ xt := xt_of (List.mem_of_getElem? (i := 566) (by decide +kernel)) (by decide +kernel)
theorem mm_567 : Cond.code ⟨"ShareKeeper$Parts", "clear", "()V"⟩ prog_6_method_3_code 1 none ∈ xt := xt_of (List.mem_of_getElem? (i := 567) (by decide +kernel)) (by decide +kernel)
theorem mm_568 : Cond.methodLink "ShareKeeperLaw" 75 ⟨"ShareKeeper", "alarm", "(IIII)I"⟩ ∈ xt := xt_of (List.mem_of_getElem? (i := 568) (by decide +kernel)) (by decide +kernel)
theorem mm_569 : Cond.instanceMethod ⟨"ShareKeeper", "alarm", "(IIII)I"⟩ ∈ xt := xt_of (List.mem_of_getElem? (i := 569) (by decide +kernel)) (by decide +kernel)
theorem mm_570 : Cond.selects "ShareKeeper" ⟨"ShareKeeper", "alarm", "(IIII)I"⟩ ⟨"ShareKeeper", "alarm", "(IIII)I"⟩ ∈ xt := xt_of (List.mem_of_getElem? (i := 570) (by decide +kernel)) (by decide +kernel)
theorem mm_571 : Cond.code ⟨"ShareKeeper", "alarm", "(IIII)I"⟩ prog_1_method_13_code 6 (some .int) ∈ xt := xt_of (List.mem_of_getElem? (i := 571) (by decide +kernel)) (by decide +kernel)
theorem mm_572 : Cond.classLink "ShareKeeper" 167 "ShareKeeper$Alarm" ∈ xt := xt_of (List.mem_of_getElem? (i := 572) (by decide +kernel)) (by decide +kernel)
theorem mm_573 : Cond.instantiable "ShareKeeper$Alarm" 4 ∈ xt := xt_of (List.mem_of_getElem? (i := 573) (by decide +kernel)) (by decide +kernel)
theorem mm_574 : Cond.methodLink "ShareKeeper" 169 ⟨"ShareKeeper$Alarm", "<init>", "(LShareKeeper$Promise;III)V"⟩ ∈ xt := xt_of (List.mem_of_getElem? (i := 574) (by decide +kernel)) (by decide +kernel)
theorem mm_575 : Cond.instanceMethod ⟨"ShareKeeper$Alarm", "<init>", "(LShareKeeper$Promise;III)V"⟩ ∈ xt := xt_of (List.mem_of_getElem? (i := 575) (by decide +kernel)) (by decide +kernel)
theorem mm_576 : Cond.code ⟨"ShareKeeper$Alarm", "<init>", "(LShareKeeper$Promise;III)V"⟩ prog_2_method_1_code 5 none ∈ xt := xt_of (List.mem_of_getElem? (i := 576) (by decide +kernel)) (by decide +kernel)
theorem mm_577 : Cond.methodLink "ShareKeeper$Alarm" 1 ⟨"java/lang/Object", "<init>", "()V"⟩ ∈ xt := xt_of (List.mem_of_getElem? (i := 577) (by decide +kernel)) (by decide +kernel)
theorem mm_578 : Cond.fieldLink "ShareKeeper$Alarm" 7 "ShareKeeper$Alarm" "promise" "LShareKeeper$Promise;" ∈ xt := xt_of (List.mem_of_getElem? (i := 578) (by decide +kernel)) (by decide +kernel)
theorem mm_579 : Cond.fieldLink "ShareKeeper" 176 "ShareKeeper$Alarm" "promise" "LShareKeeper$Promise;" ∈ xt := xt_of (List.mem_of_getElem? (i := 579) (by decide +kernel)) (by decide +kernel)
theorem mm_580 : Cond.fieldLink "ShareKeeper$Alarm" 13 "ShareKeeper$Alarm" "longSpan" "I" ∈ xt := xt_of (List.mem_of_getElem? (i := 580) (by decide +kernel)) (by decide +kernel)
theorem mm_581 : Cond.fieldLink "ShareKeeper$Alarm" 17 "ShareKeeper$Alarm" "shortSpan" "I" ∈ xt := xt_of (List.mem_of_getElem? (i := 581) (by decide +kernel)) (by decide +kernel)
theorem mm_582 : Cond.fieldLink "ShareKeeper$Alarm" 20 "ShareKeeper$Alarm" "rate" "I" ∈ xt := xt_of (List.mem_of_getElem? (i := 582) (by decide +kernel)) (by decide +kernel)
theorem mm_592 : Cond.methodLink "ShareKeeperLaw" 79 ⟨"ShareKeeper", "rings", "(II)I"⟩ ∈ xt := xt_of (List.mem_of_getElem? (i := 592) (by decide +kernel)) (by decide +kernel)
theorem mm_593 : Cond.instanceMethod ⟨"ShareKeeper", "rings", "(II)I"⟩ ∈ xt := xt_of (List.mem_of_getElem? (i := 593) (by decide +kernel)) (by decide +kernel)
theorem mm_594 : Cond.selects "ShareKeeper" ⟨"ShareKeeper", "rings", "(II)I"⟩ ⟨"ShareKeeper", "rings", "(II)I"⟩ ∈ xt := xt_of (List.mem_of_getElem? (i := 594) (by decide +kernel)) (by decide +kernel)
theorem mm_595 : Cond.code ⟨"ShareKeeper", "rings", "(II)I"⟩ prog_1_method_14_code 4 (some .int) ∈ xt := xt_of (List.mem_of_getElem? (i := 595) (by decide +kernel)) (by decide +kernel)
theorem mm_596 : Cond.methodLink "ShareKeeper" 172 ⟨"ShareKeeper", "alarmAt", "(I)LShareKeeper$Alarm;"⟩ ∈ xt := xt_of (List.mem_of_getElem? (i := 596) (by decide +kernel)) (by decide +kernel)
theorem mm_598 : Cond.instanceMethod ⟨"ShareKeeper", "alarmAt", "(I)LShareKeeper$Alarm;"⟩ ∈ xt := xt_of (List.mem_of_getElem? (i := 598) (by decide +kernel)) (by decide +kernel)
theorem mm_599 : Cond.code ⟨"ShareKeeper", "alarmAt", "(I)LShareKeeper$Alarm;"⟩ prog_1_method_29_code 2 (some (.object "ShareKeeper$Alarm")) ∈ xt := xt_of (List.mem_of_getElem? (i := 599) (by decide +kernel)) (by decide +kernel)
theorem mm_600 : Cond.methodLink "ShareKeeper" 184 ⟨"ShareKeeper$Alarm", "ringsIn", "(LShareKeeper$History;I)Z"⟩ ∈ xt := xt_of (List.mem_of_getElem? (i := 600) (by decide +kernel)) (by decide +kernel)
theorem mm_601 : Cond.instanceMethod ⟨"ShareKeeper$Alarm", "ringsIn", "(LShareKeeper$History;I)Z"⟩ ∈ xt := xt_of (List.mem_of_getElem? (i := 601) (by decide +kernel)) (by decide +kernel)
theorem mm_602 : Cond.selects "ShareKeeper$Alarm" ⟨"ShareKeeper$Alarm", "ringsIn", "(LShareKeeper$History;I)Z"⟩ ⟨"ShareKeeper$Alarm", "ringsIn", "(LShareKeeper$History;I)Z"⟩ ∈ xt := xt_of (List.mem_of_getElem? (i := 602) (by decide +kernel)) (by decide +kernel)
theorem mm_603 : Cond.code ⟨"ShareKeeper$Alarm", "ringsIn", "(LShareKeeper$History;I)Z"⟩ prog_2_method_2_code 3 (some .boolean) ∈ xt := xt_of (List.mem_of_getElem? (i := 603) (by decide +kernel)) (by decide +kernel)
theorem mm_604 : Cond.methodLink "ShareKeeper$Alarm" 23 ⟨"ShareKeeper$Alarm", "isOver", "(LShareKeeper$History;II)Z"⟩ ∈ xt := xt_of (List.mem_of_getElem? (i := 604) (by decide +kernel)) (by decide +kernel)
theorem mm_606 : Cond.instanceMethod ⟨"ShareKeeper$Alarm", "isOver", "(LShareKeeper$History;II)Z"⟩ ∈ xt := xt_of (List.mem_of_getElem? (i := 606) (by decide +kernel)) (by decide +kernel)
theorem mm_607 : Cond.code ⟨"ShareKeeper$Alarm", "isOver", "(LShareKeeper$History;II)Z"⟩ prog_2_method_3_code 8 (some .boolean) ∈ xt := xt_of (List.mem_of_getElem? (i := 607) (by decide +kernel)) (by decide +kernel)
end
section
theorem mm_609 : Cond.methodLink "ShareKeeper$Alarm" 27 ⟨"ShareKeeper$History", "asksIn", "(II)I"⟩ ∈ xt := xt_of (List.mem_of_getElem? (i := 609) (by decide +kernel)) (by decide +kernel)
theorem mm_613 : Cond.selects "ShareKeeper$Service" ⟨"ShareKeeper$History", "asksIn", "(II)I"⟩ ⟨"ShareKeeper$Service", "asksIn", "(II)I"⟩ ∈ xt := xt_of (List.mem_of_getElem? (i := 613) (by decide +kernel)) (by decide +kernel)
theorem mm_617 : Cond.selects "ShareKeeper$SteadyHistory" ⟨"ShareKeeper$History", "asksIn", "(II)I"⟩ ⟨"ShareKeeper$SteadyHistory", "asksIn", "(II)I"⟩ ∈ xt := xt_of (List.mem_of_getElem? (i := 617) (by decide +kernel)) (by decide +kernel)
theorem mm_619 : Cond.instanceMethod ⟨"ShareKeeper$SteadyHistory", "asksIn", "(II)I"⟩ ∈ xt := xt_of (List.mem_of_getElem? (i := 619) (by decide +kernel)) (by decide +kernel)
theorem mm_621 : Cond.code ⟨"ShareKeeper$SteadyHistory", "asksIn", "(II)I"⟩ prog_11_method_2_code 3 (some .int) ∈ xt := xt_of (List.mem_of_getElem? (i := 621) (by decide +kernel)) (by decide +kernel)
theorem mm_622 : Cond.methodLink "ShareKeeper$SteadyHistory" 18 ⟨"java/lang/Math", "max", "(II)I"⟩ ∈ xt := xt_of (List.mem_of_getElem? (i := 622) (by decide +kernel)) (by decide +kernel)
theorem mm_624 : Cond.methodLink "ShareKeeper$Alarm" 33 ⟨"ShareKeeper$History", "badIn", "(II)I"⟩ ∈ xt := xt_of (List.mem_of_getElem? (i := 624) (by decide +kernel)) (by decide +kernel)
theorem mm_627 : Cond.selects "ShareKeeper$Service" ⟨"ShareKeeper$History", "badIn", "(II)I"⟩ ⟨"ShareKeeper$Service", "badIn", "(II)I"⟩ ∈ xt := xt_of (List.mem_of_getElem? (i := 627) (by decide +kernel)) (by decide +kernel)
theorem mm_630 : Cond.selects "ShareKeeper$SteadyHistory" ⟨"ShareKeeper$History", "badIn", "(II)I"⟩ ⟨"ShareKeeper$SteadyHistory", "badIn", "(II)I"⟩ ∈ xt := xt_of (List.mem_of_getElem? (i := 630) (by decide +kernel)) (by decide +kernel)
theorem mm_632 : Cond.instanceMethod ⟨"ShareKeeper$SteadyHistory", "badIn", "(II)I"⟩ ∈ xt := xt_of (List.mem_of_getElem? (i := 632) (by decide +kernel)) (by decide +kernel)
theorem mm_634 : Cond.code ⟨"ShareKeeper$SteadyHistory", "badIn", "(II)I"⟩ prog_11_method_3_code 3 (some .int) ∈ xt := xt_of (List.mem_of_getElem? (i := 634) (by decide +kernel)) (by decide +kernel)
theorem mm_635 : Cond.constantLong "ShareKeeper$Alarm" 36 (10000) ∈ xt := xt_of (List.mem_of_getElem? (i := 635) (by decide +kernel)) (by decide +kernel)
theorem mm_636 : Cond.methodLink "ShareKeeper$Alarm" 38 ⟨"ShareKeeper$Promise", "slack", "()I"⟩ ∈ xt := xt_of (List.mem_of_getElem? (i := 636) (by decide +kernel)) (by decide +kernel)
theorem mm_637 : Cond.methodLink "ShareKeeperLaw" 83 ⟨"ShareKeeper", "soonest", "(IIII)I"⟩ ∈ xt := xt_of (List.mem_of_getElem? (i := 637) (by decide +kernel)) (by decide +kernel)
theorem mm_638 : Cond.instanceMethod ⟨"ShareKeeper", "soonest", "(IIII)I"⟩ ∈ xt := xt_of (List.mem_of_getElem? (i := 638) (by decide +kernel)) (by decide +kernel)
theorem mm_639 : Cond.selects "ShareKeeper" ⟨"ShareKeeper", "soonest", "(IIII)I"⟩ ⟨"ShareKeeper", "soonest", "(IIII)I"⟩ ∈ xt := xt_of (List.mem_of_getElem? (i := 639) (by decide +kernel)) (by decide +kernel)
theorem mm_640 : Cond.code ⟨"ShareKeeper", "soonest", "(IIII)I"⟩ prog_1_method_15_code 8 (some .int) ∈ xt := xt_of (List.mem_of_getElem? (i := 640) (by decide +kernel)) (by decide +kernel)
theorem mm_641 : Cond.methodLink "ShareKeeper" 188 ⟨"ShareKeeper", "isSteady", "(II)Z"⟩ ∈ xt := xt_of (List.mem_of_getElem? (i := 641) (by decide +kernel)) (by decide +kernel)
theorem mm_642 : Cond.static ⟨"ShareKeeper", "isSteady", "(II)Z"⟩ ∈ xt := xt_of (List.mem_of_getElem? (i := 642) (by decide +kernel)) (by decide +kernel)
theorem mm_643 : Cond.code ⟨"ShareKeeper", "isSteady", "(II)Z"⟩ prog_1_method_25_code 2 (some .boolean) ∈ xt := xt_of (List.mem_of_getElem? (i := 643) (by decide +kernel)) (by decide +kernel)
theorem mm_644 : Cond.classLink "ShareKeeper" 191 "ShareKeeper$SteadyHistory" ∈ xt := xt_of (List.mem_of_getElem? (i := 644) (by decide +kernel)) (by decide +kernel)
theorem mm_645 : Cond.instantiable "ShareKeeper$SteadyHistory" 2 ∈ xt := xt_of (List.mem_of_getElem? (i := 645) (by decide +kernel)) (by decide +kernel)
theorem mm_646 : Cond.methodLink "ShareKeeper" 193 ⟨"ShareKeeper$SteadyHistory", "<init>", "(II)V"⟩ ∈ xt := xt_of (List.mem_of_getElem? (i := 646) (by decide +kernel)) (by decide +kernel)
theorem mm_647 : Cond.instanceMethod ⟨"ShareKeeper$SteadyHistory", "<init>", "(II)V"⟩ ∈ xt := xt_of (List.mem_of_getElem? (i := 647) (by decide +kernel)) (by decide +kernel)
theorem mm_648 : Cond.code ⟨"ShareKeeper$SteadyHistory", "<init>", "(II)V"⟩ prog_11_method_1_code 3 none ∈ xt := xt_of (List.mem_of_getElem? (i := 648) (by decide +kernel)) (by decide +kernel)
theorem mm_649 : Cond.methodLink "ShareKeeper$SteadyHistory" 3 ⟨"java/lang/Object", "<init>", "()V"⟩ ∈ xt := xt_of (List.mem_of_getElem? (i := 649) (by decide +kernel)) (by decide +kernel)
theorem mm_650 : Cond.fieldLink "ShareKeeper$SteadyHistory" 9 "ShareKeeper$SteadyHistory" "goodTicks" "I" ∈ xt := xt_of (List.mem_of_getElem? (i := 650) (by decide +kernel)) (by decide +kernel)
theorem mm_651 : Cond.fieldLink "ShareKeeper$AlarmSearch" 51 "ShareKeeper$SteadyHistory" "goodTicks" "I" ∈ xt := xt_of (List.mem_of_getElem? (i := 651) (by decide +kernel)) (by decide +kernel)
theorem mm_652 : Cond.fieldLink "ShareKeeper$SteadyHistory" 15 "ShareKeeper$SteadyHistory" "badEach" "I" ∈ xt := xt_of (List.mem_of_getElem? (i := 652) (by decide +kernel)) (by decide +kernel)
theorem mm_658 : Cond.methodLink "ShareKeeper" 196 ⟨"ShareKeeper$SteadyHistory", "badIn", "(II)I"⟩ ∈ xt := xt_of (List.mem_of_getElem? (i := 658) (by decide +kernel)) (by decide +kernel)
theorem mm_659 : Cond.methodLink "ShareKeeperLaw" 87 ⟨"ShareKeeper", "best", "(IIII)I"⟩ ∈ xt := xt_of (List.mem_of_getElem? (i := 659) (by decide +kernel)) (by decide +kernel)
theorem mm_660 : Cond.instanceMethod ⟨"ShareKeeper", "best", "(IIII)I"⟩ ∈ xt := xt_of (List.mem_of_getElem? (i := 660) (by decide +kernel)) (by decide +kernel)
theorem mm_661 : Cond.selects "ShareKeeper" ⟨"ShareKeeper", "best", "(IIII)I"⟩ ⟨"ShareKeeper", "best", "(IIII)I"⟩ ∈ xt := xt_of (List.mem_of_getElem? (i := 661) (by decide +kernel)) (by decide +kernel)
theorem mm_662 : Cond.code ⟨"ShareKeeper", "best", "(IIII)I"⟩ prog_1_method_16_code 6 (some .int) ∈ xt := xt_of (List.mem_of_getElem? (i := 662) (by decide +kernel)) (by decide +kernel)
theorem mm_663 : Cond.methodLink "ShareKeeper" 197 ⟨"ShareKeeper$AlarmSearch", "find", "(LShareKeeper$Promise;LShareKeeper$SteadyHistory;II)I"⟩ ∈ xt := xt_of (List.mem_of_getElem? (i := 663) (by decide +kernel)) (by decide +kernel)
theorem mm_664 : Cond.instanceMethod ⟨"ShareKeeper$AlarmSearch", "find", "(LShareKeeper$Promise;LShareKeeper$SteadyHistory;II)I"⟩ ∈ xt := xt_of (List.mem_of_getElem? (i := 664) (by decide +kernel)) (by decide +kernel)
theorem mm_665 : Cond.selects "ShareKeeper$AlarmSearch" ⟨"ShareKeeper$AlarmSearch", "find", "(LShareKeeper$Promise;LShareKeeper$SteadyHistory;II)I"⟩ ⟨"ShareKeeper$AlarmSearch", "find", "(LShareKeeper$Promise;LShareKeeper$SteadyHistory;II)I"⟩ ∈ xt := xt_of (List.mem_of_getElem? (i := 665) (by decide +kernel)) (by decide +kernel)
theorem mm_666 : Cond.code ⟨"ShareKeeper$AlarmSearch", "find", "(LShareKeeper$Promise;LShareKeeper$SteadyHistory;II)I"⟩ prog_3_method_2_code 6 (some .int) ∈ xt := xt_of (List.mem_of_getElem? (i := 666) (by decide +kernel)) (by decide +kernel)
theorem mm_667 : Cond.methodLink "ShareKeeper$AlarmSearch" 21 ⟨"java/util/Arrays", "fill", "([II)V"⟩ ∈ xt := xt_of (List.mem_of_getElem? (i := 667) (by decide +kernel)) (by decide +kernel)
theorem mm_668 : Cond.static ⟨"java/util/Arrays", "fill", "([II)V"⟩ ∈ xt := xt_of (List.mem_of_getElem? (i := 668) (by decide +kernel)) (by decide +kernel)
theorem mm_669 : Cond.code ⟨"java/util/Arrays", "fill", "([II)V"⟩ prog_26_method_103_code 4 none ∈ xt := xt_of (List.mem_of_getElem? (i := 669) (by decide +kernel)) (by decide +kernel)
theorem mm_670 : Cond.methodLink "ShareKeeper$AlarmSearch" 27 ⟨"ShareKeeper$Promise", "slack", "()I"⟩ ∈ xt := xt_of (List.mem_of_getElem? (i := 670) (by decide +kernel)) (by decide +kernel)
theorem mm_671 : Cond.methodLink "ShareKeeper$AlarmSearch" 33 ⟨"ShareKeeper$AlarmSearch", "noteHistory", "(LShareKeeper$SteadyHistory;II)V"⟩ ∈ xt := xt_of (List.mem_of_getElem? (i := 671) (by decide +kernel)) (by decide +kernel)
theorem mm_673 : Cond.instanceMethod ⟨"ShareKeeper$AlarmSearch", "noteHistory", "(LShareKeeper$SteadyHistory;II)V"⟩ ∈ xt := xt_of (List.mem_of_getElem? (i := 673) (by decide +kernel)) (by decide +kernel)
theorem mm_674 : Cond.code ⟨"ShareKeeper$AlarmSearch", "noteHistory", "(LShareKeeper$SteadyHistory;II)V"⟩ prog_3_method_3_code 6 none ∈ xt := xt_of (List.mem_of_getElem? (i := 674) (by decide +kernel)) (by decide +kernel)
theorem mm_675 : Cond.methodLink "ShareKeeper$AlarmSearch" 57 ⟨"java/lang/Math", "min", "(II)I"⟩ ∈ xt := xt_of (List.mem_of_getElem? (i := 675) (by decide +kernel)) (by decide +kernel)
theorem mm_676 : Cond.methodLink "ShareKeeper$AlarmSearch" 63 ⟨"ShareKeeper$SteadyHistory", "badIn", "(II)I"⟩ ∈ xt := xt_of (List.mem_of_getElem? (i := 676) (by decide +kernel)) (by decide +kernel)
theorem mm_677 : Cond.methodLink "ShareKeeper$AlarmSearch" 41 ⟨"ShareKeeper$AlarmSearch", "measure", "(LShareKeeper$History;II)Z"⟩ ∈ xt := xt_of (List.mem_of_getElem? (i := 677) (by decide +kernel)) (by decide +kernel)
theorem mm_679 : Cond.instanceMethod ⟨"ShareKeeper$AlarmSearch", "measure", "(LShareKeeper$History;II)Z"⟩ ∈ xt := xt_of (List.mem_of_getElem? (i := 679) (by decide +kernel)) (by decide +kernel)
theorem mm_680 : Cond.code ⟨"ShareKeeper$AlarmSearch", "measure", "(LShareKeeper$History;II)Z"⟩ prog_3_method_4_code 8 (some .boolean) ∈ xt := xt_of (List.mem_of_getElem? (i := 680) (by decide +kernel)) (by decide +kernel)
theorem mm_682 : Cond.methodLink "ShareKeeper$AlarmSearch" 69 ⟨"ShareKeeper$History", "asksIn", "(II)I"⟩ ∈ xt := xt_of (List.mem_of_getElem? (i := 682) (by decide +kernel)) (by decide +kernel)
theorem mm_684 : Cond.methodLink "ShareKeeper$AlarmSearch" 74 ⟨"ShareKeeper$History", "badIn", "(II)I"⟩ ∈ xt := xt_of (List.mem_of_getElem? (i := 684) (by decide +kernel)) (by decide +kernel)
theorem mm_685 : Cond.methodLink "ShareKeeper$AlarmSearch" 75 ⟨"ShareKeeper$AlarmSearch", "levelOf", "(JI)I"⟩ ∈ xt := xt_of (List.mem_of_getElem? (i := 685) (by decide +kernel)) (by decide +kernel)
theorem mm_686 : Cond.static ⟨"ShareKeeper$AlarmSearch", "levelOf", "(JI)I"⟩ ∈ xt := xt_of (List.mem_of_getElem? (i := 686) (by decide +kernel)) (by decide +kernel)
theorem mm_687 : Cond.code ⟨"ShareKeeper$AlarmSearch", "levelOf", "(JI)I"⟩ prog_3_method_5_code 3 (some .int) ∈ xt := xt_of (List.mem_of_getElem? (i := 687) (by decide +kernel)) (by decide +kernel)
theorem mm_688 : Cond.constantLong "ShareKeeper$AlarmSearch" 79 (1000) ∈ xt := xt_of (List.mem_of_getElem? (i := 688) (by decide +kernel)) (by decide +kernel)
theorem mm_689 : Cond.constantLong "ShareKeeper$AlarmSearch" 81 (20) ∈ xt := xt_of (List.mem_of_getElem? (i := 689) (by decide +kernel)) (by decide +kernel)
theorem mm_690 : Cond.methodLink "ShareKeeper$AlarmSearch" 83 ⟨"java/lang/Math", "min", "(JJ)J"⟩ ∈ xt := xt_of (List.mem_of_getElem? (i := 690) (by decide +kernel)) (by decide +kernel)
theorem mm_691 : Cond.static ⟨"java/lang/Math", "min", "(JJ)J"⟩ ∈ xt := xt_of (List.mem_of_getElem? (i := 691) (by decide +kernel)) (by decide +kernel)
theorem mm_692 : Cond.code ⟨"java/lang/Math", "min", "(JJ)J"⟩ prog_19_method_70_code 4 (some .long) ∈ xt := xt_of (List.mem_of_getElem? (i := 692) (by decide +kernel)) (by decide +kernel)
theorem mm_693 : Cond.methodLink "ShareKeeper$AlarmSearch" 66 ⟨"ShareKeeper$AlarmSearch", "noteReached", "()V"⟩ ∈ xt := xt_of (List.mem_of_getElem? (i := 693) (by decide +kernel)) (by decide +kernel)
theorem mm_695 : Cond.instanceMethod ⟨"ShareKeeper$AlarmSearch", "noteReached", "()V"⟩ ∈ xt := xt_of (List.mem_of_getElem? (i := 695) (by decide +kernel)) (by decide +kernel)
theorem mm_696 : Cond.code ⟨"ShareKeeper$AlarmSearch", "noteReached", "()V"⟩ prog_3_method_6_code 4 none ∈ xt := xt_of (List.mem_of_getElem? (i := 696) (by decide +kernel)) (by decide +kernel)
theorem mm_697 : Cond.methodLink "ShareKeeper$AlarmSearch" 86 ⟨"ShareKeeper$AlarmSearch", "pairOf", "(II)I"⟩ ∈ xt := xt_of (List.mem_of_getElem? (i := 697) (by decide +kernel)) (by decide +kernel)
theorem mm_698 : Cond.static ⟨"ShareKeeper$AlarmSearch", "pairOf", "(II)I"⟩ ∈ xt := xt_of (List.mem_of_getElem? (i := 698) (by decide +kernel)) (by decide +kernel)
theorem mm_699 : Cond.code ⟨"ShareKeeper$AlarmSearch", "pairOf", "(II)I"⟩ prog_3_method_10_code 2 (some .int) ∈ xt := xt_of (List.mem_of_getElem? (i := 699) (by decide +kernel)) (by decide +kernel)
theorem mm_700 : Cond.methodLink "ShareKeeper$AlarmSearch" 89 ⟨"java/lang/Math", "max", "(II)I"⟩ ∈ xt := xt_of (List.mem_of_getElem? (i := 700) (by decide +kernel)) (by decide +kernel)
theorem mm_701 : Cond.methodLink "ShareKeeper$AlarmSearch" 45 ⟨"ShareKeeper$AlarmSearch", "noteRings", "()V"⟩ ∈ xt := xt_of (List.mem_of_getElem? (i := 701) (by decide +kernel)) (by decide +kernel)
theorem mm_703 : Cond.instanceMethod ⟨"ShareKeeper$AlarmSearch", "noteRings", "()V"⟩ ∈ xt := xt_of (List.mem_of_getElem? (i := 703) (by decide +kernel)) (by decide +kernel)
theorem mm_704 : Cond.code ⟨"ShareKeeper$AlarmSearch", "noteRings", "()V"⟩ prog_3_method_7_code 4 none ∈ xt := xt_of (List.mem_of_getElem? (i := 704) (by decide +kernel)) (by decide +kernel)
theorem mm_705 : Cond.methodLink "ShareKeeper$AlarmSearch" 48 ⟨"ShareKeeper$AlarmSearch", "choose", "()I"⟩ ∈ xt := xt_of (List.mem_of_getElem? (i := 705) (by decide +kernel)) (by decide +kernel)
theorem mm_707 : Cond.instanceMethod ⟨"ShareKeeper$AlarmSearch", "choose", "()I"⟩ ∈ xt := xt_of (List.mem_of_getElem? (i := 707) (by decide +kernel)) (by decide +kernel)
theorem mm_708 : Cond.code ⟨"ShareKeeper$AlarmSearch", "choose", "()I"⟩ prog_3_method_8_code 5 (some .int) ∈ xt := xt_of (List.mem_of_getElem? (i := 708) (by decide +kernel)) (by decide +kernel)
theorem mm_709 : Cond.methodLink "ShareKeeper$AlarmSearch" 92 ⟨"ShareKeeper$AlarmSearch", "chooseRate", "(I)V"⟩ ∈ xt := xt_of (List.mem_of_getElem? (i := 709) (by decide +kernel)) (by decide +kernel)
theorem mm_711 : Cond.instanceMethod ⟨"ShareKeeper$AlarmSearch", "chooseRate", "(I)V"⟩ ∈ xt := xt_of (List.mem_of_getElem? (i := 711) (by decide +kernel)) (by decide +kernel)
theorem mm_712 : Cond.code ⟨"ShareKeeper$AlarmSearch", "chooseRate", "(I)V"⟩ prog_3_method_9_code 4 none ∈ xt := xt_of (List.mem_of_getElem? (i := 712) (by decide +kernel)) (by decide +kernel)
theorem mm_713 : Cond.constant "ShareKeeper$AlarmSearch" 102 (1000000) ∈ xt := xt_of (List.mem_of_getElem? (i := 713) (by decide +kernel)) (by decide +kernel)
theorem mm_714 : Cond.methodLink "ShareKeeperLaw" 91 ⟨"ShareKeeper", "change", "(III)I"⟩ ∈ xt := xt_of (List.mem_of_getElem? (i := 714) (by decide +kernel)) (by decide +kernel)
theorem mm_715 : Cond.instanceMethod ⟨"ShareKeeper", "change", "(III)I"⟩ ∈ xt := xt_of (List.mem_of_getElem? (i := 715) (by decide +kernel)) (by decide +kernel)
theorem mm_716 : Cond.selects "ShareKeeper" ⟨"ShareKeeper", "change", "(III)I"⟩ ⟨"ShareKeeper", "change", "(III)I"⟩ ∈ xt := xt_of (List.mem_of_getElem? (i := 716) (by decide +kernel)) (by decide +kernel)
theorem mm_717 : Cond.code ⟨"ShareKeeper", "change", "(III)I"⟩ prog_1_method_17_code 4 (some .int) ∈ xt := xt_of (List.mem_of_getElem? (i := 717) (by decide +kernel)) (by decide +kernel)
theorem mm_718 : Cond.classLink "ShareKeeper" 201 "ShareKeeper$Change" ∈ xt := xt_of (List.mem_of_getElem? (i := 718) (by decide +kernel)) (by decide +kernel)
theorem mm_719 : Cond.instantiable "ShareKeeper$Change" 5 ∈ xt := xt_of (List.mem_of_getElem? (i := 719) (by decide +kernel)) (by decide +kernel)
theorem mm_720 : Cond.methodLink "ShareKeeper" 203 ⟨"ShareKeeper$Change", "<init>", "(III)V"⟩ ∈ xt := xt_of (List.mem_of_getElem? (i := 720) (by decide +kernel)) (by decide +kernel)
theorem mm_721 : Cond.instanceMethod ⟨"ShareKeeper$Change", "<init>", "(III)V"⟩ ∈ xt := xt_of (List.mem_of_getElem? (i := 721) (by decide +kernel)) (by decide +kernel)
theorem mm_722 : Cond.code ⟨"ShareKeeper$Change", "<init>", "(III)V"⟩ prog_4_method_1_code 4 none ∈ xt := xt_of (List.mem_of_getElem? (i := 722) (by decide +kernel)) (by decide +kernel)
theorem mm_723 : Cond.methodLink "ShareKeeper$Change" 3 ⟨"java/lang/Object", "<init>", "()V"⟩ ∈ xt := xt_of (List.mem_of_getElem? (i := 723) (by decide +kernel)) (by decide +kernel)
theorem mm_724 : Cond.fieldLink "ShareKeeper$Change" 15 "ShareKeeper$Change" "promise" "I" ∈ xt := xt_of (List.mem_of_getElem? (i := 724) (by decide +kernel)) (by decide +kernel)
theorem mm_725 : Cond.fieldLink "ShareKeeper" 213 "ShareKeeper$Change" "promise" "I" ∈ xt := xt_of (List.mem_of_getElem? (i := 725) (by decide +kernel)) (by decide +kernel)
theorem mm_726 : Cond.fieldLink "ShareKeeper$Change" 18 "ShareKeeper$Change" "guess" "I" ∈ xt := xt_of (List.mem_of_getElem? (i := 726) (by decide +kernel)) (by decide +kernel)
theorem mm_727 : Cond.fieldLink "ShareKeeper" 218 "ShareKeeper$Change" "guess" "I" ∈ xt := xt_of (List.mem_of_getElem? (i := 727) (by decide +kernel)) (by decide +kernel)
theorem mm_728 : Cond.fieldLink "ShareKeeper$Change" 21 "ShareKeeper$Change" "worth" "I" ∈ xt := xt_of (List.mem_of_getElem? (i := 728) (by decide +kernel)) (by decide +kernel)
theorem mm_729 : Cond.fieldLink "ShareKeeper" 229 "ShareKeeper$Change" "worth" "I" ∈ xt := xt_of (List.mem_of_getElem? (i := 729) (by decide +kernel)) (by decide +kernel)
theorem mm_730 : Cond.fieldLink "ShareKeeper$Change" 9 "ShareKeeper$Change" "state" "I" ∈ xt := xt_of (List.mem_of_getElem? (i := 730) (by decide +kernel)) (by decide +kernel)
theorem mm_731 : Cond.fieldLink "ShareKeeper" 210 "ShareKeeper$Change" "state" "I" ∈ xt := xt_of (List.mem_of_getElem? (i := 731) (by decide +kernel)) (by decide +kernel)
theorem mm_732 : Cond.fieldLink "ShareKeeper" 221 "ShareKeeper$Change" "cost" "I" ∈ xt := xt_of (List.mem_of_getElem? (i := 732) (by decide +kernel)) (by decide +kernel)
theorem mm_744 : Cond.methodLink "ShareKeeperLaw" 95 ⟨"ShareKeeper", "let", "(I)Z"⟩ ∈ xt := xt_of (List.mem_of_getElem? (i := 744) (by decide +kernel)) (by decide +kernel)
theorem mm_745 : Cond.instanceMethod ⟨"ShareKeeper", "let", "(I)Z"⟩ ∈ xt := xt_of (List.mem_of_getElem? (i := 745) (by decide +kernel)) (by decide +kernel)
theorem mm_746 : Cond.selects "ShareKeeper" ⟨"ShareKeeper", "let", "(I)Z"⟩ ⟨"ShareKeeper", "let", "(I)Z"⟩ ∈ xt := xt_of (List.mem_of_getElem? (i := 746) (by decide +kernel)) (by decide +kernel)
theorem mm_747 : Cond.code ⟨"ShareKeeper", "let", "(I)Z"⟩ prog_1_method_18_code 3 (some .boolean) ∈ xt := xt_of (List.mem_of_getElem? (i := 747) (by decide +kernel)) (by decide +kernel)
theorem mm_748 : Cond.methodLink "ShareKeeper" 206 ⟨"ShareKeeper", "changeAt", "(I)LShareKeeper$Change;"⟩ ∈ xt := xt_of (List.mem_of_getElem? (i := 748) (by decide +kernel)) (by decide +kernel)
theorem mm_750 : Cond.instanceMethod ⟨"ShareKeeper", "changeAt", "(I)LShareKeeper$Change;"⟩ ∈ xt := xt_of (List.mem_of_getElem? (i := 750) (by decide +kernel)) (by decide +kernel)
theorem mm_751 : Cond.code ⟨"ShareKeeper", "changeAt", "(I)LShareKeeper$Change;"⟩ prog_1_method_30_code 2 (some (.object "ShareKeeper$Change")) ∈ xt := xt_of (List.mem_of_getElem? (i := 751) (by decide +kernel)) (by decide +kernel)
theorem mm_752 : Cond.methodLink "ShareKeeper" 215 ⟨"ShareKeeper", "roomOf", "(I)I"⟩ ∈ xt := xt_of (List.mem_of_getElem? (i := 752) (by decide +kernel)) (by decide +kernel)
theorem mm_754 : Cond.instanceMethod ⟨"ShareKeeper", "roomOf", "(I)I"⟩ ∈ xt := xt_of (List.mem_of_getElem? (i := 754) (by decide +kernel)) (by decide +kernel)
theorem mm_755 : Cond.code ⟨"ShareKeeper", "roomOf", "(I)I"⟩ prog_1_method_31_code 6 (some .int) ∈ xt := xt_of (List.mem_of_getElem? (i := 755) (by decide +kernel)) (by decide +kernel)
theorem mm_756 : Cond.methodLink "ShareKeeper" 129 ⟨"ShareKeeper$Promise", "leastLeft", "(II)I"⟩ ∈ xt := xt_of (List.mem_of_getElem? (i := 756) (by decide +kernel)) (by decide +kernel)
theorem mm_757 : Cond.instanceMethod ⟨"ShareKeeper$Promise", "leastLeft", "(II)I"⟩ ∈ xt := xt_of (List.mem_of_getElem? (i := 757) (by decide +kernel)) (by decide +kernel)
theorem mm_758 : Cond.selects "ShareKeeper$Promise" ⟨"ShareKeeper$Promise", "leastLeft", "(II)I"⟩ ⟨"ShareKeeper$Promise", "leastLeft", "(II)I"⟩ ∈ xt := xt_of (List.mem_of_getElem? (i := 758) (by decide +kernel)) (by decide +kernel)
theorem mm_759 : Cond.code ⟨"ShareKeeper$Promise", "leastLeft", "(II)I"⟩ prog_8_method_7_code 4 (some .int) ∈ xt := xt_of (List.mem_of_getElem? (i := 759) (by decide +kernel)) (by decide +kernel)
theorem mm_760 : Cond.methodLink "ShareKeeper$Promise" 61 ⟨"ShareKeeper$Promise", "toCome", "(II)I"⟩ ∈ xt := xt_of (List.mem_of_getElem? (i := 760) (by decide +kernel)) (by decide +kernel)
theorem mm_762 : Cond.instanceMethod ⟨"ShareKeeper$Promise", "toCome", "(II)I"⟩ ∈ xt := xt_of (List.mem_of_getElem? (i := 762) (by decide +kernel)) (by decide +kernel)
theorem mm_763 : Cond.code ⟨"ShareKeeper$Promise", "toCome", "(II)I"⟩ prog_8_method_17_code 6 (some .int) ∈ xt := xt_of (List.mem_of_getElem? (i := 763) (by decide +kernel)) (by decide +kernel)
theorem mm_764 : Cond.methodLink "ShareKeeper$Promise" 95 ⟨"ShareKeeper$Service", "toComeAt", "(II)I"⟩ ∈ xt := xt_of (List.mem_of_getElem? (i := 764) (by decide +kernel)) (by decide +kernel)
theorem mm_765 : Cond.methodLink "ShareKeeper$Promise" 52 ⟨"ShareKeeper$Promise", "asks", "(I)I"⟩ ∈ xt := xt_of (List.mem_of_getElem? (i := 765) (by decide +kernel)) (by decide +kernel)
theorem mm_766 : Cond.instanceMethod ⟨"ShareKeeper$Promise", "asks", "(I)I"⟩ ∈ xt := xt_of (List.mem_of_getElem? (i := 766) (by decide +kernel)) (by decide +kernel)
theorem mm_767 : Cond.selects "ShareKeeper$Promise" ⟨"ShareKeeper$Promise", "asks", "(I)I"⟩ ⟨"ShareKeeper$Promise", "asks", "(I)I"⟩ ∈ xt := xt_of (List.mem_of_getElem? (i := 767) (by decide +kernel)) (by decide +kernel)
theorem mm_768 : Cond.code ⟨"ShareKeeper$Promise", "asks", "(I)I"⟩ prog_8_method_4_code 5 (some .int) ∈ xt := xt_of (List.mem_of_getElem? (i := 768) (by decide +kernel)) (by decide +kernel)
theorem mm_769 : Cond.methodLink "ShareKeeper$Promise" 55 ⟨"ShareKeeper$Promise", "bad", "(I)I"⟩ ∈ xt := xt_of (List.mem_of_getElem? (i := 769) (by decide +kernel)) (by decide +kernel)
theorem mm_770 : Cond.instanceMethod ⟨"ShareKeeper$Promise", "bad", "(I)I"⟩ ∈ xt := xt_of (List.mem_of_getElem? (i := 770) (by decide +kernel)) (by decide +kernel)
theorem mm_771 : Cond.selects "ShareKeeper$Promise" ⟨"ShareKeeper$Promise", "bad", "(I)I"⟩ ⟨"ShareKeeper$Promise", "bad", "(I)I"⟩ ∈ xt := xt_of (List.mem_of_getElem? (i := 771) (by decide +kernel)) (by decide +kernel)
theorem mm_772 : Cond.code ⟨"ShareKeeper$Promise", "bad", "(I)I"⟩ prog_8_method_5_code 5 (some .int) ∈ xt := xt_of (List.mem_of_getElem? (i := 772) (by decide +kernel)) (by decide +kernel)
theorem mm_773 : Cond.methodLink "ShareKeeperLaw" 100 ⟨"ShareKeeper", "settle", "(II)Z"⟩ ∈ xt := xt_of (List.mem_of_getElem? (i := 773) (by decide +kernel)) (by decide +kernel)
theorem mm_774 : Cond.instanceMethod ⟨"ShareKeeper", "settle", "(II)Z"⟩ ∈ xt := xt_of (List.mem_of_getElem? (i := 774) (by decide +kernel)) (by decide +kernel)
theorem mm_775 : Cond.selects "ShareKeeper" ⟨"ShareKeeper", "settle", "(II)Z"⟩ ⟨"ShareKeeper", "settle", "(II)Z"⟩ ∈ xt := xt_of (List.mem_of_getElem? (i := 775) (by decide +kernel)) (by decide +kernel)
theorem mm_776 : Cond.code ⟨"ShareKeeper", "settle", "(II)Z"⟩ prog_1_method_19_code 4 (some .boolean) ∈ xt := xt_of (List.mem_of_getElem? (i := 776) (by decide +kernel)) (by decide +kernel)
theorem mm_777 : Cond.methodLink "ShareKeeperLaw" 105 ⟨"ShareKeeper", "plan", "(I)I"⟩ ∈ xt := xt_of (List.mem_of_getElem? (i := 777) (by decide +kernel)) (by decide +kernel)
theorem mm_778 : Cond.instanceMethod ⟨"ShareKeeper", "plan", "(I)I"⟩ ∈ xt := xt_of (List.mem_of_getElem? (i := 778) (by decide +kernel)) (by decide +kernel)
theorem mm_779 : Cond.selects "ShareKeeper" ⟨"ShareKeeper", "plan", "(I)I"⟩ ⟨"ShareKeeper", "plan", "(I)I"⟩ ∈ xt := xt_of (List.mem_of_getElem? (i := 779) (by decide +kernel)) (by decide +kernel)
theorem mm_780 : Cond.code ⟨"ShareKeeper", "plan", "(I)I"⟩ prog_1_method_20_code 4 (some .int) ∈ xt := xt_of (List.mem_of_getElem? (i := 780) (by decide +kernel)) (by decide +kernel)
theorem mm_781 : Cond.methodLink "ShareKeeper" 224 ⟨"ShareKeeper$Planner", "clear", "()V"⟩ ∈ xt := xt_of (List.mem_of_getElem? (i := 781) (by decide +kernel)) (by decide +kernel)
theorem mm_782 : Cond.instanceMethod ⟨"ShareKeeper$Planner", "clear", "()V"⟩ ∈ xt := xt_of (List.mem_of_getElem? (i := 782) (by decide +kernel)) (by decide +kernel)
theorem mm_783 : Cond.selects "ShareKeeper$Planner" ⟨"ShareKeeper$Planner", "clear", "()V"⟩ ⟨"ShareKeeper$Planner", "clear", "()V"⟩ ∈ xt := xt_of (List.mem_of_getElem? (i := 783) (by decide +kernel)) (by decide +kernel)
theorem mm_784 : Cond.code ⟨"ShareKeeper$Planner", "clear", "()V"⟩ prog_7_method_2_code 1 none ∈ xt := xt_of (List.mem_of_getElem? (i := 784) (by decide +kernel)) (by decide +kernel)
theorem mm_785 : Cond.methodLink "ShareKeeper" 232 ⟨"ShareKeeper$Planner", "offer", "(III)V"⟩ ∈ xt := xt_of (List.mem_of_getElem? (i := 785) (by decide +kernel)) (by decide +kernel)
theorem mm_786 : Cond.instanceMethod ⟨"ShareKeeper$Planner", "offer", "(III)V"⟩ ∈ xt := xt_of (List.mem_of_getElem? (i := 786) (by decide +kernel)) (by decide +kernel)
theorem mm_787 : Cond.selects "ShareKeeper$Planner" ⟨"ShareKeeper$Planner", "offer", "(III)V"⟩ ⟨"ShareKeeper$Planner", "offer", "(III)V"⟩ ∈ xt := xt_of (List.mem_of_getElem? (i := 787) (by decide +kernel)) (by decide +kernel)
theorem mm_788 : Cond.code ⟨"ShareKeeper$Planner", "offer", "(III)V"⟩ prog_7_method_3_code 4 none ∈ xt := xt_of (List.mem_of_getElem? (i := 788) (by decide +kernel)) (by decide +kernel)
theorem mm_789 : Cond.methodLink "ShareKeeper" 235 ⟨"ShareKeeper$Planner", "choose", "(I)I"⟩ ∈ xt := xt_of (List.mem_of_getElem? (i := 789) (by decide +kernel)) (by decide +kernel)
theorem mm_790 : Cond.instanceMethod ⟨"ShareKeeper$Planner", "choose", "(I)I"⟩ ∈ xt := xt_of (List.mem_of_getElem? (i := 790) (by decide +kernel)) (by decide +kernel)
theorem mm_791 : Cond.selects "ShareKeeper$Planner" ⟨"ShareKeeper$Planner", "choose", "(I)I"⟩ ⟨"ShareKeeper$Planner", "choose", "(I)I"⟩ ∈ xt := xt_of (List.mem_of_getElem? (i := 791) (by decide +kernel)) (by decide +kernel)
theorem mm_792 : Cond.code ⟨"ShareKeeper$Planner", "choose", "(I)I"⟩ prog_7_method_4_code 2 (some .int) ∈ xt := xt_of (List.mem_of_getElem? (i := 792) (by decide +kernel)) (by decide +kernel)
theorem mm_793 : Cond.methodLink "ShareKeeper$Planner" 40 ⟨"ShareKeeper$Planner", "addUpWorths", "()V"⟩ ∈ xt := xt_of (List.mem_of_getElem? (i := 793) (by decide +kernel)) (by decide +kernel)
theorem mm_795 : Cond.instanceMethod ⟨"ShareKeeper$Planner", "addUpWorths", "()V"⟩ ∈ xt := xt_of (List.mem_of_getElem? (i := 795) (by decide +kernel)) (by decide +kernel)
theorem mm_796 : Cond.code ⟨"ShareKeeper$Planner", "addUpWorths", "()V"⟩ prog_7_method_6_code 3 none ∈ xt := xt_of (List.mem_of_getElem? (i := 796) (by decide +kernel)) (by decide +kernel)
theorem mm_797 : Cond.methodLink "ShareKeeper$Planner" 43 ⟨"ShareKeeper$Planner", "explore", "(IIII)V"⟩ ∈ xt := xt_of (List.mem_of_getElem? (i := 797) (by decide +kernel)) (by decide +kernel)
theorem mm_799 : Cond.instanceMethod ⟨"ShareKeeper$Planner", "explore", "(IIII)V"⟩ ∈ xt := xt_of (List.mem_of_getElem? (i := 799) (by decide +kernel)) (by decide +kernel)
theorem mm_800 : Cond.code ⟨"ShareKeeper$Planner", "explore", "(IIII)V"⟩ prog_7_method_7_code 6 none ∈ xt := xt_of (List.mem_of_getElem? (i := 800) (by decide +kernel)) (by decide +kernel)
theorem mm_801 : Cond.methodLink "ShareKeeper$Planner" 53 ⟨"java/lang/Integer", "bitCount", "(I)I"⟩ ∈ xt := xt_of (List.mem_of_getElem? (i := 801) (by decide +kernel)) (by decide +kernel)
theorem mm_802 : Cond.static ⟨"java/lang/Integer", "bitCount", "(I)I"⟩ ∈ xt := xt_of (List.mem_of_getElem? (i := 802) (by decide +kernel)) (by decide +kernel)
theorem mm_803 : Cond.code ⟨"java/lang/Integer", "bitCount", "(I)I"⟩ prog_17_method_49_code 1 (some .int) ∈ xt := xt_of (List.mem_of_getElem? (i := 803) (by decide +kernel)) (by decide +kernel)
theorem mm_804 : Cond.constant "java/lang/Integer" 265 (1431655765) ∈ xt := xt_of (List.mem_of_getElem? (i := 804) (by decide +kernel)) (by decide +kernel)
theorem mm_805 : Cond.constant "java/lang/Integer" 266 (858993459) ∈ xt := xt_of (List.mem_of_getElem? (i := 805) (by decide +kernel)) (by decide +kernel)
theorem mm_806 : Cond.constant "java/lang/Integer" 267 (252645135) ∈ xt := xt_of (List.mem_of_getElem? (i := 806) (by decide +kernel)) (by decide +kernel)
theorem mm_807 : Cond.methodLink "ShareKeeper$Planner" 59 ⟨"ShareKeeper$Planner", "isBetter", "(II)Z"⟩ ∈ xt := xt_of (List.mem_of_getElem? (i := 807) (by decide +kernel)) (by decide +kernel)
theorem mm_809 : Cond.instanceMethod ⟨"ShareKeeper$Planner", "isBetter", "(II)Z"⟩ ∈ xt := xt_of (List.mem_of_getElem? (i := 809) (by decide +kernel)) (by decide +kernel)
theorem mm_810 : Cond.code ⟨"ShareKeeper$Planner", "isBetter", "(II)Z"⟩ prog_7_method_9_code 3 (some .boolean) ∈ xt := xt_of (List.mem_of_getElem? (i := 810) (by decide +kernel)) (by decide +kernel)
theorem mm_811 : Cond.methodLink "ShareKeeper$Planner" 63 ⟨"ShareKeeper$Planner", "branch", "(IIII)V"⟩ ∈ xt := xt_of (List.mem_of_getElem? (i := 811) (by decide +kernel)) (by decide +kernel)
theorem mm_813 : Cond.instanceMethod ⟨"ShareKeeper$Planner", "branch", "(IIII)V"⟩ ∈ xt := xt_of (List.mem_of_getElem? (i := 813) (by decide +kernel)) (by decide +kernel)
theorem mm_814 : Cond.code ⟨"ShareKeeper$Planner", "branch", "(IIII)V"⟩ prog_7_method_8_code 5 none ∈ xt := xt_of (List.mem_of_getElem? (i := 814) (by decide +kernel)) (by decide +kernel)
theorem mm_815 : Cond.methodLink "ShareKeeper$Planner" 47 ⟨"ShareKeeper$Planner", "keepBest", "()V"⟩ ∈ xt := xt_of (List.mem_of_getElem? (i := 815) (by decide +kernel)) (by decide +kernel)
theorem mm_817 : Cond.instanceMethod ⟨"ShareKeeper$Planner", "keepBest", "()V"⟩ ∈ xt := xt_of (List.mem_of_getElem? (i := 817) (by decide +kernel)) (by decide +kernel)
theorem mm_818 : Cond.code ⟨"ShareKeeper$Planner", "keepBest", "()V"⟩ prog_7_method_10_code 2 none ∈ xt := xt_of (List.mem_of_getElem? (i := 818) (by decide +kernel)) (by decide +kernel)
theorem mm_819 : Cond.methodLink "ShareKeeperLaw" 109 ⟨"ShareKeeper", "planned", "(I)I"⟩ ∈ xt := xt_of (List.mem_of_getElem? (i := 819) (by decide +kernel)) (by decide +kernel)
theorem mm_820 : Cond.instanceMethod ⟨"ShareKeeper", "planned", "(I)I"⟩ ∈ xt := xt_of (List.mem_of_getElem? (i := 820) (by decide +kernel)) (by decide +kernel)
theorem mm_821 : Cond.selects "ShareKeeper" ⟨"ShareKeeper", "planned", "(I)I"⟩ ⟨"ShareKeeper", "planned", "(I)I"⟩ ∈ xt := xt_of (List.mem_of_getElem? (i := 821) (by decide +kernel)) (by decide +kernel)
theorem mm_822 : Cond.code ⟨"ShareKeeper", "planned", "(I)I"⟩ prog_1_method_21_code 2 (some .int) ∈ xt := xt_of (List.mem_of_getElem? (i := 822) (by decide +kernel)) (by decide +kernel)
theorem mm_823 : Cond.methodLink "ShareKeeper" 238 ⟨"ShareKeeper$Planner", "chosenAt", "(I)I"⟩ ∈ xt := xt_of (List.mem_of_getElem? (i := 823) (by decide +kernel)) (by decide +kernel)
theorem mm_824 : Cond.instanceMethod ⟨"ShareKeeper$Planner", "chosenAt", "(I)I"⟩ ∈ xt := xt_of (List.mem_of_getElem? (i := 824) (by decide +kernel)) (by decide +kernel)
theorem mm_825 : Cond.selects "ShareKeeper$Planner" ⟨"ShareKeeper$Planner", "chosenAt", "(I)I"⟩ ⟨"ShareKeeper$Planner", "chosenAt", "(I)I"⟩ ∈ xt := xt_of (List.mem_of_getElem? (i := 825) (by decide +kernel)) (by decide +kernel)
theorem mm_826 : Cond.code ⟨"ShareKeeper$Planner", "chosenAt", "(I)I"⟩ prog_7_method_5_code 2 (some .int) ∈ xt := xt_of (List.mem_of_getElem? (i := 826) (by decide +kernel)) (by decide +kernel)
theorem mm_827 : Cond.methodLink "ShareKeeperLaw" 113 ⟨"ShareKeeper", "look", "(II)I"⟩ ∈ xt := xt_of (List.mem_of_getElem? (i := 827) (by decide +kernel)) (by decide +kernel)
theorem mm_828 : Cond.instanceMethod ⟨"ShareKeeper", "look", "(II)I"⟩ ∈ xt := xt_of (List.mem_of_getElem? (i := 828) (by decide +kernel)) (by decide +kernel)
theorem mm_829 : Cond.selects "ShareKeeper" ⟨"ShareKeeper", "look", "(II)I"⟩ ⟨"ShareKeeper", "look", "(II)I"⟩ ∈ xt := xt_of (List.mem_of_getElem? (i := 829) (by decide +kernel)) (by decide +kernel)
theorem mm_830 : Cond.code ⟨"ShareKeeper", "look", "(II)I"⟩ prog_1_method_22_code 4 (some .int) ∈ xt := xt_of (List.mem_of_getElem? (i := 830) (by decide +kernel)) (by decide +kernel)
theorem mm_831 : Cond.methodLink "ShareKeeperLaw" 117 ⟨"ShareKeeper", "desk", "(I)I"⟩ ∈ xt := xt_of (List.mem_of_getElem? (i := 831) (by decide +kernel)) (by decide +kernel)
theorem mm_832 : Cond.instanceMethod ⟨"ShareKeeper", "desk", "(I)I"⟩ ∈ xt := xt_of (List.mem_of_getElem? (i := 832) (by decide +kernel)) (by decide +kernel)
theorem mm_833 : Cond.selects "ShareKeeper" ⟨"ShareKeeper", "desk", "(I)I"⟩ ⟨"ShareKeeper", "desk", "(I)I"⟩ ∈ xt := xt_of (List.mem_of_getElem? (i := 833) (by decide +kernel)) (by decide +kernel)
theorem mm_834 : Cond.code ⟨"ShareKeeper", "desk", "(I)I"⟩ prog_1_method_23_code 2 (some .int) ∈ xt := xt_of (List.mem_of_getElem? (i := 834) (by decide +kernel)) (by decide +kernel)
theorem mm_835 : Cond.methodLink "ShareKeeperLaw" 53 ⟨"ShareKeeperLaw", "span", "(LShareKeeper;III[J)I"⟩ ∈ xt := xt_of (List.mem_of_getElem? (i := 835) (by decide +kernel)) (by decide +kernel)
theorem mm_836 : Cond.static ⟨"ShareKeeperLaw", "span", "(LShareKeeper;III[J)I"⟩ ∈ xt := xt_of (List.mem_of_getElem? (i := 836) (by decide +kernel)) (by decide +kernel)
theorem mm_838 : Cond.classLink "ShareKeeperLaw" 13 "java/util/NoSuchElementException" ∈ xt := xt_of (List.mem_of_getElem? (i := 838) (by decide +kernel)) (by decide +kernel)
theorem mm_839 : Cond.methodLink "ShareKeeperLaw" 7 ⟨"ShareKeeper", "span", "(III)I"⟩ ∈ xt := xt_of (List.mem_of_getElem? (i := 839) (by decide +kernel)) (by decide +kernel)
theorem mm_840 : Cond.instanceMethod ⟨"ShareKeeper", "span", "(III)I"⟩ ∈ xt := xt_of (List.mem_of_getElem? (i := 840) (by decide +kernel)) (by decide +kernel)
theorem mm_841 : Cond.selects "ShareKeeper" ⟨"ShareKeeper", "span", "(III)I"⟩ ⟨"ShareKeeper", "span", "(III)I"⟩ ∈ xt := xt_of (List.mem_of_getElem? (i := 841) (by decide +kernel)) (by decide +kernel)
theorem mm_842 : Cond.code ⟨"ShareKeeper", "span", "(III)I"⟩ prog_1_method_9_code 5 (some .int) ∈ xt := xt_of (List.mem_of_getElem? (i := 842) (by decide +kernel)) (by decide +kernel)
theorem mm_843 : Cond.classLink "ShareKeeper" 122 "java/util/NoSuchElementException" ∈ xt := xt_of (List.mem_of_getElem? (i := 843) (by decide +kernel)) (by decide +kernel)
theorem mm_844 : Cond.instantiable "java/util/NoSuchElementException" 6 ∈ xt := xt_of (List.mem_of_getElem? (i := 844) (by decide +kernel)) (by decide +kernel)
theorem mm_852 : Cond.selects "java/util/NoSuchElementException" ⟨"java/lang/Throwable", "fillInStackTrace", "(I)Ljava/lang/Throwable;"⟩ ⟨"java/lang/Throwable", "fillInStackTrace", "(I)Ljava/lang/Throwable;"⟩ ∈ xt := xt_of (List.mem_of_getElem? (i := 852) (by decide +kernel)) (by decide +kernel)
theorem mm_853 : Cond.selects "java/util/NoSuchElementException" ⟨"java/lang/Throwable", "fillInStackTrace", "()Ljava/lang/Throwable;"⟩ ⟨"java/lang/Throwable", "fillInStackTrace", "()Ljava/lang/Throwable;"⟩ ∈ xt := xt_of (List.mem_of_getElem? (i := 853) (by decide +kernel)) (by decide +kernel)
theorem mm_864 : Cond.fieldLink "java/lang/Throwable" 198 "java/lang/Throwable" "backtrace" "Ljava/lang/Object;" ∈ xt := xt_of (List.mem_of_getElem? (i := 864) (by decide +kernel)) (by decide +kernel)
theorem mm_866 : Cond.instanceMethod ⟨"java/lang/Throwable", "<init>", "()V"⟩ ∈ xt := xt_of (List.mem_of_getElem? (i := 866) (by decide +kernel)) (by decide +kernel)
theorem mm_867 : Cond.code ⟨"java/lang/Throwable", "<init>", "()V"⟩ prog_22_method_1_code 1 none ∈ xt := xt_of (List.mem_of_getElem? (i := 867) (by decide +kernel)) (by decide +kernel)
theorem mm_868 : Cond.methodLink "java/lang/Throwable" 1 ⟨"java/lang/Object", "<init>", "()V"⟩ ∈ xt := xt_of (List.mem_of_getElem? (i := 868) (by decide +kernel)) (by decide +kernel)
theorem mm_869 : Cond.fieldLink "java/lang/Throwable" 13 "java/lang/Throwable" "UNASSIGNED_STACK" "[Ljava/lang/StackTraceElement;" ∈ xt := xt_of (List.mem_of_getElem? (i := 869) (by decide +kernel)) (by decide +kernel)
theorem mm_871 : Cond.fieldLink "java/lang/Throwable" 20 "java/lang/Throwable" "SUPPRESSED_SENTINEL" "Ljava/util/List;" ∈ xt := xt_of (List.mem_of_getElem? (i := 871) (by decide +kernel)) (by decide +kernel)
theorem mm_873 : Cond.methodLink "java/lang/Throwable" 27 ⟨"java/lang/Throwable", "fillInStackTrace", "()Ljava/lang/Throwable;"⟩ ∈ xt := xt_of (List.mem_of_getElem? (i := 873) (by decide +kernel)) (by decide +kernel)
theorem mm_874 : Cond.instanceMethod ⟨"java/lang/Throwable", "fillInStackTrace", "()Ljava/lang/Throwable;"⟩ ∈ xt := xt_of (List.mem_of_getElem? (i := 874) (by decide +kernel)) (by decide +kernel)
theorem mm_877 : Cond.methodLink "java/lang/Throwable" 202 ⟨"java/lang/Throwable", "fillInStackTrace", "(I)Ljava/lang/Throwable;"⟩ ∈ xt := xt_of (List.mem_of_getElem? (i := 877) (by decide +kernel)) (by decide +kernel)
theorem mm_879 : Cond.instanceMethod ⟨"java/lang/Throwable", "fillInStackTrace", "(I)Ljava/lang/Throwable;"⟩ ∈ xt := xt_of (List.mem_of_getElem? (i := 879) (by decide +kernel)) (by decide +kernel)
theorem mm_880 : Cond.instantiable "java/lang/Throwable" 6 ∈ xt := xt_of (List.mem_of_getElem? (i := 880) (by decide +kernel)) (by decide +kernel)
theorem mm_882 : Cond.methodLink "ShareKeeper" 124 ⟨"java/util/NoSuchElementException", "<init>", "()V"⟩ ∈ xt := xt_of (List.mem_of_getElem? (i := 882) (by decide +kernel)) (by decide +kernel)
theorem mm_883 : Cond.instanceMethod ⟨"java/util/NoSuchElementException", "<init>", "()V"⟩ ∈ xt := xt_of (List.mem_of_getElem? (i := 883) (by decide +kernel)) (by decide +kernel)
theorem mm_884 : Cond.code ⟨"java/util/NoSuchElementException", "<init>", "()V"⟩ prog_29_method_1_code 1 none ∈ xt := xt_of (List.mem_of_getElem? (i := 884) (by decide +kernel)) (by decide +kernel)
theorem mm_885 : Cond.methodLink "java/util/NoSuchElementException" 1 ⟨"java/lang/RuntimeException", "<init>", "()V"⟩ ∈ xt := xt_of (List.mem_of_getElem? (i := 885) (by decide +kernel)) (by decide +kernel)
theorem mm_886 : Cond.instanceMethod ⟨"java/lang/RuntimeException", "<init>", "()V"⟩ ∈ xt := xt_of (List.mem_of_getElem? (i := 886) (by decide +kernel)) (by decide +kernel)
theorem mm_887 : Cond.code ⟨"java/lang/RuntimeException", "<init>", "()V"⟩ prog_20_method_1_code 1 none ∈ xt := xt_of (List.mem_of_getElem? (i := 887) (by decide +kernel)) (by decide +kernel)
theorem mm_888 : Cond.methodLink "java/lang/RuntimeException" 1 ⟨"java/lang/Exception", "<init>", "()V"⟩ ∈ xt := xt_of (List.mem_of_getElem? (i := 888) (by decide +kernel)) (by decide +kernel)
theorem mm_889 : Cond.instanceMethod ⟨"java/lang/Exception", "<init>", "()V"⟩ ∈ xt := xt_of (List.mem_of_getElem? (i := 889) (by decide +kernel)) (by decide +kernel)
theorem mm_890 : Cond.code ⟨"java/lang/Exception", "<init>", "()V"⟩ prog_16_method_1_code 1 none ∈ xt := xt_of (List.mem_of_getElem? (i := 890) (by decide +kernel)) (by decide +kernel)
theorem mm_891 : Cond.methodLink "java/lang/Exception" 1 ⟨"java/lang/Throwable", "<init>", "()V"⟩ ∈ xt := xt_of (List.mem_of_getElem? (i := 891) (by decide +kernel)) (by decide +kernel)
theorem mm_893 : Cond.fieldLink "java/lang/Throwable" 7 "java/lang/Throwable" "cause" "Ljava/lang/Throwable;" ∈ xt := xt_of (List.mem_of_getElem? (i := 893) (by decide +kernel)) (by decide +kernel)
theorem mm_894 : Cond.fieldLink "java/lang/Throwable" 17 "java/lang/Throwable" "stackTrace" "[Ljava/lang/StackTraceElement;" ∈ xt := xt_of (List.mem_of_getElem? (i := 894) (by decide +kernel)) (by decide +kernel)
theorem mm_895 : Cond.fieldLink "java/lang/Throwable" 24 "java/lang/Throwable" "suppressedExceptions" "Ljava/util/List;" ∈ xt := xt_of (List.mem_of_getElem? (i := 895) (by decide +kernel)) (by decide +kernel)
theorem mm_904 : Cond.methodLink "ShareKeeper" 125 ⟨"ShareKeeper$Promise", "left", "(I)I"⟩ ∈ xt := xt_of (List.mem_of_getElem? (i := 904) (by decide +kernel)) (by decide +kernel)
theorem mm_905 : Cond.instanceMethod ⟨"ShareKeeper$Promise", "left", "(I)I"⟩ ∈ xt := xt_of (List.mem_of_getElem? (i := 905) (by decide +kernel)) (by decide +kernel)
theorem mm_906 : Cond.selects "ShareKeeper$Promise" ⟨"ShareKeeper$Promise", "left", "(I)I"⟩ ⟨"ShareKeeper$Promise", "left", "(I)I"⟩ ∈ xt := xt_of (List.mem_of_getElem? (i := 906) (by decide +kernel)) (by decide +kernel)
theorem mm_907 : Cond.code ⟨"ShareKeeper$Promise", "left", "(I)I"⟩ prog_8_method_6_code 2 (some .int) ∈ xt := xt_of (List.mem_of_getElem? (i := 907) (by decide +kernel)) (by decide +kernel)
theorem mm_908 : Cond.methodLink "ShareKeeper" 132 ⟨"ShareKeeper$Promise", "mostLeft", "(II)I"⟩ ∈ xt := xt_of (List.mem_of_getElem? (i := 908) (by decide +kernel)) (by decide +kernel)
theorem mm_909 : Cond.instanceMethod ⟨"ShareKeeper$Promise", "mostLeft", "(II)I"⟩ ∈ xt := xt_of (List.mem_of_getElem? (i := 909) (by decide +kernel)) (by decide +kernel)
theorem mm_910 : Cond.selects "ShareKeeper$Promise" ⟨"ShareKeeper$Promise", "mostLeft", "(II)I"⟩ ⟨"ShareKeeper$Promise", "mostLeft", "(II)I"⟩ ∈ xt := xt_of (List.mem_of_getElem? (i := 910) (by decide +kernel)) (by decide +kernel)
theorem mm_911 : Cond.code ⟨"ShareKeeper$Promise", "mostLeft", "(II)I"⟩ prog_8_method_8_code 3 (some .int) ∈ xt := xt_of (List.mem_of_getElem? (i := 911) (by decide +kernel)) (by decide +kernel)
theorem mm_912 : Cond.methodLink "ShareKeeper" 135 ⟨"ShareKeeper$Promise", "verdict", "(II)I"⟩ ∈ xt := xt_of (List.mem_of_getElem? (i := 912) (by decide +kernel)) (by decide +kernel)
theorem mm_913 : Cond.instanceMethod ⟨"ShareKeeper$Promise", "verdict", "(II)I"⟩ ∈ xt := xt_of (List.mem_of_getElem? (i := 913) (by decide +kernel)) (by decide +kernel)
theorem mm_914 : Cond.selects "ShareKeeper$Promise" ⟨"ShareKeeper$Promise", "verdict", "(II)I"⟩ ⟨"ShareKeeper$Promise", "verdict", "(II)I"⟩ ∈ xt := xt_of (List.mem_of_getElem? (i := 914) (by decide +kernel)) (by decide +kernel)
theorem mm_915 : Cond.code ⟨"ShareKeeper$Promise", "verdict", "(II)I"⟩ prog_8_method_9_code 3 (some .int) ∈ xt := xt_of (List.mem_of_getElem? (i := 915) (by decide +kernel)) (by decide +kernel)
theorem mm_916 : Cond.methodLink "ShareKeeper$Promise" 64 ⟨"ShareKeeper$Promise", "leastLeft", "(II)I"⟩ ∈ xt := xt_of (List.mem_of_getElem? (i := 916) (by decide +kernel)) (by decide +kernel)
theorem mm_917 : Cond.methodLink "ShareKeeper$Promise" 67 ⟨"ShareKeeper$Promise", "mostLeft", "(II)I"⟩ ∈ xt := xt_of (List.mem_of_getElem? (i := 917) (by decide +kernel)) (by decide +kernel)
theorem mm_918 : Cond.methodLink "ShareKeeper" 138 ⟨"ShareKeeper$Promise", "settledFrom", "(I)I"⟩ ∈ xt := xt_of (List.mem_of_getElem? (i := 918) (by decide +kernel)) (by decide +kernel)
theorem mm_919 : Cond.instanceMethod ⟨"ShareKeeper$Promise", "settledFrom", "(I)I"⟩ ∈ xt := xt_of (List.mem_of_getElem? (i := 919) (by decide +kernel)) (by decide +kernel)
theorem mm_920 : Cond.selects "ShareKeeper$Promise" ⟨"ShareKeeper$Promise", "settledFrom", "(I)I"⟩ ⟨"ShareKeeper$Promise", "settledFrom", "(I)I"⟩ ∈ xt := xt_of (List.mem_of_getElem? (i := 920) (by decide +kernel)) (by decide +kernel)
theorem mm_921 : Cond.code ⟨"ShareKeeper$Promise", "settledFrom", "(I)I"⟩ prog_8_method_10_code 4 (some .int) ∈ xt := xt_of (List.mem_of_getElem? (i := 921) (by decide +kernel)) (by decide +kernel)
theorem mm_923 : Cond.methodLink "ShareKeeper$Promise" 76 ⟨"java/util/List", "isEmpty", "()Z"⟩ ∈ xt := xt_of (List.mem_of_getElem? (i := 923) (by decide +kernel)) (by decide +kernel)
theorem mm_926 : Cond.selects "java/util/ArrayList" ⟨"java/util/List", "isEmpty", "()Z"⟩ ⟨"java/util/ArrayList", "isEmpty", "()Z"⟩ ∈ xt := xt_of (List.mem_of_getElem? (i := 926) (by decide +kernel)) (by decide +kernel)
theorem mm_928 : Cond.instanceMethod ⟨"java/util/ArrayList", "isEmpty", "()Z"⟩ ∈ xt := xt_of (List.mem_of_getElem? (i := 928) (by decide +kernel)) (by decide +kernel)
theorem mm_930 : Cond.code ⟨"java/util/ArrayList", "isEmpty", "()Z"⟩ prog_25_method_9_code 1 (some .boolean) ∈ xt := xt_of (List.mem_of_getElem? (i := 930) (by decide +kernel)) (by decide +kernel)
theorem mm_931 : Cond.methodLink "ShareKeeper$Promise" 86 ⟨"ShareKeeper$Service", "latest", "()I"⟩ ∈ xt := xt_of (List.mem_of_getElem? (i := 931) (by decide +kernel)) (by decide +kernel)
theorem mm_932 : Cond.instanceMethod ⟨"ShareKeeper$Service", "latest", "()I"⟩ ∈ xt := xt_of (List.mem_of_getElem? (i := 932) (by decide +kernel)) (by decide +kernel)
theorem mm_933 : Cond.selects "ShareKeeper$Service" ⟨"ShareKeeper$Service", "latest", "()I"⟩ ⟨"ShareKeeper$Service", "latest", "()I"⟩ ∈ xt := xt_of (List.mem_of_getElem? (i := 933) (by decide +kernel)) (by decide +kernel)
theorem mm_934 : Cond.code ⟨"ShareKeeper$Service", "latest", "()I"⟩ prog_9_method_9_code 3 (some .int) ∈ xt := xt_of (List.mem_of_getElem? (i := 934) (by decide +kernel)) (by decide +kernel)
theorem mm_935 : Cond.methodLink "ShareKeeper" 141 ⟨"ShareKeeper$Promise", "asks", "(I)I"⟩ ∈ xt := xt_of (List.mem_of_getElem? (i := 935) (by decide +kernel)) (by decide +kernel)
theorem mm_936 : Cond.methodLink "ShareKeeper" 144 ⟨"ShareKeeper$Promise", "bad", "(I)I"⟩ ∈ xt := xt_of (List.mem_of_getElem? (i := 936) (by decide +kernel)) (by decide +kernel)
theorem mm_937 : Cond.classLink "ShareKeeperLaw" 16 "ShareKeeperModel" ∈ xt := xt_of (List.mem_of_getElem? (i := 937) (by decide +kernel)) (by decide +kernel)
theorem mm_938 : Cond.instantiable "ShareKeeperModel" 42 ∈ xt := xt_of (List.mem_of_getElem? (i := 938) (by decide +kernel)) (by decide +kernel)
theorem mm_939 : Cond.methodLink "ShareKeeperLaw" 18 ⟨"ShareKeeperModel", "<init>", "()V"⟩ ∈ xt := xt_of (List.mem_of_getElem? (i := 939) (by decide +kernel)) (by decide +kernel)
theorem mm_940 : Cond.instanceMethod ⟨"ShareKeeperModel", "<init>", "()V"⟩ ∈ xt := xt_of (List.mem_of_getElem? (i := 940) (by decide +kernel)) (by decide +kernel)
theorem mm_941 : Cond.code ⟨"ShareKeeperModel", "<init>", "()V"⟩ prog_13_method_1_code 1 none ∈ xt := xt_of (List.mem_of_getElem? (i := 941) (by decide +kernel)) (by decide +kernel)
theorem mm_942 : Cond.methodLink "ShareKeeperModel" 1 ⟨"java/lang/Object", "<init>", "()V"⟩ ∈ xt := xt_of (List.mem_of_getElem? (i := 942) (by decide +kernel)) (by decide +kernel)
theorem mm_943 : Cond.fieldLink "ShareKeeperModel" 93 "ShareKeeperModel" "thrown" "I" ∈ xt := xt_of (List.mem_of_getElem? (i := 943) (by decide +kernel)) (by decide +kernel)
theorem mm_944 : Cond.fieldLink "ShareKeeperModel" 97 "ShareKeeperModel" "services" "I" ∈ xt := xt_of (List.mem_of_getElem? (i := 944) (by decide +kernel)) (by decide +kernel)
theorem mm_945 : Cond.fieldLink "ShareKeeperModel" 104 "ShareKeeperModel" "sources" "I" ∈ xt := xt_of (List.mem_of_getElem? (i := 945) (by decide +kernel)) (by decide +kernel)
theorem mm_946 : Cond.fieldLink "ShareKeeperModel" 7 "ShareKeeperModel" "serviceOf" "[I" ∈ xt := xt_of (List.mem_of_getElem? (i := 946) (by decide +kernel)) (by decide +kernel)
theorem mm_947 : Cond.fieldLink "ShareKeeperModel" 13 "ShareKeeperModel" "late" "[I" ∈ xt := xt_of (List.mem_of_getElem? (i := 947) (by decide +kernel)) (by decide +kernel)
theorem mm_948 : Cond.fieldLink "ShareKeeperModel" 16 "ShareKeeperModel" "most" "[I" ∈ xt := xt_of (List.mem_of_getElem? (i := 948) (by decide +kernel)) (by decide +kernel)
theorem mm_949 : Cond.fieldLink "ShareKeeperModel" 19 "ShareKeeperModel" "asks" "[I" ∈ xt := xt_of (List.mem_of_getElem? (i := 949) (by decide +kernel)) (by decide +kernel)
theorem mm_950 : Cond.fieldLink "ShareKeeperModel" 22 "ShareKeeperModel" "bads" "[I" ∈ xt := xt_of (List.mem_of_getElem? (i := 950) (by decide +kernel)) (by decide +kernel)
theorem mm_951 : Cond.fieldLink "ShareKeeperModel" 25 "ShareKeeperModel" "isTaken" "[Z" ∈ xt := xt_of (List.mem_of_getElem? (i := 951) (by decide +kernel)) (by decide +kernel)
theorem mm_952 : Cond.fieldLink "ShareKeeperModel" 110 "ShareKeeperModel" "now" "I" ∈ xt := xt_of (List.mem_of_getElem? (i := 952) (by decide +kernel)) (by decide +kernel)
theorem mm_953 : Cond.fieldLink "ShareKeeperModel" 113 "ShareKeeperModel" "taken" "I" ∈ xt := xt_of (List.mem_of_getElem? (i := 953) (by decide +kernel)) (by decide +kernel)
theorem mm_954 : Cond.fieldLink "ShareKeeperModel" 107 "ShareKeeperModel" "again" "I" ∈ xt := xt_of (List.mem_of_getElem? (i := 954) (by decide +kernel)) (by decide +kernel)
theorem mm_955 : Cond.fieldLink "ShareKeeperModel" 116 "ShareKeeperModel" "sumAsks" "J" ∈ xt := xt_of (List.mem_of_getElem? (i := 955) (by decide +kernel)) (by decide +kernel)
theorem mm_956 : Cond.fieldLink "ShareKeeperModel" 120 "ShareKeeperModel" "sumBads" "J" ∈ xt := xt_of (List.mem_of_getElem? (i := 956) (by decide +kernel)) (by decide +kernel)
theorem mm_957 : Cond.fieldLink "ShareKeeperModel" 123 "ShareKeeperModel" "sumOpen" "J" ∈ xt := xt_of (List.mem_of_getElem? (i := 957) (by decide +kernel)) (by decide +kernel)
theorem mm_958 : Cond.fieldLink "ShareKeeperModel" 134 "ShareKeeperModel" "promises" "I" ∈ xt := xt_of (List.mem_of_getElem? (i := 958) (by decide +kernel)) (by decide +kernel)
theorem mm_959 : Cond.fieldLink "ShareKeeperModel" 29 "ShareKeeperModel" "about" "[I" ∈ xt := xt_of (List.mem_of_getElem? (i := 959) (by decide +kernel)) (by decide +kernel)
theorem mm_960 : Cond.fieldLink "ShareKeeperModel" 32 "ShareKeeperModel" "wide" "[I" ∈ xt := xt_of (List.mem_of_getElem? (i := 960) (by decide +kernel)) (by decide +kernel)
theorem mm_961 : Cond.fieldLink "ShareKeeperModel" 35 "ShareKeeperModel" "share" "[I" ∈ xt := xt_of (List.mem_of_getElem? (i := 961) (by decide +kernel)) (by decide +kernel)
theorem mm_962 : Cond.fieldLink "ShareKeeperModel" 38 "ShareKeeperModel" "isFixed" "[Z" ∈ xt := xt_of (List.mem_of_getElem? (i := 962) (by decide +kernel)) (by decide +kernel)
theorem mm_963 : Cond.fieldLink "ShareKeeperModel" 41 "ShareKeeperModel" "graces" "[I" ∈ xt := xt_of (List.mem_of_getElem? (i := 963) (by decide +kernel)) (by decide +kernel)
theorem mm_964 : Cond.fieldLink "ShareKeeperModel" 44 "ShareKeeperModel" "graceLow" "[I" ∈ xt := xt_of (List.mem_of_getElem? (i := 964) (by decide +kernel)) (by decide +kernel)
theorem mm_965 : Cond.fieldLink "ShareKeeperModel" 47 "ShareKeeperModel" "graceHigh" "[I" ∈ xt := xt_of (List.mem_of_getElem? (i := 965) (by decide +kernel)) (by decide +kernel)
theorem mm_966 : Cond.fieldLink "ShareKeeperModel" 140 "ShareKeeperModel" "lastOf" "I" ∈ xt := xt_of (List.mem_of_getElem? (i := 966) (by decide +kernel)) (by decide +kernel)
theorem mm_967 : Cond.fieldLink "ShareKeeperModel" 171 "ShareKeeperModel" "parts" "I" ∈ xt := xt_of (List.mem_of_getElem? (i := 967) (by decide +kernel)) (by decide +kernel)
theorem mm_968 : Cond.fieldLink "ShareKeeperModel" 50 "ShareKeeperModel" "part" "[I" ∈ xt := xt_of (List.mem_of_getElem? (i := 968) (by decide +kernel)) (by decide +kernel)
theorem mm_969 : Cond.fieldLink "ShareKeeperModel" 178 "ShareKeeperModel" "alarms" "I" ∈ xt := xt_of (List.mem_of_getElem? (i := 969) (by decide +kernel)) (by decide +kernel)
theorem mm_970 : Cond.fieldLink "ShareKeeperModel" 53 "ShareKeeperModel" "alarmOf" "[I" ∈ xt := xt_of (List.mem_of_getElem? (i := 970) (by decide +kernel)) (by decide +kernel)
theorem mm_971 : Cond.fieldLink "ShareKeeperModel" 56 "ShareKeeperModel" "alarmA" "[I" ∈ xt := xt_of (List.mem_of_getElem? (i := 971) (by decide +kernel)) (by decide +kernel)
theorem mm_972 : Cond.fieldLink "ShareKeeperModel" 59 "ShareKeeperModel" "alarmB" "[I" ∈ xt := xt_of (List.mem_of_getElem? (i := 972) (by decide +kernel)) (by decide +kernel)
theorem mm_973 : Cond.fieldLink "ShareKeeperModel" 62 "ShareKeeperModel" "alarmR" "[I" ∈ xt := xt_of (List.mem_of_getElem? (i := 973) (by decide +kernel)) (by decide +kernel)
theorem mm_974 : Cond.fieldLink "ShareKeeperModel" 65 "ShareKeeperModel" "allTo" "[J" ∈ xt := xt_of (List.mem_of_getElem? (i := 974) (by decide +kernel)) (by decide +kernel)
theorem mm_975 : Cond.fieldLink "ShareKeeperModel" 69 "ShareKeeperModel" "badTo" "[J" ∈ xt := xt_of (List.mem_of_getElem? (i := 975) (by decide +kernel)) (by decide +kernel)
theorem mm_976 : Cond.fieldLink "ShareKeeperModel" 216 "ShareKeeperModel" "changes" "I" ∈ xt := xt_of (List.mem_of_getElem? (i := 976) (by decide +kernel)) (by decide +kernel)
theorem mm_977 : Cond.fieldLink "ShareKeeperModel" 72 "ShareKeeperModel" "changeOf" "[I" ∈ xt := xt_of (List.mem_of_getElem? (i := 977) (by decide +kernel)) (by decide +kernel)
theorem mm_978 : Cond.fieldLink "ShareKeeperModel" 75 "ShareKeeperModel" "guess" "[I" ∈ xt := xt_of (List.mem_of_getElem? (i := 978) (by decide +kernel)) (by decide +kernel)
theorem mm_979 : Cond.fieldLink "ShareKeeperModel" 78 "ShareKeeperModel" "worth" "[I" ∈ xt := xt_of (List.mem_of_getElem? (i := 979) (by decide +kernel)) (by decide +kernel)
theorem mm_980 : Cond.fieldLink "ShareKeeperModel" 81 "ShareKeeperModel" "state" "[I" ∈ xt := xt_of (List.mem_of_getElem? (i := 980) (by decide +kernel)) (by decide +kernel)
theorem mm_981 : Cond.fieldLink "ShareKeeperModel" 84 "ShareKeeperModel" "cost" "[I" ∈ xt := xt_of (List.mem_of_getElem? (i := 981) (by decide +kernel)) (by decide +kernel)
theorem mm_982 : Cond.fieldLink "ShareKeeperModel" 225 "ShareKeeperModel" "plans" "I" ∈ xt := xt_of (List.mem_of_getElem? (i := 982) (by decide +kernel)) (by decide +kernel)
theorem mm_983 : Cond.fieldLink "ShareKeeperModel" 87 "ShareKeeperModel" "planned" "[I" ∈ xt := xt_of (List.mem_of_getElem? (i := 983) (by decide +kernel)) (by decide +kernel)
theorem mm_984 : Cond.fieldLink "ShareKeeperModel" 90 "ShareKeeperModel" "choice" "[I" ∈ xt := xt_of (List.mem_of_getElem? (i := 984) (by decide +kernel)) (by decide +kernel)
theorem mm_1070 : Cond.arrayClass .long ∈ xt := xt_of (List.mem_of_getElem? (i := 1070) (by decide +kernel)) (by decide +kernel)
theorem mm_1071 : Cond.methodLink "ShareKeeperLaw" 59 ⟨"ShareKeeperModel", "thrown", "()I"⟩ ∈ xt := xt_of (List.mem_of_getElem? (i := 1071) (by decide +kernel)) (by decide +kernel)
theorem mm_1072 : Cond.instanceMethod ⟨"ShareKeeperModel", "thrown", "()I"⟩ ∈ xt := xt_of (List.mem_of_getElem? (i := 1072) (by decide +kernel)) (by decide +kernel)
theorem mm_1073 : Cond.selects "ShareKeeperModel" ⟨"ShareKeeperModel", "thrown", "()I"⟩ ⟨"ShareKeeperModel", "thrown", "()I"⟩ ∈ xt := xt_of (List.mem_of_getElem? (i := 1073) (by decide +kernel)) (by decide +kernel)
theorem mm_1074 : Cond.code ⟨"ShareKeeperModel", "thrown", "()I"⟩ prog_13_method_2_code 1 (some .int) ∈ xt := xt_of (List.mem_of_getElem? (i := 1074) (by decide +kernel)) (by decide +kernel)
theorem mm_1075 : Cond.methodLink "ShareKeeperLaw" 23 ⟨"ShareKeeperModel", "service", "()I"⟩ ∈ xt := xt_of (List.mem_of_getElem? (i := 1075) (by decide +kernel)) (by decide +kernel)
theorem mm_1076 : Cond.instanceMethod ⟨"ShareKeeperModel", "service", "()I"⟩ ∈ xt := xt_of (List.mem_of_getElem? (i := 1076) (by decide +kernel)) (by decide +kernel)
theorem mm_1077 : Cond.selects "ShareKeeperModel" ⟨"ShareKeeperModel", "service", "()I"⟩ ⟨"ShareKeeperModel", "service", "()I"⟩ ∈ xt := xt_of (List.mem_of_getElem? (i := 1077) (by decide +kernel)) (by decide +kernel)
theorem mm_1078 : Cond.code ⟨"ShareKeeperModel", "service", "()I"⟩ prog_13_method_3_code 1 (some .int) ∈ xt := xt_of (List.mem_of_getElem? (i := 1078) (by decide +kernel)) (by decide +kernel)
theorem mm_1079 : Cond.methodLink "ShareKeeperLaw" 27 ⟨"ShareKeeperModel", "source", "(III)I"⟩ ∈ xt := xt_of (List.mem_of_getElem? (i := 1079) (by decide +kernel)) (by decide +kernel)
theorem mm_1080 : Cond.instanceMethod ⟨"ShareKeeperModel", "source", "(III)I"⟩ ∈ xt := xt_of (List.mem_of_getElem? (i := 1080) (by decide +kernel)) (by decide +kernel)
theorem mm_1081 : Cond.selects "ShareKeeperModel" ⟨"ShareKeeperModel", "source", "(III)I"⟩ ⟨"ShareKeeperModel", "source", "(III)I"⟩ ∈ xt := xt_of (List.mem_of_getElem? (i := 1081) (by decide +kernel)) (by decide +kernel)
theorem mm_1082 : Cond.code ⟨"ShareKeeperModel", "source", "(III)I"⟩ prog_13_method_5_code 4 (some .int) ∈ xt := xt_of (List.mem_of_getElem? (i := 1082) (by decide +kernel)) (by decide +kernel)
theorem mm_1083 : Cond.methodLink "ShareKeeperModel" 100 ⟨"ShareKeeperModel", "isService", "(I)Z"⟩ ∈ xt := xt_of (List.mem_of_getElem? (i := 1083) (by decide +kernel)) (by decide +kernel)
theorem mm_1085 : Cond.instanceMethod ⟨"ShareKeeperModel", "isService", "(I)Z"⟩ ∈ xt := xt_of (List.mem_of_getElem? (i := 1085) (by decide +kernel)) (by decide +kernel)
theorem mm_1086 : Cond.code ⟨"ShareKeeperModel", "isService", "(I)Z"⟩ prog_13_method_4_code 2 (some .boolean) ∈ xt := xt_of (List.mem_of_getElem? (i := 1086) (by decide +kernel)) (by decide +kernel)
theorem mm_1087 : Cond.methodLink "ShareKeeperLaw" 32 ⟨"ShareKeeperModel", "count", "(IIIII)I"⟩ ∈ xt := xt_of (List.mem_of_getElem? (i := 1087) (by decide +kernel)) (by decide +kernel)
theorem mm_1088 : Cond.instanceMethod ⟨"ShareKeeperModel", "count", "(IIIII)I"⟩ ∈ xt := xt_of (List.mem_of_getElem? (i := 1088) (by decide +kernel)) (by decide +kernel)
theorem mm_1089 : Cond.selects "ShareKeeperModel" ⟨"ShareKeeperModel", "count", "(IIIII)I"⟩ ⟨"ShareKeeperModel", "count", "(IIIII)I"⟩ ∈ xt := xt_of (List.mem_of_getElem? (i := 1089) (by decide +kernel)) (by decide +kernel)
theorem mm_1090 : Cond.code ⟨"ShareKeeperModel", "count", "(IIIII)I"⟩ prog_13_method_6_code 7 (some .int) ∈ xt := xt_of (List.mem_of_getElem? (i := 1090) (by decide +kernel)) (by decide +kernel)
theorem mm_1091 : Cond.methodLink "ShareKeeperLaw" 37 ⟨"ShareKeeperModel", "ticks", "(I)I"⟩ ∈ xt := xt_of (List.mem_of_getElem? (i := 1091) (by decide +kernel)) (by decide +kernel)
theorem mm_1092 : Cond.instanceMethod ⟨"ShareKeeperModel", "ticks", "(I)I"⟩ ∈ xt := xt_of (List.mem_of_getElem? (i := 1092) (by decide +kernel)) (by decide +kernel)
theorem mm_1093 : Cond.selects "ShareKeeperModel" ⟨"ShareKeeperModel", "ticks", "(I)I"⟩ ⟨"ShareKeeperModel", "ticks", "(I)I"⟩ ∈ xt := xt_of (List.mem_of_getElem? (i := 1093) (by decide +kernel)) (by decide +kernel)
theorem mm_1094 : Cond.code ⟨"ShareKeeperModel", "ticks", "(I)I"⟩ prog_13_method_7_code 2 (some .int) ∈ xt := xt_of (List.mem_of_getElem? (i := 1094) (by decide +kernel)) (by decide +kernel)
theorem mm_1095 : Cond.methodLink "ShareKeeperLaw" 52 ⟨"ShareKeeperModel", "sum", "(IIII)I"⟩ ∈ xt := xt_of (List.mem_of_getElem? (i := 1095) (by decide +kernel)) (by decide +kernel)
theorem mm_1096 : Cond.instanceMethod ⟨"ShareKeeperModel", "sum", "(IIII)I"⟩ ∈ xt := xt_of (List.mem_of_getElem? (i := 1096) (by decide +kernel)) (by decide +kernel)
theorem mm_1097 : Cond.selects "ShareKeeperModel" ⟨"ShareKeeperModel", "sum", "(IIII)I"⟩ ⟨"ShareKeeperModel", "sum", "(IIII)I"⟩ ∈ xt := xt_of (List.mem_of_getElem? (i := 1097) (by decide +kernel)) (by decide +kernel)
theorem mm_1098 : Cond.code ⟨"ShareKeeperModel", "sum", "(IIII)I"⟩ prog_13_method_10_code 5 (some .int) ∈ xt := xt_of (List.mem_of_getElem? (i := 1098) (by decide +kernel)) (by decide +kernel)
theorem mm_1099 : Cond.methodLink "ShareKeeperModel" 130 ⟨"ShareKeeperModel", "sums", "(III)V"⟩ ∈ xt := xt_of (List.mem_of_getElem? (i := 1099) (by decide +kernel)) (by decide +kernel)
theorem mm_1101 : Cond.instanceMethod ⟨"ShareKeeperModel", "sums", "(III)V"⟩ ∈ xt := xt_of (List.mem_of_getElem? (i := 1101) (by decide +kernel)) (by decide +kernel)
theorem mm_1102 : Cond.code ⟨"ShareKeeperModel", "sums", "(III)V"⟩ prog_13_method_9_code 5 none ∈ xt := xt_of (List.mem_of_getElem? (i := 1102) (by decide +kernel)) (by decide +kernel)
theorem mm_1103 : Cond.methodLink "ShareKeeperModel" 126 ⟨"ShareKeeperModel", "addTick", "(II)V"⟩ ∈ xt := xt_of (List.mem_of_getElem? (i := 1103) (by decide +kernel)) (by decide +kernel)
theorem mm_1105 : Cond.instanceMethod ⟨"ShareKeeperModel", "addTick", "(II)V"⟩ ∈ xt := xt_of (List.mem_of_getElem? (i := 1105) (by decide +kernel)) (by decide +kernel)
theorem mm_1106 : Cond.code ⟨"ShareKeeperModel", "addTick", "(II)V"⟩ prog_13_method_8_code 4 none ∈ xt := xt_of (List.mem_of_getElem? (i := 1106) (by decide +kernel)) (by decide +kernel)
theorem mm_1107 : Cond.methodLink "ShareKeeperLaw" 42 ⟨"ShareKeeperModel", "promise", "(IIIZ)I"⟩ ∈ xt := xt_of (List.mem_of_getElem? (i := 1107) (by decide +kernel)) (by decide +kernel)
theorem mm_1108 : Cond.instanceMethod ⟨"ShareKeeperModel", "promise", "(IIIZ)I"⟩ ∈ xt := xt_of (List.mem_of_getElem? (i := 1108) (by decide +kernel)) (by decide +kernel)
theorem mm_1109 : Cond.selects "ShareKeeperModel" ⟨"ShareKeeperModel", "promise", "(IIIZ)I"⟩ ⟨"ShareKeeperModel", "promise", "(IIIZ)I"⟩ ∈ xt := xt_of (List.mem_of_getElem? (i := 1109) (by decide +kernel)) (by decide +kernel)
theorem mm_1110 : Cond.code ⟨"ShareKeeperModel", "promise", "(IIIZ)I"⟩ prog_13_method_11_code 5 (some .int) ∈ xt := xt_of (List.mem_of_getElem? (i := 1110) (by decide +kernel)) (by decide +kernel)
theorem mm_1111 : Cond.methodLink "ShareKeeperLaw" 47 ⟨"ShareKeeperModel", "grace", "(III)Z"⟩ ∈ xt := xt_of (List.mem_of_getElem? (i := 1111) (by decide +kernel)) (by decide +kernel)
theorem mm_1112 : Cond.instanceMethod ⟨"ShareKeeperModel", "grace", "(III)Z"⟩ ∈ xt := xt_of (List.mem_of_getElem? (i := 1112) (by decide +kernel)) (by decide +kernel)
theorem mm_1113 : Cond.selects "ShareKeeperModel" ⟨"ShareKeeperModel", "grace", "(III)Z"⟩ ⟨"ShareKeeperModel", "grace", "(III)Z"⟩ ∈ xt := xt_of (List.mem_of_getElem? (i := 1113) (by decide +kernel)) (by decide +kernel)
theorem mm_1114 : Cond.code ⟨"ShareKeeperModel", "grace", "(III)Z"⟩ prog_13_method_13_code 4 (some .boolean) ∈ xt := xt_of (List.mem_of_getElem? (i := 1114) (by decide +kernel)) (by decide +kernel)
theorem mm_1115 : Cond.methodLink "ShareKeeperModel" 137 ⟨"ShareKeeperModel", "isPromise", "(I)Z"⟩ ∈ xt := xt_of (List.mem_of_getElem? (i := 1115) (by decide +kernel)) (by decide +kernel)
theorem mm_1117 : Cond.instanceMethod ⟨"ShareKeeperModel", "isPromise", "(I)Z"⟩ ∈ xt := xt_of (List.mem_of_getElem? (i := 1117) (by decide +kernel)) (by decide +kernel)
theorem mm_1118 : Cond.code ⟨"ShareKeeperModel", "isPromise", "(I)Z"⟩ prog_13_method_12_code 2 (some .boolean) ∈ xt := xt_of (List.mem_of_getElem? (i := 1118) (by decide +kernel)) (by decide +kernel)
theorem mm_1119 : Cond.methodLink "ShareKeeperLaw" 58 ⟨"ShareKeeperModel", "span", "(III)I"⟩ ∈ xt := xt_of (List.mem_of_getElem? (i := 1119) (by decide +kernel)) (by decide +kernel)
theorem mm_1120 : Cond.instanceMethod ⟨"ShareKeeperModel", "span", "(III)I"⟩ ∈ xt := xt_of (List.mem_of_getElem? (i := 1120) (by decide +kernel)) (by decide +kernel)
theorem mm_1121 : Cond.selects "ShareKeeperModel" ⟨"ShareKeeperModel", "span", "(III)I"⟩ ⟨"ShareKeeperModel", "span", "(III)I"⟩ ∈ xt := xt_of (List.mem_of_getElem? (i := 1121) (by decide +kernel)) (by decide +kernel)
theorem mm_1122 : Cond.code ⟨"ShareKeeperModel", "span", "(III)I"⟩ prog_13_method_21_code 4 (some .int) ∈ xt := xt_of (List.mem_of_getElem? (i := 1122) (by decide +kernel)) (by decide +kernel)
theorem mm_1123 : Cond.methodLink "ShareKeeperModel" 153 ⟨"ShareKeeperModel", "spans", "(II)V"⟩ ∈ xt := xt_of (List.mem_of_getElem? (i := 1123) (by decide +kernel)) (by decide +kernel)
theorem mm_1125 : Cond.instanceMethod ⟨"ShareKeeperModel", "spans", "(II)V"⟩ ∈ xt := xt_of (List.mem_of_getElem? (i := 1125) (by decide +kernel)) (by decide +kernel)
theorem mm_1126 : Cond.code ⟨"ShareKeeperModel", "spans", "(II)V"⟩ prog_13_method_15_code 6 none ∈ xt := xt_of (List.mem_of_getElem? (i := 1126) (by decide +kernel)) (by decide +kernel)
theorem mm_1127 : Cond.methodLink "ShareKeeperModel" 143 ⟨"ShareKeeperModel", "isGrace", "(II)Z"⟩ ∈ xt := xt_of (List.mem_of_getElem? (i := 1127) (by decide +kernel)) (by decide +kernel)
theorem mm_1129 : Cond.instanceMethod ⟨"ShareKeeperModel", "isGrace", "(II)Z"⟩ ∈ xt := xt_of (List.mem_of_getElem? (i := 1129) (by decide +kernel)) (by decide +kernel)
theorem mm_1130 : Cond.code ⟨"ShareKeeperModel", "isGrace", "(II)Z"⟩ prog_13_method_14_code 5 (some .boolean) ∈ xt := xt_of (List.mem_of_getElem? (i := 1130) (by decide +kernel)) (by decide +kernel)
theorem mm_1131 : Cond.methodLink "ShareKeeperModel" 149 ⟨"ShareKeeperModel", "leftOf", "(IJJ)J"⟩ ∈ xt := xt_of (List.mem_of_getElem? (i := 1131) (by decide +kernel)) (by decide +kernel)
theorem mm_1133 : Cond.instanceMethod ⟨"ShareKeeperModel", "leftOf", "(IJJ)J"⟩ ∈ xt := xt_of (List.mem_of_getElem? (i := 1133) (by decide +kernel)) (by decide +kernel)
theorem mm_1134 : Cond.code ⟨"ShareKeeperModel", "leftOf", "(IJJ)J"⟩ prog_13_method_16_code 6 (some .long) ∈ xt := xt_of (List.mem_of_getElem? (i := 1134) (by decide +kernel)) (by decide +kernel)
theorem mm_1135 : Cond.constantLong "ShareKeeperModel" 147 (1000) ∈ xt := xt_of (List.mem_of_getElem? (i := 1135) (by decide +kernel)) (by decide +kernel)
theorem mm_1136 : Cond.methodLink "ShareKeeperModel" 156 ⟨"ShareKeeperModel", "least", "(I)J"⟩ ∈ xt := xt_of (List.mem_of_getElem? (i := 1136) (by decide +kernel)) (by decide +kernel)
theorem mm_1138 : Cond.instanceMethod ⟨"ShareKeeperModel", "least", "(I)J"⟩ ∈ xt := xt_of (List.mem_of_getElem? (i := 1138) (by decide +kernel)) (by decide +kernel)
theorem mm_1139 : Cond.code ⟨"ShareKeeperModel", "least", "(I)J"⟩ prog_13_method_17_code 2 (some .long) ∈ xt := xt_of (List.mem_of_getElem? (i := 1139) (by decide +kernel)) (by decide +kernel)
theorem mm_1140 : Cond.methodLink "ShareKeeperModel" 160 ⟨"ShareKeeperModel", "greatest", "(I)J"⟩ ∈ xt := xt_of (List.mem_of_getElem? (i := 1140) (by decide +kernel)) (by decide +kernel)
theorem mm_1142 : Cond.instanceMethod ⟨"ShareKeeperModel", "greatest", "(I)J"⟩ ∈ xt := xt_of (List.mem_of_getElem? (i := 1142) (by decide +kernel)) (by decide +kernel)
theorem mm_1143 : Cond.code ⟨"ShareKeeperModel", "greatest", "(I)J"⟩ prog_13_method_18_code 2 (some .long) ∈ xt := xt_of (List.mem_of_getElem? (i := 1143) (by decide +kernel)) (by decide +kernel)
theorem mm_1144 : Cond.methodLink "ShareKeeperModel" 163 ⟨"ShareKeeperModel", "isWhole", "(I)Z"⟩ ∈ xt := xt_of (List.mem_of_getElem? (i := 1144) (by decide +kernel)) (by decide +kernel)
theorem mm_1146 : Cond.instanceMethod ⟨"ShareKeeperModel", "isWhole", "(I)Z"⟩ ∈ xt := xt_of (List.mem_of_getElem? (i := 1146) (by decide +kernel)) (by decide +kernel)
theorem mm_1147 : Cond.code ⟨"ShareKeeperModel", "isWhole", "(I)Z"⟩ prog_13_method_19_code 2 (some .boolean) ∈ xt := xt_of (List.mem_of_getElem? (i := 1147) (by decide +kernel)) (by decide +kernel)
theorem mm_1148 : Cond.methodLink "ShareKeeperModel" 166 ⟨"ShareKeeperModel", "settledAt", "(I)I"⟩ ∈ xt := xt_of (List.mem_of_getElem? (i := 1148) (by decide +kernel)) (by decide +kernel)
theorem mm_1150 : Cond.instanceMethod ⟨"ShareKeeperModel", "settledAt", "(I)I"⟩ ∈ xt := xt_of (List.mem_of_getElem? (i := 1150) (by decide +kernel)) (by decide +kernel)
theorem mm_1151 : Cond.code ⟨"ShareKeeperModel", "settledAt", "(I)I"⟩ prog_13_method_20_code 4 (some .int) ∈ xt := xt_of (List.mem_of_getElem? (i := 1151) (by decide +kernel)) (by decide +kernel)
theorem mm_1152 : Cond.methodLink "ShareKeeperLaw" 66 ⟨"ShareKeeperModel", "broken", "(II)I"⟩ ∈ xt := xt_of (List.mem_of_getElem? (i := 1152) (by decide +kernel)) (by decide +kernel)
theorem mm_1153 : Cond.instanceMethod ⟨"ShareKeeperModel", "broken", "(II)I"⟩ ∈ xt := xt_of (List.mem_of_getElem? (i := 1153) (by decide +kernel)) (by decide +kernel)
theorem mm_1154 : Cond.selects "ShareKeeperModel" ⟨"ShareKeeperModel", "broken", "(II)I"⟩ ⟨"ShareKeeperModel", "broken", "(II)I"⟩ ∈ xt := xt_of (List.mem_of_getElem? (i := 1154) (by decide +kernel)) (by decide +kernel)
theorem mm_1155 : Cond.code ⟨"ShareKeeperModel", "broken", "(II)I"⟩ prog_13_method_22_code 4 (some .int) ∈ xt := xt_of (List.mem_of_getElem? (i := 1155) (by decide +kernel)) (by decide +kernel)
theorem mm_1156 : Cond.methodLink "ShareKeeperLaw" 70 ⟨"ShareKeeperModel", "part", "(I)I"⟩ ∈ xt := xt_of (List.mem_of_getElem? (i := 1156) (by decide +kernel)) (by decide +kernel)
theorem mm_1157 : Cond.instanceMethod ⟨"ShareKeeperModel", "part", "(I)I"⟩ ∈ xt := xt_of (List.mem_of_getElem? (i := 1157) (by decide +kernel)) (by decide +kernel)
theorem mm_1158 : Cond.selects "ShareKeeperModel" ⟨"ShareKeeperModel", "part", "(I)I"⟩ ⟨"ShareKeeperModel", "part", "(I)I"⟩ ∈ xt := xt_of (List.mem_of_getElem? (i := 1158) (by decide +kernel)) (by decide +kernel)
theorem mm_1159 : Cond.code ⟨"ShareKeeperModel", "part", "(I)I"⟩ prog_13_method_23_code 2 (some .int) ∈ xt := xt_of (List.mem_of_getElem? (i := 1159) (by decide +kernel)) (by decide +kernel)
theorem mm_1160 : Cond.constant "ShareKeeperModel" 170 (100000) ∈ xt := xt_of (List.mem_of_getElem? (i := 1160) (by decide +kernel)) (by decide +kernel)
theorem mm_1161 : Cond.methodLink "ShareKeeperLaw" 74 ⟨"ShareKeeperModel", "made", "(III)I"⟩ ∈ xt := xt_of (List.mem_of_getElem? (i := 1161) (by decide +kernel)) (by decide +kernel)
theorem mm_1162 : Cond.instanceMethod ⟨"ShareKeeperModel", "made", "(III)I"⟩ ∈ xt := xt_of (List.mem_of_getElem? (i := 1162) (by decide +kernel)) (by decide +kernel)
theorem mm_1163 : Cond.selects "ShareKeeperModel" ⟨"ShareKeeperModel", "made", "(III)I"⟩ ⟨"ShareKeeperModel", "made", "(III)I"⟩ ∈ xt := xt_of (List.mem_of_getElem? (i := 1163) (by decide +kernel)) (by decide +kernel)
theorem mm_1164 : Cond.code ⟨"ShareKeeperModel", "made", "(III)I"⟩ prog_13_method_25_code 9 (some .int) ∈ xt := xt_of (List.mem_of_getElem? (i := 1164) (by decide +kernel)) (by decide +kernel)
theorem mm_1165 : Cond.methodLink "ShareKeeperModel" 174 ⟨"ShareKeeperModel", "marks", "(IZI)J"⟩ ∈ xt := xt_of (List.mem_of_getElem? (i := 1165) (by decide +kernel)) (by decide +kernel)
theorem mm_1167 : Cond.instanceMethod ⟨"ShareKeeperModel", "marks", "(IZI)J"⟩ ∈ xt := xt_of (List.mem_of_getElem? (i := 1167) (by decide +kernel)) (by decide +kernel)
theorem mm_1168 : Cond.code ⟨"ShareKeeperModel", "marks", "(IZI)J"⟩ prog_13_method_24_code 7 (some .long) ∈ xt := xt_of (List.mem_of_getElem? (i := 1168) (by decide +kernel)) (by decide +kernel)
theorem mm_1169 : Cond.methodLink "ShareKeeperLaw" 78 ⟨"ShareKeeperModel", "alarm", "(IIII)I"⟩ ∈ xt := xt_of (List.mem_of_getElem? (i := 1169) (by decide +kernel)) (by decide +kernel)
theorem mm_1170 : Cond.instanceMethod ⟨"ShareKeeperModel", "alarm", "(IIII)I"⟩ ∈ xt := xt_of (List.mem_of_getElem? (i := 1170) (by decide +kernel)) (by decide +kernel)
theorem mm_1171 : Cond.selects "ShareKeeperModel" ⟨"ShareKeeperModel", "alarm", "(IIII)I"⟩ ⟨"ShareKeeperModel", "alarm", "(IIII)I"⟩ ∈ xt := xt_of (List.mem_of_getElem? (i := 1171) (by decide +kernel)) (by decide +kernel)
theorem mm_1172 : Cond.code ⟨"ShareKeeperModel", "alarm", "(IIII)I"⟩ prog_13_method_26_code 5 (some .int) ∈ xt := xt_of (List.mem_of_getElem? (i := 1172) (by decide +kernel)) (by decide +kernel)
theorem mm_1173 : Cond.methodLink "ShareKeeperLaw" 82 ⟨"ShareKeeperModel", "rings", "(II)I"⟩ ∈ xt := xt_of (List.mem_of_getElem? (i := 1173) (by decide +kernel)) (by decide +kernel)
theorem mm_1174 : Cond.instanceMethod ⟨"ShareKeeperModel", "rings", "(II)I"⟩ ∈ xt := xt_of (List.mem_of_getElem? (i := 1174) (by decide +kernel)) (by decide +kernel)
theorem mm_1175 : Cond.selects "ShareKeeperModel" ⟨"ShareKeeperModel", "rings", "(II)I"⟩ ⟨"ShareKeeperModel", "rings", "(II)I"⟩ ∈ xt := xt_of (List.mem_of_getElem? (i := 1175) (by decide +kernel)) (by decide +kernel)
theorem mm_1176 : Cond.code ⟨"ShareKeeperModel", "rings", "(II)I"⟩ prog_13_method_30_code 4 (some .int) ∈ xt := xt_of (List.mem_of_getElem? (i := 1176) (by decide +kernel)) (by decide +kernel)
theorem mm_1177 : Cond.methodLink "ShareKeeperModel" 187 ⟨"ShareKeeperModel", "isAlarm", "(I)Z"⟩ ∈ xt := xt_of (List.mem_of_getElem? (i := 1177) (by decide +kernel)) (by decide +kernel)
theorem mm_1179 : Cond.instanceMethod ⟨"ShareKeeperModel", "isAlarm", "(I)Z"⟩ ∈ xt := xt_of (List.mem_of_getElem? (i := 1179) (by decide +kernel)) (by decide +kernel)
theorem mm_1180 : Cond.code ⟨"ShareKeeperModel", "isAlarm", "(I)Z"⟩ prog_13_method_27_code 2 (some .boolean) ∈ xt := xt_of (List.mem_of_getElem? (i := 1180) (by decide +kernel)) (by decide +kernel)
theorem mm_1181 : Cond.methodLink "ShareKeeperModel" 190 ⟨"ShareKeeperModel", "isWorseIn", "(IIII)Z"⟩ ∈ xt := xt_of (List.mem_of_getElem? (i := 1181) (by decide +kernel)) (by decide +kernel)
theorem mm_1183 : Cond.instanceMethod ⟨"ShareKeeperModel", "isWorseIn", "(IIII)Z"⟩ ∈ xt := xt_of (List.mem_of_getElem? (i := 1183) (by decide +kernel)) (by decide +kernel)
theorem mm_1184 : Cond.code ⟨"ShareKeeperModel", "isWorseIn", "(IIII)Z"⟩ prog_13_method_29_code 5 (some .boolean) ∈ xt := xt_of (List.mem_of_getElem? (i := 1184) (by decide +kernel)) (by decide +kernel)
theorem mm_1185 : Cond.methodLink "ShareKeeperModel" 183 ⟨"ShareKeeperModel", "isWorse", "(IIJJ)Z"⟩ ∈ xt := xt_of (List.mem_of_getElem? (i := 1185) (by decide +kernel)) (by decide +kernel)
theorem mm_1187 : Cond.instanceMethod ⟨"ShareKeeperModel", "isWorse", "(IIJJ)Z"⟩ ∈ xt := xt_of (List.mem_of_getElem? (i := 1187) (by decide +kernel)) (by decide +kernel)
theorem mm_1188 : Cond.code ⟨"ShareKeeperModel", "isWorse", "(IIJJ)Z"⟩ prog_13_method_28_code 7 (some .boolean) ∈ xt := xt_of (List.mem_of_getElem? (i := 1188) (by decide +kernel)) (by decide +kernel)
theorem mm_1189 : Cond.constantLong "ShareKeeperModel" 181 (10000) ∈ xt := xt_of (List.mem_of_getElem? (i := 1189) (by decide +kernel)) (by decide +kernel)
theorem mm_1190 : Cond.methodLink "ShareKeeperLaw" 86 ⟨"ShareKeeperModel", "soonest", "(IIII)I"⟩ ∈ xt := xt_of (List.mem_of_getElem? (i := 1190) (by decide +kernel)) (by decide +kernel)
theorem mm_1191 : Cond.instanceMethod ⟨"ShareKeeperModel", "soonest", "(IIII)I"⟩ ∈ xt := xt_of (List.mem_of_getElem? (i := 1191) (by decide +kernel)) (by decide +kernel)
theorem mm_1192 : Cond.selects "ShareKeeperModel" ⟨"ShareKeeperModel", "soonest", "(IIII)I"⟩ ⟨"ShareKeeperModel", "soonest", "(IIII)I"⟩ ∈ xt := xt_of (List.mem_of_getElem? (i := 1192) (by decide +kernel)) (by decide +kernel)
theorem mm_1193 : Cond.code ⟨"ShareKeeperModel", "soonest", "(IIII)I"⟩ prog_13_method_33_code 6 (some .int) ∈ xt := xt_of (List.mem_of_getElem? (i := 1193) (by decide +kernel)) (by decide +kernel)
theorem mm_1194 : Cond.methodLink "ShareKeeperModel" 200 ⟨"ShareKeeperModel", "soonestOf", "(IIIIII)I"⟩ ∈ xt := xt_of (List.mem_of_getElem? (i := 1194) (by decide +kernel)) (by decide +kernel)
theorem mm_1196 : Cond.instanceMethod ⟨"ShareKeeperModel", "soonestOf", "(IIIIII)I"⟩ ∈ xt := xt_of (List.mem_of_getElem? (i := 1196) (by decide +kernel)) (by decide +kernel)
theorem mm_1197 : Cond.code ⟨"ShareKeeperModel", "soonestOf", "(IIIIII)I"⟩ prog_13_method_32_code 9 (some .int) ∈ xt := xt_of (List.mem_of_getElem? (i := 1197) (by decide +kernel)) (by decide +kernel)
theorem mm_1198 : Cond.methodLink "ShareKeeperModel" 196 ⟨"ShareKeeperModel", "isSteadyWorse", "(IIIIII)Z"⟩ ∈ xt := xt_of (List.mem_of_getElem? (i := 1198) (by decide +kernel)) (by decide +kernel)
theorem mm_1200 : Cond.instanceMethod ⟨"ShareKeeperModel", "isSteadyWorse", "(IIIIII)Z"⟩ ∈ xt := xt_of (List.mem_of_getElem? (i := 1200) (by decide +kernel)) (by decide +kernel)
theorem mm_1201 : Cond.code ⟨"ShareKeeperModel", "isSteadyWorse", "(IIIIII)Z"⟩ prog_13_method_31_code 10 (some .boolean) ∈ xt := xt_of (List.mem_of_getElem? (i := 1201) (by decide +kernel)) (by decide +kernel)
theorem mm_1202 : Cond.constantLong "ShareKeeperModel" 194 (10) ∈ xt := xt_of (List.mem_of_getElem? (i := 1202) (by decide +kernel)) (by decide +kernel)
theorem mm_1203 : Cond.methodLink "ShareKeeperLaw" 90 ⟨"ShareKeeperModel", "best", "(IIII)I"⟩ ∈ xt := xt_of (List.mem_of_getElem? (i := 1203) (by decide +kernel)) (by decide +kernel)
theorem mm_1204 : Cond.instanceMethod ⟨"ShareKeeperModel", "best", "(IIII)I"⟩ ∈ xt := xt_of (List.mem_of_getElem? (i := 1204) (by decide +kernel)) (by decide +kernel)
theorem mm_1205 : Cond.selects "ShareKeeperModel" ⟨"ShareKeeperModel", "best", "(IIII)I"⟩ ⟨"ShareKeeperModel", "best", "(IIII)I"⟩ ∈ xt := xt_of (List.mem_of_getElem? (i := 1205) (by decide +kernel)) (by decide +kernel)
theorem mm_1206 : Cond.code ⟨"ShareKeeperModel", "best", "(IIII)I"⟩ prog_13_method_37_code 12 (some .int) ∈ xt := xt_of (List.mem_of_getElem? (i := 1206) (by decide +kernel)) (by decide +kernel)
theorem mm_1207 : Cond.methodLink "ShareKeeperModel" 207 ⟨"ShareKeeperModel", "sumsTo", "(I)V"⟩ ∈ xt := xt_of (List.mem_of_getElem? (i := 1207) (by decide +kernel)) (by decide +kernel)
theorem mm_1209 : Cond.instanceMethod ⟨"ShareKeeperModel", "sumsTo", "(I)V"⟩ ∈ xt := xt_of (List.mem_of_getElem? (i := 1209) (by decide +kernel)) (by decide +kernel)
theorem mm_1210 : Cond.code ⟨"ShareKeeperModel", "sumsTo", "(I)V"⟩ prog_13_method_34_code 3 none ∈ xt := xt_of (List.mem_of_getElem? (i := 1210) (by decide +kernel)) (by decide +kernel)
theorem mm_1211 : Cond.methodLink "ShareKeeperModel" 211 ⟨"ShareKeeperModel", "ringsTill", "(IIII)I"⟩ ∈ xt := xt_of (List.mem_of_getElem? (i := 1211) (by decide +kernel)) (by decide +kernel)
theorem mm_1213 : Cond.instanceMethod ⟨"ShareKeeperModel", "ringsTill", "(IIII)I"⟩ ∈ xt := xt_of (List.mem_of_getElem? (i := 1213) (by decide +kernel)) (by decide +kernel)
theorem mm_1214 : Cond.code ⟨"ShareKeeperModel", "ringsTill", "(IIII)I"⟩ prog_13_method_36_code 7 (some .int) ∈ xt := xt_of (List.mem_of_getElem? (i := 1214) (by decide +kernel)) (by decide +kernel)
theorem mm_1215 : Cond.methodLink "ShareKeeperModel" 204 ⟨"ShareKeeperModel", "isWorseTo", "(IIII)Z"⟩ ∈ xt := xt_of (List.mem_of_getElem? (i := 1215) (by decide +kernel)) (by decide +kernel)
theorem mm_1217 : Cond.instanceMethod ⟨"ShareKeeperModel", "isWorseTo", "(IIII)Z"⟩ ∈ xt := xt_of (List.mem_of_getElem? (i := 1217) (by decide +kernel)) (by decide +kernel)
theorem mm_1218 : Cond.code ⟨"ShareKeeperModel", "isWorseTo", "(IIII)Z"⟩ prog_13_method_35_code 6 (some .boolean) ∈ xt := xt_of (List.mem_of_getElem? (i := 1218) (by decide +kernel)) (by decide +kernel)
theorem mm_1219 : Cond.constant "ShareKeeperModel" 215 (1000000) ∈ xt := xt_of (List.mem_of_getElem? (i := 1219) (by decide +kernel)) (by decide +kernel)
theorem mm_1220 : Cond.methodLink "ShareKeeperLaw" 94 ⟨"ShareKeeperModel", "change", "(III)I"⟩ ∈ xt := xt_of (List.mem_of_getElem? (i := 1220) (by decide +kernel)) (by decide +kernel)
theorem mm_1221 : Cond.instanceMethod ⟨"ShareKeeperModel", "change", "(III)I"⟩ ∈ xt := xt_of (List.mem_of_getElem? (i := 1221) (by decide +kernel)) (by decide +kernel)
theorem mm_1222 : Cond.selects "ShareKeeperModel" ⟨"ShareKeeperModel", "change", "(III)I"⟩ ⟨"ShareKeeperModel", "change", "(III)I"⟩ ∈ xt := xt_of (List.mem_of_getElem? (i := 1222) (by decide +kernel)) (by decide +kernel)
theorem mm_1223 : Cond.code ⟨"ShareKeeperModel", "change", "(III)I"⟩ prog_13_method_38_code 4 (some .int) ∈ xt := xt_of (List.mem_of_getElem? (i := 1223) (by decide +kernel)) (by decide +kernel)
theorem mm_1224 : Cond.methodLink "ShareKeeperLaw" 99 ⟨"ShareKeeperModel", "let", "(I)Z"⟩ ∈ xt := xt_of (List.mem_of_getElem? (i := 1224) (by decide +kernel)) (by decide +kernel)
theorem mm_1225 : Cond.instanceMethod ⟨"ShareKeeperModel", "let", "(I)Z"⟩ ∈ xt := xt_of (List.mem_of_getElem? (i := 1225) (by decide +kernel)) (by decide +kernel)
theorem mm_1226 : Cond.selects "ShareKeeperModel" ⟨"ShareKeeperModel", "let", "(I)Z"⟩ ⟨"ShareKeeperModel", "let", "(I)Z"⟩ ∈ xt := xt_of (List.mem_of_getElem? (i := 1226) (by decide +kernel)) (by decide +kernel)
theorem mm_1227 : Cond.code ⟨"ShareKeeperModel", "let", "(I)Z"⟩ prog_13_method_41_code 2 (some .boolean) ∈ xt := xt_of (List.mem_of_getElem? (i := 1227) (by decide +kernel)) (by decide +kernel)
theorem mm_1228 : Cond.methodLink "ShareKeeperModel" 219 ⟨"ShareKeeperModel", "isChange", "(I)Z"⟩ ∈ xt := xt_of (List.mem_of_getElem? (i := 1228) (by decide +kernel)) (by decide +kernel)
theorem mm_1230 : Cond.instanceMethod ⟨"ShareKeeperModel", "isChange", "(I)Z"⟩ ∈ xt := xt_of (List.mem_of_getElem? (i := 1230) (by decide +kernel)) (by decide +kernel)
theorem mm_1231 : Cond.code ⟨"ShareKeeperModel", "isChange", "(I)Z"⟩ prog_13_method_39_code 2 (some .boolean) ∈ xt := xt_of (List.mem_of_getElem? (i := 1231) (by decide +kernel)) (by decide +kernel)
theorem mm_1232 : Cond.methodLink "ShareKeeperModel" 222 ⟨"ShareKeeperModel", "room", "(I)J"⟩ ∈ xt := xt_of (List.mem_of_getElem? (i := 1232) (by decide +kernel)) (by decide +kernel)
theorem mm_1234 : Cond.instanceMethod ⟨"ShareKeeperModel", "room", "(I)J"⟩ ∈ xt := xt_of (List.mem_of_getElem? (i := 1234) (by decide +kernel)) (by decide +kernel)
theorem mm_1235 : Cond.code ⟨"ShareKeeperModel", "room", "(I)J"⟩ prog_13_method_40_code 5 (some .long) ∈ xt := xt_of (List.mem_of_getElem? (i := 1235) (by decide +kernel)) (by decide +kernel)
theorem mm_1236 : Cond.methodLink "ShareKeeperLaw" 104 ⟨"ShareKeeperModel", "settle", "(II)Z"⟩ ∈ xt := xt_of (List.mem_of_getElem? (i := 1236) (by decide +kernel)) (by decide +kernel)
theorem mm_1237 : Cond.instanceMethod ⟨"ShareKeeperModel", "settle", "(II)Z"⟩ ∈ xt := xt_of (List.mem_of_getElem? (i := 1237) (by decide +kernel)) (by decide +kernel)
theorem mm_1238 : Cond.selects "ShareKeeperModel" ⟨"ShareKeeperModel", "settle", "(II)Z"⟩ ⟨"ShareKeeperModel", "settle", "(II)Z"⟩ ∈ xt := xt_of (List.mem_of_getElem? (i := 1238) (by decide +kernel)) (by decide +kernel)
theorem mm_1239 : Cond.code ⟨"ShareKeeperModel", "settle", "(II)Z"⟩ prog_13_method_42_code 3 (some .boolean) ∈ xt := xt_of (List.mem_of_getElem? (i := 1239) (by decide +kernel)) (by decide +kernel)
theorem mm_1240 : Cond.methodLink "ShareKeeperLaw" 108 ⟨"ShareKeeperModel", "plan", "(I)I"⟩ ∈ xt := xt_of (List.mem_of_getElem? (i := 1240) (by decide +kernel)) (by decide +kernel)
theorem mm_1241 : Cond.instanceMethod ⟨"ShareKeeperModel", "plan", "(I)I"⟩ ∈ xt := xt_of (List.mem_of_getElem? (i := 1241) (by decide +kernel)) (by decide +kernel)
theorem mm_1242 : Cond.selects "ShareKeeperModel" ⟨"ShareKeeperModel", "plan", "(I)I"⟩ ⟨"ShareKeeperModel", "plan", "(I)I"⟩ ∈ xt := xt_of (List.mem_of_getElem? (i := 1242) (by decide +kernel)) (by decide +kernel)
theorem mm_1243 : Cond.code ⟨"ShareKeeperModel", "plan", "(I)I"⟩ prog_13_method_43_code 14 (some .int) ∈ xt := xt_of (List.mem_of_getElem? (i := 1243) (by decide +kernel)) (by decide +kernel)
theorem mm_1244 : Cond.methodLink "ShareKeeperLaw" 112 ⟨"ShareKeeperModel", "planned", "(I)I"⟩ ∈ xt := xt_of (List.mem_of_getElem? (i := 1244) (by decide +kernel)) (by decide +kernel)
theorem mm_1245 : Cond.instanceMethod ⟨"ShareKeeperModel", "planned", "(I)I"⟩ ∈ xt := xt_of (List.mem_of_getElem? (i := 1245) (by decide +kernel)) (by decide +kernel)
theorem mm_1246 : Cond.selects "ShareKeeperModel" ⟨"ShareKeeperModel", "planned", "(I)I"⟩ ⟨"ShareKeeperModel", "planned", "(I)I"⟩ ∈ xt := xt_of (List.mem_of_getElem? (i := 1246) (by decide +kernel)) (by decide +kernel)
theorem mm_1247 : Cond.code ⟨"ShareKeeperModel", "planned", "(I)I"⟩ prog_13_method_44_code 2 (some .int) ∈ xt := xt_of (List.mem_of_getElem? (i := 1247) (by decide +kernel)) (by decide +kernel)
theorem mm_1248 : Cond.methodLink "ShareKeeperLaw" 116 ⟨"ShareKeeperModel", "look", "(II)I"⟩ ∈ xt := xt_of (List.mem_of_getElem? (i := 1248) (by decide +kernel)) (by decide +kernel)
theorem mm_1249 : Cond.instanceMethod ⟨"ShareKeeperModel", "look", "(II)I"⟩ ∈ xt := xt_of (List.mem_of_getElem? (i := 1249) (by decide +kernel)) (by decide +kernel)
theorem mm_1250 : Cond.selects "ShareKeeperModel" ⟨"ShareKeeperModel", "look", "(II)I"⟩ ⟨"ShareKeeperModel", "look", "(II)I"⟩ ∈ xt := xt_of (List.mem_of_getElem? (i := 1250) (by decide +kernel)) (by decide +kernel)
theorem mm_1251 : Cond.code ⟨"ShareKeeperModel", "look", "(II)I"⟩ prog_13_method_45_code 3 (some .int) ∈ xt := xt_of (List.mem_of_getElem? (i := 1251) (by decide +kernel)) (by decide +kernel)
theorem mm_1252 : Cond.methodLink "ShareKeeperLaw" 120 ⟨"ShareKeeperModel", "desk", "(I)I"⟩ ∈ xt := xt_of (List.mem_of_getElem? (i := 1252) (by decide +kernel)) (by decide +kernel)
theorem mm_1253 : Cond.instanceMethod ⟨"ShareKeeperModel", "desk", "(I)I"⟩ ∈ xt := xt_of (List.mem_of_getElem? (i := 1253) (by decide +kernel)) (by decide +kernel)
theorem mm_1254 : Cond.selects "ShareKeeperModel" ⟨"ShareKeeperModel", "desk", "(I)I"⟩ ⟨"ShareKeeperModel", "desk", "(I)I"⟩ ∈ xt := xt_of (List.mem_of_getElem? (i := 1254) (by decide +kernel)) (by decide +kernel)
theorem mm_1255 : Cond.code ⟨"ShareKeeperModel", "desk", "(I)I"⟩ prog_13_method_46_code 2 (some .int) ∈ xt := xt_of (List.mem_of_getElem? (i := 1255) (by decide +kernel)) (by decide +kernel)
theorem mm_1256 : Cond.selects "ShareKeeper$SteadyHistory" ⟨"ShareKeeper$SteadyHistory", "badIn", "(II)I"⟩ ⟨"ShareKeeper$SteadyHistory", "badIn", "(II)I"⟩ ∈ xt := xt_of (List.mem_of_getElem? (i := 1256) (by decide +kernel)) (by decide +kernel)
theorem mm_1273 : Cond.selects "[Ljava/lang/Object;" ⟨"java/lang/Object", "getClass", "()Ljava/lang/Class;"⟩ ⟨"java/lang/Object", "getClass", "()Ljava/lang/Class;"⟩ ∈ xt := xt_of (List.mem_of_getElem? (i := 1273) (by decide +kernel)) (by decide +kernel)
end
section
theorem iw_Jx4a65c : ∀ w ∈ u_ws RJx4a65c TJx4a65c 3, w ∈ xt := by decide +kernel
theorem iw_X0 : ∀ w ∈ u_ws RX0 TX0 4, w ∈ xt := by decide +kernel
theorem iw_X1 : ∀ w ∈ u_ws RX1 TX1 5, w ∈ xt := by decide +kernel
theorem iw_X2 : ∀ w ∈ u_ws RX2 TX2 5, w ∈ xt := by decide +kernel
theorem iw_X4 : ∀ w ∈ u_ws RX4 TX4 2, w ∈ xt := by decide +kernel
theorem iw_X5 : ∀ w ∈ u_ws RX5 TX5 10, w ∈ xt := by decide +kernel
theorem iw_X6 : ∀ w ∈ u_ws RX6 TX6 6, w ∈ xt := by decide +kernel
theorem iw_X7 : ∀ w ∈ u_ws RX7 TX7 3, w ∈ xt := by decide +kernel
theorem iw_X8 : ∀ w ∈ u_ws RX8 TX8 5, w ∈ xt := by decide +kernel
theorem iw_X9 : ∀ w ∈ u_ws RX9 TX9 2, w ∈ xt := by decide +kernel
theorem iw_X10 : ∀ w ∈ u_ws RX10 TX10 11, w ∈ xt := by decide +kernel
theorem iw_X11 : ∀ w ∈ u_ws RX11 TX11 42, w ∈ xt := by decide +kernel
end
section
def rm_J6_bitCount_0f7a4 : Room := { frames := 0, cells := 0, slots := 0, locals := 0 }
theorem f_J6_bitCount_0f7a4 : xM yJ6_bitCount_0f7a4 cJ6_bitCount_0f7a4 1 (some .int) 1 := ⟨mm_803, mm_79, by decide +kernel, by decide +kernel⟩
theorem dJ6_bitCount_0f7a4_0 : decode cJ6_bitCount_0f7a4 0 = .ok (.iload_n 0, 1) := by decide +kernel
theorem dJ6_bitCount_0f7a4_1 : decode cJ6_bitCount_0f7a4 1 = .ok (.iload_n 0, 1) := by decide +kernel
theorem dJ6_bitCount_0f7a4_2 : decode cJ6_bitCount_0f7a4 2 = .ok (.iconst 1, 1) := by decide +kernel
theorem dJ6_bitCount_0f7a4_3 : decode cJ6_bitCount_0f7a4 3 = .ok (.iushr, 1) := by decide +kernel
theorem dJ6_bitCount_0f7a4_4 : decode cJ6_bitCount_0f7a4 4 = .ok (.ldc_w 265, 3) := by decide +kernel
theorem dJ6_bitCount_0f7a4_7 : decode cJ6_bitCount_0f7a4 7 = .ok (.iand, 1) := by decide +kernel
theorem dJ6_bitCount_0f7a4_8 : decode cJ6_bitCount_0f7a4 8 = .ok (.isub, 1) := by decide +kernel
theorem dJ6_bitCount_0f7a4_9 : decode cJ6_bitCount_0f7a4 9 = .ok (.istore_n 0, 1) := by decide +kernel
theorem dJ6_bitCount_0f7a4_10 : decode cJ6_bitCount_0f7a4 10 = .ok (.iload_n 0, 1) := by decide +kernel
theorem dJ6_bitCount_0f7a4_11 : decode cJ6_bitCount_0f7a4 11 = .ok (.ldc_w 266, 3) := by decide +kernel
theorem dJ6_bitCount_0f7a4_14 : decode cJ6_bitCount_0f7a4 14 = .ok (.iand, 1) := by decide +kernel
theorem dJ6_bitCount_0f7a4_15 : decode cJ6_bitCount_0f7a4 15 = .ok (.iload_n 0, 1) := by decide +kernel
theorem dJ6_bitCount_0f7a4_16 : decode cJ6_bitCount_0f7a4 16 = .ok (.iconst 2, 1) := by decide +kernel
theorem dJ6_bitCount_0f7a4_17 : decode cJ6_bitCount_0f7a4 17 = .ok (.iushr, 1) := by decide +kernel
theorem dJ6_bitCount_0f7a4_18 : decode cJ6_bitCount_0f7a4 18 = .ok (.ldc_w 266, 3) := by decide +kernel
theorem dJ6_bitCount_0f7a4_21 : decode cJ6_bitCount_0f7a4 21 = .ok (.iand, 1) := by decide +kernel
theorem dJ6_bitCount_0f7a4_22 : decode cJ6_bitCount_0f7a4 22 = .ok (.iadd, 1) := by decide +kernel
theorem dJ6_bitCount_0f7a4_23 : decode cJ6_bitCount_0f7a4 23 = .ok (.istore_n 0, 1) := by decide +kernel
theorem dJ6_bitCount_0f7a4_24 : decode cJ6_bitCount_0f7a4 24 = .ok (.iload_n 0, 1) := by decide +kernel
theorem dJ6_bitCount_0f7a4_25 : decode cJ6_bitCount_0f7a4 25 = .ok (.iload_n 0, 1) := by decide +kernel
theorem dJ6_bitCount_0f7a4_26 : decode cJ6_bitCount_0f7a4 26 = .ok (.iconst 4, 1) := by decide +kernel
theorem dJ6_bitCount_0f7a4_27 : decode cJ6_bitCount_0f7a4 27 = .ok (.iushr, 1) := by decide +kernel
theorem dJ6_bitCount_0f7a4_28 : decode cJ6_bitCount_0f7a4 28 = .ok (.iadd, 1) := by decide +kernel
theorem dJ6_bitCount_0f7a4_29 : decode cJ6_bitCount_0f7a4 29 = .ok (.ldc_w 267, 3) := by decide +kernel
theorem dJ6_bitCount_0f7a4_32 : decode cJ6_bitCount_0f7a4 32 = .ok (.iand, 1) := by decide +kernel
theorem dJ6_bitCount_0f7a4_33 : decode cJ6_bitCount_0f7a4 33 = .ok (.istore_n 0, 1) := by decide +kernel
theorem dJ6_bitCount_0f7a4_34 : decode cJ6_bitCount_0f7a4 34 = .ok (.iload_n 0, 1) := by decide +kernel
theorem dJ6_bitCount_0f7a4_35 : decode cJ6_bitCount_0f7a4 35 = .ok (.iload_n 0, 1) := by decide +kernel
theorem dJ6_bitCount_0f7a4_36 : decode cJ6_bitCount_0f7a4 36 = .ok (.bipush 8, 2) := by decide +kernel
theorem dJ6_bitCount_0f7a4_38 : decode cJ6_bitCount_0f7a4 38 = .ok (.iushr, 1) := by decide +kernel
theorem dJ6_bitCount_0f7a4_39 : decode cJ6_bitCount_0f7a4 39 = .ok (.iadd, 1) := by decide +kernel
theorem dJ6_bitCount_0f7a4_40 : decode cJ6_bitCount_0f7a4 40 = .ok (.istore_n 0, 1) := by decide +kernel
theorem dJ6_bitCount_0f7a4_41 : decode cJ6_bitCount_0f7a4 41 = .ok (.iload_n 0, 1) := by decide +kernel
theorem dJ6_bitCount_0f7a4_42 : decode cJ6_bitCount_0f7a4 42 = .ok (.iload_n 0, 1) := by decide +kernel
theorem dJ6_bitCount_0f7a4_43 : decode cJ6_bitCount_0f7a4 43 = .ok (.bipush 16, 2) := by decide +kernel
theorem dJ6_bitCount_0f7a4_45 : decode cJ6_bitCount_0f7a4 45 = .ok (.iushr, 1) := by decide +kernel
theorem dJ6_bitCount_0f7a4_46 : decode cJ6_bitCount_0f7a4 46 = .ok (.iadd, 1) := by decide +kernel
theorem dJ6_bitCount_0f7a4_47 : decode cJ6_bitCount_0f7a4 47 = .ok (.istore_n 0, 1) := by decide +kernel
theorem dJ6_bitCount_0f7a4_48 : decode cJ6_bitCount_0f7a4 48 = .ok (.iload_n 0, 1) := by decide +kernel
theorem dJ6_bitCount_0f7a4_49 : decode cJ6_bitCount_0f7a4 49 = .ok (.bipush 63, 2) := by decide +kernel
theorem dJ6_bitCount_0f7a4_51 : decode cJ6_bitCount_0f7a4 51 = .ok (.iand, 1) := by decide +kernel
theorem dJ6_bitCount_0f7a4_52 : decode cJ6_bitCount_0f7a4 52 = .ok (.ireturn, 1) := by decide +kernel
def F_J6_bitCount_0f7a4 (x0 : Int32) : Option Int32 :=
  xl (x0 - ((((x0 : Int32).toUInt32 >>> ((1 : Int32).toUInt32 &&& Int32.toUInt32 31)).toInt32) &&& 1431655765)) fun v1 =>
  xl ((v1 &&& 858993459) + ((((v1 : Int32).toUInt32 >>> ((2 : Int32).toUInt32 &&& Int32.toUInt32 31)).toInt32) &&& 858993459)) fun v2 =>
  xl ((v2 + (((v2 : Int32).toUInt32 >>> ((4 : Int32).toUInt32 &&& Int32.toUInt32 31)).toInt32)) &&& 252645135) fun v3 =>
  xl (v3 + (((v3 : Int32).toUInt32 >>> ((8 : Int32).toUInt32 &&& Int32.toUInt32 31)).toInt32)) fun v4 =>
  xl (v4 + (((v4 : Int32).toUInt32 >>> ((16 : Int32).toUInt32 &&& Int32.toUInt32 31)).toInt32)) fun v5 =>
  some (v5 &&& 63)
set_option maxHeartbeats 4000000 in
set_option maxRecDepth 100000 in
theorem t_J6_bitCount_0f7a4 (l : Launch) (D : va_G) (G : Nat → Nat) (h : xH) (x0 : Int32) (r : Int32) (hF : F_J6_bitCount_0f7a4 x0 = some r) : xC l yJ6_bitCount_0f7a4 cJ6_bitCount_0f7a4 1 (some .int) rm_J6_bitCount_0f7a4 D G h [.int x0] (some (.int r)) h := by
  refine xC_of (by decide) (by first | decide | exact Nat.le_of_ble_eq_true rfl) ?_
  intro p e s m args below meth c ls hx hb hr hlk hml hown hnm hts hR hS hl
  have hl : lv_has ls 1 [(0, .int x0)] := hl
  unfold F_J6_bitCount_0f7a4 at hF
  refine lv_iload_n hx hb dJ6_bitCount_0f7a4_0 rfl (lv_at hl 0 rfl) ?_
  refine lv_iload_n hx hb dJ6_bitCount_0f7a4_1 rfl (lv_at hl 0 rfl) ?_
  refine lv_iconst (v := 1) hx hb dJ6_bitCount_0f7a4_2 (by decide) ?_
  refine lv_iushr (v := ((x0 : Int32).toUInt32 >>> ((1 : Int32).toUInt32 &&& Int32.toUInt32 31)).toInt32) hx hb dJ6_bitCount_0f7a4_3 rfl ?_
  refine lv_ldcw hx hb hown (hts _ mm_804) dJ6_bitCount_0f7a4_4 ?_
  refine lv_iand hx hb dJ6_bitCount_0f7a4_7 ?_
  refine lv_isub hx hb dJ6_bitCount_0f7a4_8 ?_
  refine lv_topi (fun v1 ev1 => ?_)
  replace hF := xlet ev1 hF
  refine lv_istore_n (lv' := [(0, .int v1)]) hx hb dJ6_bitCount_0f7a4_9 rfl hl (by decide) (by first | rfl | simp [xrf_cat]) (fun ls hl => ?_)
  refine lv_iload_n hx hb dJ6_bitCount_0f7a4_10 rfl (lv_at hl 0 rfl) ?_
  refine lv_ldcw hx hb hown (hts _ mm_805) dJ6_bitCount_0f7a4_11 ?_
  refine lv_iand hx hb dJ6_bitCount_0f7a4_14 ?_
  refine lv_iload_n hx hb dJ6_bitCount_0f7a4_15 rfl (lv_at hl 0 rfl) ?_
  refine lv_iconst (v := 2) hx hb dJ6_bitCount_0f7a4_16 (by decide) ?_
  refine lv_iushr (v := ((v1 : Int32).toUInt32 >>> ((2 : Int32).toUInt32 &&& Int32.toUInt32 31)).toInt32) hx hb dJ6_bitCount_0f7a4_17 rfl ?_
  refine lv_ldcw hx hb hown (hts _ mm_805) dJ6_bitCount_0f7a4_18 ?_
  refine lv_iand hx hb dJ6_bitCount_0f7a4_21 ?_
  refine lv_iadd hx hb dJ6_bitCount_0f7a4_22 ?_
  refine lv_topi (fun v2 ev2 => ?_)
  replace hF := xlet ev2 hF
  refine lv_istore_n (lv' := [(0, .int v2)]) hx hb dJ6_bitCount_0f7a4_23 rfl hl (by decide) (by first | rfl | simp [xrf_cat]) (fun ls hl => ?_)
  refine lv_iload_n hx hb dJ6_bitCount_0f7a4_24 rfl (lv_at hl 0 rfl) ?_
  refine lv_iload_n hx hb dJ6_bitCount_0f7a4_25 rfl (lv_at hl 0 rfl) ?_
  refine lv_iconst (v := 4) hx hb dJ6_bitCount_0f7a4_26 (by decide) ?_
  refine lv_iushr (v := ((v2 : Int32).toUInt32 >>> ((4 : Int32).toUInt32 &&& Int32.toUInt32 31)).toInt32) hx hb dJ6_bitCount_0f7a4_27 rfl ?_
  refine lv_iadd hx hb dJ6_bitCount_0f7a4_28 ?_
  refine lv_ldcw hx hb hown (hts _ mm_806) dJ6_bitCount_0f7a4_29 ?_
  refine lv_iand hx hb dJ6_bitCount_0f7a4_32 ?_
  refine lv_topi (fun v3 ev3 => ?_)
  replace hF := xlet ev3 hF
  refine lv_istore_n (lv' := [(0, .int v3)]) hx hb dJ6_bitCount_0f7a4_33 rfl hl (by decide) (by first | rfl | simp [xrf_cat]) (fun ls hl => ?_)
  refine lv_iload_n hx hb dJ6_bitCount_0f7a4_34 rfl (lv_at hl 0 rfl) ?_
  refine lv_iload_n hx hb dJ6_bitCount_0f7a4_35 rfl (lv_at hl 0 rfl) ?_
  refine lv_bipush (v := 8) hx hb dJ6_bitCount_0f7a4_36 (by decide) ?_
  refine lv_iushr (v := ((v3 : Int32).toUInt32 >>> ((8 : Int32).toUInt32 &&& Int32.toUInt32 31)).toInt32) hx hb dJ6_bitCount_0f7a4_38 rfl ?_
  refine lv_iadd hx hb dJ6_bitCount_0f7a4_39 ?_
  refine lv_topi (fun v4 ev4 => ?_)
  replace hF := xlet ev4 hF
  refine lv_istore_n (lv' := [(0, .int v4)]) hx hb dJ6_bitCount_0f7a4_40 rfl hl (by decide) (by first | rfl | simp [xrf_cat]) (fun ls hl => ?_)
  refine lv_iload_n hx hb dJ6_bitCount_0f7a4_41 rfl (lv_at hl 0 rfl) ?_
  refine lv_iload_n hx hb dJ6_bitCount_0f7a4_42 rfl (lv_at hl 0 rfl) ?_
  refine lv_bipush (v := 16) hx hb dJ6_bitCount_0f7a4_43 (by decide) ?_
  refine lv_iushr (v := ((v4 : Int32).toUInt32 >>> ((16 : Int32).toUInt32 &&& Int32.toUInt32 31)).toInt32) hx hb dJ6_bitCount_0f7a4_45 rfl ?_
  refine lv_iadd hx hb dJ6_bitCount_0f7a4_46 ?_
  refine lv_topi (fun v5 ev5 => ?_)
  replace hF := xlet ev5 hF
  refine lv_istore_n (lv' := [(0, .int v5)]) hx hb dJ6_bitCount_0f7a4_47 rfl hl (by decide) (by first | rfl | simp [xrf_cat]) (fun ls hl => ?_)
  refine lv_iload_n hx hb dJ6_bitCount_0f7a4_48 rfl (lv_at hl 0 rfl) ?_
  refine lv_bipush (v := 63) hx hb dJ6_bitCount_0f7a4_49 (by decide) ?_
  refine lv_iand hx hb dJ6_bitCount_0f7a4_51 ?_
  cases hF
  exact x_iret hx hb hr rfl hlk hR hS (by decide) (by decide) dJ6_bitCount_0f7a4_52
def rm_J7_fill_53178 : Room := { frames := 0, cells := 0, slots := 0, locals := 0 }
theorem f_J7_fill_53178 : xM yJ7_fill_53178 cJ7_fill_53178 4 none 2 := ⟨mm_669, mm_66, by decide +kernel, by decide +kernel⟩
theorem dJ7_fill_53178_0 : decode cJ7_fill_53178 0 = .ok (.iconst 0, 1) := by decide +kernel
theorem dJ7_fill_53178_1 : decode cJ7_fill_53178 1 = .ok (.istore_n 2, 1) := by decide +kernel
theorem dJ7_fill_53178_2 : decode cJ7_fill_53178 2 = .ok (.aload_n 0, 1) := by decide +kernel
theorem dJ7_fill_53178_3 : decode cJ7_fill_53178 3 = .ok (.arraylength, 1) := by decide +kernel
theorem dJ7_fill_53178_4 : decode cJ7_fill_53178 4 = .ok (.istore_n 3, 1) := by decide +kernel
theorem dJ7_fill_53178_5 : decode cJ7_fill_53178 5 = .ok (.iload_n 2, 1) := by decide +kernel
theorem dJ7_fill_53178_6 : decode cJ7_fill_53178 6 = .ok (.iload_n 3, 1) := by decide +kernel
theorem dJ7_fill_53178_7 : decode cJ7_fill_53178 7 = .ok (.if_icmp .ge 13, 3) := by decide +kernel
theorem dJ7_fill_53178_10 : decode cJ7_fill_53178 10 = .ok (.aload_n 0, 1) := by decide +kernel
theorem dJ7_fill_53178_11 : decode cJ7_fill_53178 11 = .ok (.iload_n 2, 1) := by decide +kernel
theorem dJ7_fill_53178_12 : decode cJ7_fill_53178 12 = .ok (.iload_n 1, 1) := by decide +kernel
theorem dJ7_fill_53178_13 : decode cJ7_fill_53178 13 = .ok (.iastore, 1) := by decide +kernel
theorem dJ7_fill_53178_14 : decode cJ7_fill_53178 14 = .ok (.iinc 2 1, 3) := by decide +kernel
theorem dJ7_fill_53178_17 : decode cJ7_fill_53178 17 = .ok (.goto (-12), 3) := by decide +kernel
theorem dJ7_fill_53178_20 : decode cJ7_fill_53178 20 = .ok (.return_, 1) := by decide +kernel
def F_J7_fill_53178_5 (G : Nat → Nat) (a0 : Nat) (x1 : Int32) (x3 : Int32) : Nat → xH → Int32 → Option xH
  | 0, _, _ => none
  | n + 1, h, x2 =>
    if x3 ≤ x2 then
      some h
    else
    (stI 2 G h (some a0) x2 x1).bind fun h3 =>
    xl (x2 + 1) fun v4 =>
    F_J7_fill_53178_5 G a0 x1 x3 n h3 v4
set_option maxHeartbeats 4000000 in
set_option maxRecDepth 100000 in
theorem tl_J7_fill_53178_5 {p : Program} {l : Launch} {e : Env} {s : State} {m : MethodId} {args : Array Value} {below : List Frame} {meth : Method} {c : Code} {D : va_G} {h' : xH} (hx : p.tables.exec = Jvm.exec) (hb : c.code = cJ7_fill_53178) (hr : meth.sig.returnType = none) (hlk : meth.locks = false) (hml : c.maxLocals = 4) (hown : s.vm.findClass RJ7 = some m.cls) (hnm : meth.name = "fill") (hts : ∀ w ∈ xt, w.before args s = true) (G : Nat → Nat) (a0 : Nat) (x1 : Int32) (x3 : Int32) : ∀ (n : Nat) (h : xH) (x2 : Int32) (H : Heap) (locs : List Loc) (ls : Array Slot), F_J7_fill_53178_5 G a0 x1 x3 n h x2 = some h' → xR D G h s H → va_S (xA G) s.heap H locs → lv_has ls 4 [(0, va_rf (some a0)), (1, .int x1), (2, .int x2), (3, .int x3)] → W p l e rm_J7_fill_53178 s m args below meth c H locs 0 0 (MQ below (xQ D G none h') args s rm_J7_fill_53178.cells rm_J7_fill_53178.slots (xA G)) (F0 m 5 ls []) := by
  intro n
  induction n with
  | zero =>
    intro h x2 H locs ls hF
    rw [F_J7_fill_53178_5.eq_1] at hF
    cases hF
  | succ n ih =>
    intro h x2 H locs ls hF hR hS hl
    rw [F_J7_fill_53178_5.eq_2] at hF
    refine lv_iload_n hx hb dJ7_fill_53178_5 rfl (lv_at hl 2 rfl) ?_
    refine lv_iload_n hx hb dJ7_fill_53178_6 rfl (lv_at hl 3 rfl) ?_
    refine lv_icmp_ge (tgt := 20) hx hb dJ7_fill_53178_7 (by decide) (fun c2 => ?_) (fun c2 => ?_)
    · replace hF := xift c2 hF
      cases hF
      exact x_vret hx hb hr hlk hR hS (by decide) (by decide) dJ7_fill_53178_20
    · replace hF := xiff c2 hF
      refine x_aload_n (o := (some a0)) hx hb dJ7_fill_53178_10 rfl (lv_at hl 0 rfl) ?_
      refine lv_iload_n hx hb dJ7_fill_53178_11 rfl (lv_at hl 2 rfl) ?_
      refine lv_iload_n hx hb dJ7_fill_53178_12 rfl (lv_at hl 1 rfl) ?_
      replace hF := xbind hF; obtain ⟨h3, eh3, hF⟩ := hF
      refine x_ist (o := (some a0)) hx hb hR hS eh3 dJ7_fill_53178_13 (fun H locs hR hS => ?_)
      obtain ⟨v4, ev4⟩ : ∃ z : Int32, z = (x2 + 1) := ⟨_, rfl⟩
      replace hF := xlet ev4 hF
      refine lv_iinc (v := v4) (lv' := [(2, .int v4), (0, va_rf (some a0)), (1, .int x1), (3, .int x3)]) hx hb dJ7_fill_53178_14 hl (k := 2) rfl (by rw [ev4]; rfl) (by decide) (by first | rfl | simp [xrf_cat]) (fun ls hl => ?_)
      refine lv_goto (tgt := 5) hx hb dJ7_fill_53178_17 (by decide) ?_
      exact ih h3 v4 _ _ _ hF hR hS (lv_sub hl [1, 2, 0, 3] rfl)
def F_J7_fill_53178 (G : Nat → Nat) (h : xH) (a0 : Nat) (x1 : Int32) : Option xH :=
  (aln G h (some a0)).bind fun v1 =>
  F_J7_fill_53178_5 G a0 x1 v1 xN h 0
set_option maxHeartbeats 4000000 in
set_option maxRecDepth 100000 in
theorem t_J7_fill_53178 (l : Launch) (D : va_G) (G : Nat → Nat) (h : xH) (a0 : Nat) (x1 : Int32) (h' : xH) (hF : F_J7_fill_53178 G h a0 x1 = some h') : xC l yJ7_fill_53178 cJ7_fill_53178 4 none rm_J7_fill_53178 D G h [.ref a0, .int x1] none h' := by
  refine xC_of (by decide) (by first | decide | exact Nat.le_of_ble_eq_true rfl) ?_
  intro p e s m args below meth c ls hx hb hr hlk hml hown hnm hts hR hS hl
  have hl : lv_has ls 4 [(0, va_rf (some a0)), (1, .int x1)] := hl
  unfold F_J7_fill_53178 at hF
  refine lv_iconst (v := 0) hx hb dJ7_fill_53178_0 (by decide) ?_
  refine lv_istore_n (lv' := [(2, .int 0), (0, va_rf (some a0)), (1, .int x1)]) hx hb dJ7_fill_53178_1 rfl hl (by decide) (by first | rfl | simp [xrf_cat]) (fun ls hl => ?_)
  refine x_aload_n (o := (some a0)) hx hb dJ7_fill_53178_2 rfl (lv_at hl 1 rfl) ?_
  replace hF := xbind hF; obtain ⟨v1, ev1, hF⟩ := hF
  refine x_aln (o := (some a0)) hx hb hR ev1 dJ7_fill_53178_3 ?_
  refine lv_istore_n (lv' := [(3, .int v1), (2, .int 0), (0, va_rf (some a0)), (1, .int x1)]) hx hb dJ7_fill_53178_4 rfl hl (by decide) (by first | rfl | simp [xrf_cat]) (fun ls hl => ?_)
  refine W.widen (k := 0) (n := 0) (by decide) (by decide) ?_
  exact tl_J7_fill_53178_5 hx hb hr hlk hml hown hnm hts G a0 x1 v1 _ h 0 _ _ _ hF hR hS (lv_sub hl [2, 3, 1, 0] rfl)
def rm_J3_checkIndex_8e157 : Room := { frames := 0, cells := 0, slots := 0, locals := 0 }
theorem f_J3_checkIndex_8e157 : xM yJ3_checkIndex_8e157 cJ3_checkIndex_8e157 3 (some .int) 3 := ⟨mm_342, mm_69, by decide +kernel, by decide +kernel⟩
theorem dJ3_checkIndex_8e157_0 : decode cJ3_checkIndex_8e157 0 = .ok (.iload_n 0, 1) := by decide +kernel
theorem dJ3_checkIndex_8e157_1 : decode cJ3_checkIndex_8e157 1 = .ok (.ifCond .lt 8, 3) := by decide +kernel
theorem dJ3_checkIndex_8e157_4 : decode cJ3_checkIndex_8e157 4 = .ok (.iload_n 0, 1) := by decide +kernel
theorem dJ3_checkIndex_8e157_5 : decode cJ3_checkIndex_8e157 5 = .ok (.iload_n 1, 1) := by decide +kernel
theorem dJ3_checkIndex_8e157_6 : decode cJ3_checkIndex_8e157 6 = .ok (.if_icmp .lt 10, 3) := by decide +kernel
theorem dJ3_checkIndex_8e157_9 : decode cJ3_checkIndex_8e157 9 = .ok (.aload_n 2, 1) := by decide +kernel
theorem dJ3_checkIndex_8e157_10 : decode cJ3_checkIndex_8e157 10 = .ok (.iload_n 0, 1) := by decide +kernel
theorem dJ3_checkIndex_8e157_11 : decode cJ3_checkIndex_8e157 11 = .ok (.iload_n 1, 1) := by decide +kernel
theorem dJ3_checkIndex_8e157_12 : decode cJ3_checkIndex_8e157 12 = .ok (.invokestatic 95, 3) := by decide +kernel
theorem dJ3_checkIndex_8e157_15 : decode cJ3_checkIndex_8e157 15 = .ok (.athrow, 1) := by decide +kernel
theorem dJ3_checkIndex_8e157_16 : decode cJ3_checkIndex_8e157 16 = .ok (.iload_n 0, 1) := by decide +kernel
theorem dJ3_checkIndex_8e157_17 : decode cJ3_checkIndex_8e157 17 = .ok (.ireturn, 1) := by decide +kernel
def F_J3_checkIndex_8e157 (x0 : Int32) (x1 : Int32) : Option Int32 :=
  if x0 < 0 then
    none
  else
  if x0 < x1 then
    some x0
  else
  none
set_option maxHeartbeats 4000000 in
set_option maxRecDepth 100000 in
theorem t_J3_checkIndex_8e157 (l : Launch) (D : va_G) (G : Nat → Nat) (h : xH) (x0 : Int32) (x1 : Int32) (r : Int32) (hF : F_J3_checkIndex_8e157 x0 x1 = some r) : xC l yJ3_checkIndex_8e157 cJ3_checkIndex_8e157 3 (some .int) rm_J3_checkIndex_8e157 D G h [.int x0, .int x1, va_rf none] (some (.int r)) h := by
  refine xC_of (by decide) (by first | decide | exact Nat.le_of_ble_eq_true rfl) ?_
  intro p e s m args below meth c ls hx hb hr hlk hml hown hnm hts hR hS hl
  have hl : lv_has ls 3 [(0, .int x0), (1, .int x1), (2, va_rf none)] := hl
  unfold F_J3_checkIndex_8e157 at hF
  refine lv_iload_n hx hb dJ3_checkIndex_8e157_0 rfl (lv_at hl 0 rfl) ?_
  refine lv_if_lt (tgt := 9) hx hb dJ3_checkIndex_8e157_1 (by decide) (fun c1 => ?_) (fun c1 => ?_)
  · replace hF := xift c1 hF
    cases hF
  · replace hF := xiff c1 hF
    refine lv_iload_n hx hb dJ3_checkIndex_8e157_4 rfl (lv_at hl 0 rfl) ?_
    refine lv_iload_n hx hb dJ3_checkIndex_8e157_5 rfl (lv_at hl 1 rfl) ?_
    refine lv_icmp_lt (tgt := 16) hx hb dJ3_checkIndex_8e157_6 (by decide) (fun c2 => ?_) (fun c2 => ?_)
    · replace hF := xift c2 hF
      refine lv_iload_n hx hb dJ3_checkIndex_8e157_16 rfl (lv_at hl 0 rfl) ?_
      cases hF
      exact x_iret hx hb hr rfl hlk hR hS (by decide) (by decide) dJ3_checkIndex_8e157_17
    · replace hF := xiff c2 hF
      cases hF
def rm_J15_checkIndex_7cf53 : Room := { frames := 1, cells := 0, slots := 0, locals := 22 }
theorem f_J15_checkIndex_7cf53 : xM yJ15_checkIndex_7cf53 cJ15_checkIndex_7cf53 2 (some .int) 2 := ⟨mm_339, mm_68, by decide +kernel, by decide +kernel⟩
theorem dJ15_checkIndex_7cf53_0 : decode cJ15_checkIndex_7cf53 0 = .ok (.iload_n 0, 1) := by decide +kernel
theorem dJ15_checkIndex_7cf53_1 : decode cJ15_checkIndex_7cf53 1 = .ok (.iload_n 1, 1) := by decide +kernel
theorem dJ15_checkIndex_7cf53_2 : decode cJ15_checkIndex_7cf53 2 = .ok (.aconst_null, 1) := by decide +kernel
theorem dJ15_checkIndex_7cf53_3 : decode cJ15_checkIndex_7cf53 3 = .ok (.invokestatic 105, 3) := by decide +kernel
theorem dJ15_checkIndex_7cf53_6 : decode cJ15_checkIndex_7cf53 6 = .ok (.ireturn, 1) := by decide +kernel
def F_J15_checkIndex_7cf53 (x0 : Int32) (x1 : Int32) : Option Int32 :=
  (F_J3_checkIndex_8e157 x0 x1).bind fun v1 =>
  some v1
set_option maxHeartbeats 4000000 in
set_option maxRecDepth 100000 in
theorem t_J15_checkIndex_7cf53 (l : Launch) (D : va_G) (G : Nat → Nat) (h : xH) (x0 : Int32) (x1 : Int32) (r : Int32) (hF : F_J15_checkIndex_7cf53 x0 x1 = some r) : xC l yJ15_checkIndex_7cf53 cJ15_checkIndex_7cf53 2 (some .int) rm_J15_checkIndex_7cf53 D G h [.int x0, .int x1] (some (.int r)) h := by
  refine xC_of (by decide) (by first | decide | exact Nat.le_of_ble_eq_true rfl) ?_
  intro p e s m args below meth c ls hx hb hr hlk hml hown hnm hts hR hS hl
  have hl : lv_has ls 2 [(0, .int x0), (1, .int x1)] := hl
  unfold F_J15_checkIndex_7cf53 at hF
  refine lv_iload_n hx hb dJ15_checkIndex_7cf53_0 rfl (lv_at hl 0 rfl) ?_
  refine lv_iload_n hx hb dJ15_checkIndex_7cf53_1 rfl (lv_at hl 1 rfl) ?_
  refine lv_null hx hb dJ15_checkIndex_7cf53_2 ?_
  replace hF := xbind hF; obtain ⟨v1, ev1, hF⟩ := hF
  refine x_callS (As := [.int x0, .int x1, va_rf none]) (rest := []) (v := (some (.int v1))) (k := 3) hx hb hml hown hts hR hS (t_J3_checkIndex_8e157 l D G h x0 x1 v1 ev1) f_J3_checkIndex_8e157 mm_340 mm_341 rfl hl.1 rfl (by first | exact Nat.le_of_ble_eq_true rfl | simp [xrf_cat, xcI, xcJ, xcA]) dJ15_checkIndex_7cf53_3 (by decide) (by decide) rfl (fun H locs hR hS => ?_)
  cases hF
  exact x_iret hx hb hr rfl hlk hR hS (by decide) (by decide) dJ15_checkIndex_7cf53_6
def rm_Jxa1e45_init_da8c8 : Room := { frames := 1, cells := 0, slots := 0, locals := 20 }
theorem f_Jxa1e45_init_da8c8 : xM yJxa1e45_init_da8c8 cJxa1e45_init_da8c8 1 none 0 := ⟨mm_98, mm_56, by decide +kernel, by decide +kernel⟩
theorem dJxa1e45_init_da8c8_0 : decode cJxa1e45_init_da8c8 0 = .ok (.aload_n 0, 1) := by decide +kernel
theorem dJxa1e45_init_da8c8_1 : decode cJxa1e45_init_da8c8 1 = .ok (.invokespecial 1, 3) := by decide +kernel
theorem dJxa1e45_init_da8c8_4 : decode cJxa1e45_init_da8c8 4 = .ok (.return_, 1) := by decide +kernel
def F_Jxa1e45_init_da8c8 (G : Nat → Nat) (h : xH) (a0 : Nat) : Option xH :=
  some h
set_option maxHeartbeats 4000000 in
set_option maxRecDepth 100000 in
theorem t_Jxa1e45_init_da8c8 (l : Launch) (D : va_G) (G : Nat → Nat) (h : xH) (a0 : Nat) (h' : xH) (hF : F_Jxa1e45_init_da8c8 G h a0 = some h') : xC l yJxa1e45_init_da8c8 cJxa1e45_init_da8c8 1 none rm_Jxa1e45_init_da8c8 D G h [.ref a0] none h' := by
  refine xC_of (by decide) (by first | decide | exact Nat.le_of_ble_eq_true rfl) ?_
  intro p e s m args below meth c ls hx hb hr hlk hml hown hnm hts hR hS hl
  have hl : lv_has ls 1 [(0, va_rf (some a0))] := hl
  unfold F_Jxa1e45_init_da8c8 at hF
  refine x_aload_n (o := (some a0)) hx hb dJxa1e45_init_da8c8_0 rfl (lv_at hl 0 rfl) ?_
  refine x_oinit (o := (some a0)) hx hb hown (hml.trans hl.1.symm) hts mm_99 mm_86 mm_87 rfl dJxa1e45_init_da8c8_1 (by decide) (by decide) (by decide) ?_
  cases hF
  exact x_vret hx hb hr hlk hR hS (by decide) (by decide) dJxa1e45_init_da8c8_4
def rm_Jxc12de_init_da8c8 : Room := { frames := 2, cells := 0, slots := 0, locals := 40 }
theorem f_Jxc12de_init_da8c8 : xM yJxc12de_init_da8c8 cJxc12de_init_da8c8 1 none 0 := ⟨mm_95, mm_57, by decide +kernel, by decide +kernel⟩
theorem dJxc12de_init_da8c8_0 : decode cJxc12de_init_da8c8 0 = .ok (.aload_n 0, 1) := by decide +kernel
theorem dJxc12de_init_da8c8_1 : decode cJxc12de_init_da8c8 1 = .ok (.invokespecial 1, 3) := by decide +kernel
theorem dJxc12de_init_da8c8_4 : decode cJxc12de_init_da8c8 4 = .ok (.aload_n 0, 1) := by decide +kernel
theorem dJxc12de_init_da8c8_5 : decode cJxc12de_init_da8c8 5 = .ok (.iconst 0, 1) := by decide +kernel
theorem dJxc12de_init_da8c8_6 : decode cJxc12de_init_da8c8 6 = .ok (.putfield 7, 3) := by decide +kernel
theorem dJxc12de_init_da8c8_9 : decode cJxc12de_init_da8c8 9 = .ok (.return_, 1) := by decide +kernel
def F_Jxc12de_init_da8c8 (G : Nat → Nat) (h : xH) (a0 : Nat) : Option xH :=
  (F_Jxa1e45_init_da8c8 G h a0).bind fun h1 =>
  (xp G h1 (some a0) 0 0 (.int 0)).bind fun h2 =>
  some h2
set_option maxHeartbeats 4000000 in
set_option maxRecDepth 100000 in
theorem t_Jxc12de_init_da8c8 (l : Launch) (D : va_G) (G : Nat → Nat) (h : xH) (a0 : Nat) (h' : xH) (hF : F_Jxc12de_init_da8c8 G h a0 = some h') : xC l yJxc12de_init_da8c8 cJxc12de_init_da8c8 1 none rm_Jxc12de_init_da8c8 D G h [.ref a0] none h' := by
  refine xC_of (by decide) (by first | decide | exact Nat.le_of_ble_eq_true rfl) ?_
  intro p e s m args below meth c ls hx hb hr hlk hml hown hnm hts hR hS hl
  have hl : lv_has ls 1 [(0, va_rf (some a0))] := hl
  unfold F_Jxc12de_init_da8c8 at hF
  refine x_aload_n (o := (some a0)) hx hb dJxc12de_init_da8c8_0 rfl (lv_at hl 0 rfl) ?_
  replace hF := xbind hF; obtain ⟨h1, eh1, hF⟩ := hF
  refine x_callI (o := (some a0)) (As := []) (rest := []) (v := none) (k := 0) hx hb hml hown hts hR hS rfl (t_Jxa1e45_init_da8c8 l D G h a0 h1 eh1) f_Jxa1e45_init_da8c8 mm_96 mm_97 rfl rfl hl.1 rfl (by first | exact Nat.le_of_ble_eq_true rfl | simp [xrf_cat, xcI, xcJ, xcA]) dJxc12de_init_da8c8_1 (by decide) (by decide) rfl (fun H locs hR hS => ?_)
  refine x_aload_n (o := (some a0)) hx hb dJxc12de_init_da8c8_4 rfl (lv_at hl 0 rfl) ?_
  refine lv_iconst (v := 0) hx hb dJxc12de_init_da8c8_5 (by decide) ?_
  replace hF := xbind hF; obtain ⟨h2, eh2, hF⟩ := hF
  refine x_put (o := (some a0)) (ci := 0) (C := RJx4a65c) (T := TJx4a65c) (N := 3) hx hb hts iw_Jx4a65c tyJx4a65c_ok nmJx4a65c hown hR hS rfl 0 (by decide) mm_104 (Or.inl rfl) rfl rfl rfl eh2 dJxc12de_init_da8c8_6 (fun H locs hR hS => ?_)
  cases hF
  exact x_vret hx hb hr hlk hR hS (by decide) (by decide) dJxc12de_init_da8c8_9
def rm_Jx4a65c_init_da8c8 : Room := { frames := 3, cells := 0, slots := 0, locals := 60 }
theorem f_Jx4a65c_init_da8c8 : xM yJx4a65c_init_da8c8 cJx4a65c_init_da8c8 1 none 0 := ⟨mm_92, mm_58, by decide +kernel, by decide +kernel⟩
theorem dJx4a65c_init_da8c8_0 : decode cJx4a65c_init_da8c8 0 = .ok (.aload_n 0, 1) := by decide +kernel
theorem dJx4a65c_init_da8c8_1 : decode cJx4a65c_init_da8c8 1 = .ok (.invokespecial 1, 3) := by decide +kernel
theorem dJx4a65c_init_da8c8_4 : decode cJx4a65c_init_da8c8 4 = .ok (.aload_n 0, 1) := by decide +kernel
theorem dJx4a65c_init_da8c8_5 : decode cJx4a65c_init_da8c8 5 = .ok (.getstatic 39, 3) := by decide +kernel
theorem dJx4a65c_init_da8c8_8 : decode cJx4a65c_init_da8c8 8 = .ok (.putfield 9, 3) := by decide +kernel
theorem dJx4a65c_init_da8c8_11 : decode cJx4a65c_init_da8c8 11 = .ok (.return_, 1) := by decide +kernel
def F_Jx4a65c_init_da8c8 (G : Nat → Nat) (h : xH) (a0 : Nat) : Option xH :=
  (F_Jxc12de_init_da8c8 G h a0).bind fun h1 =>
  (xp G h1 (some a0) 0 1 (va_rf (some (G 1)))).bind fun h2 =>
  some h2
set_option maxHeartbeats 4000000 in
set_option maxRecDepth 100000 in
theorem t_Jx4a65c_init_da8c8 (l : Launch) (D : va_G) (G : Nat → Nat) (h : xH) (a0 : Nat) (h' : xH) (hF : F_Jx4a65c_init_da8c8 G h a0 = some h') : xC l yJx4a65c_init_da8c8 cJx4a65c_init_da8c8 1 none rm_Jx4a65c_init_da8c8 D G h [.ref a0] none h' := by
  refine xC_of (by decide) (by first | decide | exact Nat.le_of_ble_eq_true rfl) ?_
  intro p e s m args below meth c ls hx hb hr hlk hml hown hnm hts hR hS hl
  have hl : lv_has ls 1 [(0, va_rf (some a0))] := hl
  unfold F_Jx4a65c_init_da8c8 at hF
  refine x_aload_n (o := (some a0)) hx hb dJx4a65c_init_da8c8_0 rfl (lv_at hl 0 rfl) ?_
  replace hF := xbind hF; obtain ⟨h1, eh1, hF⟩ := hF
  refine x_callI (o := (some a0)) (As := []) (rest := []) (v := none) (k := 0) hx hb hml hown hts hR hS rfl (t_Jxc12de_init_da8c8 l D G h a0 h1 eh1) f_Jxc12de_init_da8c8 mm_93 mm_94 rfl rfl hl.1 rfl (by first | exact Nat.le_of_ble_eq_true rfl | simp [xrf_cat, xcI, xcJ, xcA]) dJx4a65c_init_da8c8_1 (by decide) (by decide) rfl (fun H locs hR hS => ?_)
  refine x_aload_n (o := (some a0)) hx hb dJx4a65c_init_da8c8_4 rfl (lv_at hl 0 rfl) ?_
  refine x_gets hx hb hown hts hR mm_100 dJx4a65c_init_da8c8_5 ?_
  replace hF := xbind hF; obtain ⟨h2, eh2, hF⟩ := hF
  refine x_put (o := (some a0)) (ci := 0) (C := RJx4a65c) (T := TJx4a65c) (N := 3) hx hb hts iw_Jx4a65c tyJx4a65c_ok nmJx4a65c hown hR hS rfl 1 (by decide) mm_102 (Or.inl rfl) rfl xnarRA xfitRA eh2 dJx4a65c_init_da8c8_8 (fun H locs hR hS => ?_)
  cases hF
  exact x_vret hx hb hr hlk hR hS (by decide) (by decide) dJx4a65c_init_da8c8_11
def rm_Jx4a65c_size_8abf5 : Room := { frames := 0, cells := 0, slots := 0, locals := 0 }
theorem f_Jx4a65c_size_8abf5 : xM yJx4a65c_size_8abf5 cJx4a65c_size_8abf5 1 (some .int) 0 := ⟨mm_234, mm_58, by decide +kernel, by decide +kernel⟩
theorem dJx4a65c_size_8abf5_0 : decode cJx4a65c_size_8abf5 0 = .ok (.aload_n 0, 1) := by decide +kernel
theorem dJx4a65c_size_8abf5_1 : decode cJx4a65c_size_8abf5 1 = .ok (.getfield 48, 3) := by decide +kernel
theorem dJx4a65c_size_8abf5_4 : decode cJx4a65c_size_8abf5 4 = .ok (.ireturn, 1) := by decide +kernel
def F_Jx4a65c_size_8abf5 (G : Nat → Nat) (h : xH) (a0 : Nat) : Option Int32 :=
  (gI h (some a0) 0 2).bind fun v1 =>
  some v1
set_option maxHeartbeats 4000000 in
set_option maxRecDepth 100000 in
theorem t_Jx4a65c_size_8abf5 (l : Launch) (D : va_G) (G : Nat → Nat) (h : xH) (a0 : Nat) (r : Int32) (hF : F_Jx4a65c_size_8abf5 G h a0 = some r) : xC l yJx4a65c_size_8abf5 cJx4a65c_size_8abf5 1 (some .int) rm_Jx4a65c_size_8abf5 D G h [.ref a0] (some (.int r)) h := by
  refine xC_of (by decide) (by first | decide | exact Nat.le_of_ble_eq_true rfl) ?_
  intro p e s m args below meth c ls hx hb hr hlk hml hown hnm hts hR hS hl
  have hl : lv_has ls 1 [(0, va_rf (some a0))] := hl
  unfold F_Jx4a65c_size_8abf5 at hF
  refine x_aload_n (o := (some a0)) hx hb dJx4a65c_size_8abf5_0 rfl (lv_at hl 0 rfl) ?_
  replace hF := xbind hF; obtain ⟨v1, ev1, hF⟩ := hF
  refine x_getI (o := (some a0)) (ci := 0) (C := RJx4a65c) (T := TJx4a65c) (N := 3) hx hb hts iw_Jx4a65c hown hR rfl 2 (by decide) mm_103 (Or.inl rfl) ev1 dJx4a65c_size_8abf5_1 ?_
  cases hF
  exact x_iret hx hb hr rfl hlk hR hS (by decide) (by decide) dJx4a65c_size_8abf5_4
def rm_Jx4a65c_isEmpty_aae02 : Room := { frames := 0, cells := 0, slots := 0, locals := 0 }
theorem f_Jx4a65c_isEmpty_aae02 : xM yJx4a65c_isEmpty_aae02 cJx4a65c_isEmpty_aae02 1 (some .boolean) 0 := ⟨mm_930, mm_58, by decide +kernel, by decide +kernel⟩
theorem dJx4a65c_isEmpty_aae02_0 : decode cJx4a65c_isEmpty_aae02 0 = .ok (.aload_n 0, 1) := by decide +kernel
theorem dJx4a65c_isEmpty_aae02_1 : decode cJx4a65c_isEmpty_aae02 1 = .ok (.getfield 48, 3) := by decide +kernel
theorem dJx4a65c_isEmpty_aae02_4 : decode cJx4a65c_isEmpty_aae02 4 = .ok (.ifCond .ne 7, 3) := by decide +kernel
theorem dJx4a65c_isEmpty_aae02_7 : decode cJx4a65c_isEmpty_aae02 7 = .ok (.iconst 1, 1) := by decide +kernel
theorem dJx4a65c_isEmpty_aae02_8 : decode cJx4a65c_isEmpty_aae02 8 = .ok (.goto 4, 3) := by decide +kernel
theorem dJx4a65c_isEmpty_aae02_11 : decode cJx4a65c_isEmpty_aae02 11 = .ok (.iconst 0, 1) := by decide +kernel
theorem dJx4a65c_isEmpty_aae02_12 : decode cJx4a65c_isEmpty_aae02 12 = .ok (.ireturn, 1) := by decide +kernel
def F_Jx4a65c_isEmpty_aae02 (G : Nat → Nat) (h : xH) (a0 : Nat) : Option Int32 :=
  (gI h (some a0) 0 2).bind fun v1 =>
  if v1 = 0 then
    some 1
  else
  some 0
set_option maxHeartbeats 4000000 in
set_option maxRecDepth 100000 in
theorem t_Jx4a65c_isEmpty_aae02 (l : Launch) (D : va_G) (G : Nat → Nat) (h : xH) (a0 : Nat) (r : Int32) (hF : F_Jx4a65c_isEmpty_aae02 G h a0 = some r) : xC l yJx4a65c_isEmpty_aae02 cJx4a65c_isEmpty_aae02 1 (some .boolean) rm_Jx4a65c_isEmpty_aae02 D G h [.ref a0] (some (.int r)) h := by
  refine xC_of (by decide) (by first | decide | exact Nat.le_of_ble_eq_true rfl) ?_
  intro p e s m args below meth c ls hx hb hr hlk hml hown hnm hts hR hS hl
  have hl : lv_has ls 1 [(0, va_rf (some a0))] := hl
  unfold F_Jx4a65c_isEmpty_aae02 at hF
  refine x_aload_n (o := (some a0)) hx hb dJx4a65c_isEmpty_aae02_0 rfl (lv_at hl 0 rfl) ?_
  replace hF := xbind hF; obtain ⟨v1, ev1, hF⟩ := hF
  refine x_getI (o := (some a0)) (ci := 0) (C := RJx4a65c) (T := TJx4a65c) (N := 3) hx hb hts iw_Jx4a65c hown hR rfl 2 (by decide) mm_103 (Or.inl rfl) ev1 dJx4a65c_isEmpty_aae02_1 ?_
  refine lv_if_ne (tgt := 11) hx hb dJx4a65c_isEmpty_aae02_4 (by decide) (fun c2 => ?_) (fun c2 => ?_)
  · replace hF := xiff c2 hF
    refine lv_iconst (v := 0) hx hb dJx4a65c_isEmpty_aae02_11 (by decide) ?_
    cases hF
    exact x_iret hx hb hr rfl hlk hR hS (by decide) (by decide) dJx4a65c_isEmpty_aae02_12
  · replace hF := xift c2 hF
    refine lv_iconst (v := 1) hx hb dJx4a65c_isEmpty_aae02_7 (by decide) ?_
    refine lv_goto (tgt := 12) hx hb dJx4a65c_isEmpty_aae02_8 (by decide) ?_
    cases hF
    exact x_iret hx hb hr rfl hlk hR hS (by decide) (by decide) dJx4a65c_isEmpty_aae02_12
def rm_Jx4a65c_elementData_915e3 : Room := { frames := 0, cells := 0, slots := 0, locals := 0 }
theorem f_Jx4a65c_elementData_915e3 : xM yJx4a65c_elementData_915e3 cJx4a65c_elementData_915e3 2 (some (.object "java/lang/Object")) 1 := ⟨mm_346, mm_58, by decide +kernel, by decide +kernel⟩
theorem dJx4a65c_elementData_915e3_0 : decode cJx4a65c_elementData_915e3 0 = .ok (.aload_n 0, 1) := by decide +kernel
theorem dJx4a65c_elementData_915e3_1 : decode cJx4a65c_elementData_915e3 1 = .ok (.getfield 9, 3) := by decide +kernel
theorem dJx4a65c_elementData_915e3_4 : decode cJx4a65c_elementData_915e3 4 = .ok (.iload_n 1, 1) := by decide +kernel
theorem dJx4a65c_elementData_915e3_5 : decode cJx4a65c_elementData_915e3 5 = .ok (.aaload, 1) := by decide +kernel
theorem dJx4a65c_elementData_915e3_6 : decode cJx4a65c_elementData_915e3 6 = .ok (.areturn, 1) := by decide +kernel
def F_Jx4a65c_elementData_915e3 (G : Nat → Nat) (h : xH) (a0 : Nat) (x1 : Int32) : Option (Option Nat) :=
  (gR h (some a0) 0 1).bind fun w1 =>
  (ldR G h w1 x1).bind fun w2 =>
  some w2
set_option maxHeartbeats 4000000 in
set_option maxRecDepth 100000 in
theorem t_Jx4a65c_elementData_915e3 (l : Launch) (D : va_G) (G : Nat → Nat) (h : xH) (a0 : Nat) (x1 : Int32) (r : Option Nat) (hF : F_Jx4a65c_elementData_915e3 G h a0 x1 = some r) : xC l yJx4a65c_elementData_915e3 cJx4a65c_elementData_915e3 2 (some (.object "java/lang/Object")) rm_Jx4a65c_elementData_915e3 D G h [.ref a0, .int x1] (some (va_rf r)) h := by
  refine xC_of (by decide) (by first | decide | exact Nat.le_of_ble_eq_true rfl) ?_
  intro p e s m args below meth c ls hx hb hr hlk hml hown hnm hts hR hS hl
  have hl : lv_has ls 2 [(0, va_rf (some a0)), (1, .int x1)] := hl
  unfold F_Jx4a65c_elementData_915e3 at hF
  refine x_aload_n (o := (some a0)) hx hb dJx4a65c_elementData_915e3_0 rfl (lv_at hl 0 rfl) ?_
  replace hF := xbind hF; obtain ⟨w1, ew1, hF⟩ := hF
  refine x_getR (o := (some a0)) (ci := 0) (C := RJx4a65c) (T := TJx4a65c) (N := 3) hx hb hts iw_Jx4a65c hown hR rfl 1 (by decide) mm_102 (Or.inl rfl) ew1 dJx4a65c_elementData_915e3_1 ?_
  refine lv_iload_n hx hb dJx4a65c_elementData_915e3_4 rfl (lv_at hl 1 rfl) ?_
  replace hF := xbind hF; obtain ⟨w2, ew2, hF⟩ := hF
  refine x_ald (o := w1) hx hb hR ew2 dJx4a65c_elementData_915e3_5 ?_
  cases hF
  exact x_aret hx hb hr (Or.inl ⟨_, rfl⟩) hlk hR hS (by decide) (by decide) dJx4a65c_elementData_915e3_6
def rm_Jx4a65c_get_915e3 : Room := { frames := 2, cells := 0, slots := 0, locals := 43 }
theorem f_Jx4a65c_get_915e3 : xM yJx4a65c_get_915e3 cJx4a65c_get_915e3 2 (some (.object "java/lang/Object")) 1 := ⟨mm_336, mm_58, by decide +kernel, by decide +kernel⟩
theorem dJx4a65c_get_915e3_0 : decode cJx4a65c_get_915e3 0 = .ok (.iload_n 1, 1) := by decide +kernel
theorem dJx4a65c_get_915e3_1 : decode cJx4a65c_get_915e3 1 = .ok (.aload_n 0, 1) := by decide +kernel
theorem dJx4a65c_get_915e3_2 : decode cJx4a65c_get_915e3 2 = .ok (.getfield 48, 3) := by decide +kernel
theorem dJx4a65c_get_915e3_5 : decode cJx4a65c_get_915e3 5 = .ok (.invokestatic 118, 3) := by decide +kernel
theorem dJx4a65c_get_915e3_8 : decode cJx4a65c_get_915e3 8 = .ok (.pop, 1) := by decide +kernel
theorem dJx4a65c_get_915e3_9 : decode cJx4a65c_get_915e3 9 = .ok (.aload_n 0, 1) := by decide +kernel
theorem dJx4a65c_get_915e3_10 : decode cJx4a65c_get_915e3 10 = .ok (.iload_n 1, 1) := by decide +kernel
theorem dJx4a65c_get_915e3_11 : decode cJx4a65c_get_915e3 11 = .ok (.invokevirtual 123, 3) := by decide +kernel
theorem dJx4a65c_get_915e3_14 : decode cJx4a65c_get_915e3 14 = .ok (.areturn, 1) := by decide +kernel
def F_Jx4a65c_get_915e3 (G : Nat → Nat) (h : xH) (a0 : Nat) (x1 : Int32) : Option (Option Nat) :=
  (gI h (some a0) 0 2).bind fun v1 =>
  (F_J15_checkIndex_7cf53 x1 v1).bind fun v2 =>
  (xc h (some a0) 0).bind fun b4 =>
  (F_Jx4a65c_elementData_915e3 G h b4 x1).bind fun w3 =>
  some w3
set_option maxHeartbeats 4000000 in
set_option maxRecDepth 100000 in
theorem t_Jx4a65c_get_915e3 (l : Launch) (D : va_G) (G : Nat → Nat) (h : xH) (a0 : Nat) (x1 : Int32) (r : Option Nat) (hF : F_Jx4a65c_get_915e3 G h a0 x1 = some r) : xC l yJx4a65c_get_915e3 cJx4a65c_get_915e3 2 (some (.object "java/lang/Object")) rm_Jx4a65c_get_915e3 D G h [.ref a0, .int x1] (some (va_rf r)) h := by
  refine xC_of (by decide) (by first | decide | exact Nat.le_of_ble_eq_true rfl) ?_
  intro p e s m args below meth c ls hx hb hr hlk hml hown hnm hts hR hS hl
  have hl : lv_has ls 2 [(0, va_rf (some a0)), (1, .int x1)] := hl
  unfold F_Jx4a65c_get_915e3 at hF
  refine lv_iload_n hx hb dJx4a65c_get_915e3_0 rfl (lv_at hl 1 rfl) ?_
  refine x_aload_n (o := (some a0)) hx hb dJx4a65c_get_915e3_1 rfl (lv_at hl 0 rfl) ?_
  replace hF := xbind hF; obtain ⟨v1, ev1, hF⟩ := hF
  refine x_getI (o := (some a0)) (ci := 0) (C := RJx4a65c) (T := TJx4a65c) (N := 3) hx hb hts iw_Jx4a65c hown hR rfl 2 (by decide) mm_103 (Or.inl rfl) ev1 dJx4a65c_get_915e3_2 ?_
  replace hF := xbind hF; obtain ⟨v2, ev2, hF⟩ := hF
  refine x_callS (As := [.int x1, .int v1]) (rest := []) (v := (some (.int v2))) (k := 2) hx hb hml hown hts hR hS (t_J15_checkIndex_7cf53 l D G h x1 v1 v2 ev2) f_J15_checkIndex_7cf53 mm_337 mm_338 rfl hl.1 rfl (by first | exact Nat.le_of_ble_eq_true rfl | simp [xrf_cat, xcI, xcJ, xcA]) dJx4a65c_get_915e3_5 (by decide) (by decide) rfl (fun H locs hR hS => ?_)
  refine lv_pop hx hb dJx4a65c_get_915e3_8 rfl ?_
  refine x_aload_n (o := (some a0)) hx hb dJx4a65c_get_915e3_9 rfl (lv_at hl 0 rfl) ?_
  refine lv_iload_n hx hb dJx4a65c_get_915e3_10 rfl (lv_at hl 1 rfl) ?_
  replace hF := xbind hF; obtain ⟨b4, eb4, hF⟩ := hF
  replace hF := xbind hF; obtain ⟨w3, ew3, hF⟩ := hF
  refine x_callV (o := (some a0)) (ci := 0) (As := [.int x1]) (rest := []) (v := (some (va_rf w3))) (k := 1) hx hb hml hown hts hR hS eb4 rfl rfl (t_Jx4a65c_elementData_915e3 l D G h b4 x1 w3 ew3) f_Jx4a65c_elementData_915e3 mm_343 mm_344 mm_345 rfl hl.1 rfl (by first | exact Nat.le_of_ble_eq_true rfl | simp [xrf_cat, xcI, xcJ, xcA]) dJx4a65c_get_915e3_11 (by decide) (by decide) rfl (fun H locs hR hS => ?_)
  cases hF
  exact x_aret hx hb hr (Or.inl ⟨_, rfl⟩) hlk hR hS (by decide) (by decide) dJx4a65c_get_915e3_14
end
section
def rm_X8_isOpen : Room := { frames := 0, cells := 0, slots := 0, locals := 0 }
theorem f_X8_isOpen : xM yX8_isOpen cX8_isOpen 3 (some .boolean) 2 := ⟨mm_389, mm_70, by decide +kernel, by decide +kernel⟩
theorem dX8_isOpen_0 : decode cX8_isOpen 0 = .ok (.iload_n 1, 1) := by decide +kernel
theorem dX8_isOpen_1 : decode cX8_isOpen 1 = .ok (.iload_n 2, 1) := by decide +kernel
theorem dX8_isOpen_2 : decode cX8_isOpen 2 = .ok (.aload_n 0, 1) := by decide +kernel
theorem dX8_isOpen_3 : decode cX8_isOpen 3 = .ok (.getfield 23, 3) := by decide +kernel
theorem dX8_isOpen_6 : decode cX8_isOpen 6 = .ok (.isub, 1) := by decide +kernel
theorem dX8_isOpen_7 : decode cX8_isOpen 7 = .ok (.if_icmp .lt 7, 3) := by decide +kernel
theorem dX8_isOpen_10 : decode cX8_isOpen 10 = .ok (.iconst 1, 1) := by decide +kernel
theorem dX8_isOpen_11 : decode cX8_isOpen 11 = .ok (.goto 4, 3) := by decide +kernel
theorem dX8_isOpen_14 : decode cX8_isOpen 14 = .ok (.iconst 0, 1) := by decide +kernel
theorem dX8_isOpen_15 : decode cX8_isOpen 15 = .ok (.ireturn, 1) := by decide +kernel
def F_X8_isOpen (G : Nat → Nat) (h : xH) (a0 : Nat) (x1 : Int32) (x2 : Int32) : Option Int32 :=
  (gI h (some a0) 8 0).bind fun v1 =>
  if x1 < (x2 - v1) then
    some 0
  else
  some 1
set_option maxHeartbeats 4000000 in
set_option maxRecDepth 100000 in
theorem t_X8_isOpen (l : Launch) (D : va_G) (G : Nat → Nat) (h : xH) (a0 : Nat) (x1 : Int32) (x2 : Int32) (r : Int32) (hF : F_X8_isOpen G h a0 x1 x2 = some r) : xC l yX8_isOpen cX8_isOpen 3 (some .boolean) rm_X8_isOpen D G h [.ref a0, .int x1, .int x2] (some (.int r)) h := by
  refine xC_of (by decide) (by first | decide | exact Nat.le_of_ble_eq_true rfl) ?_
  intro p e s m args below meth c ls hx hb hr hlk hml hown hnm hts hR hS hl
  have hl : lv_has ls 3 [(0, va_rf (some a0)), (1, .int x1), (2, .int x2)] := hl
  unfold F_X8_isOpen at hF
  refine lv_iload_n hx hb dX8_isOpen_0 rfl (lv_at hl 1 rfl) ?_
  refine lv_iload_n hx hb dX8_isOpen_1 rfl (lv_at hl 2 rfl) ?_
  refine x_aload_n (o := (some a0)) hx hb dX8_isOpen_2 rfl (lv_at hl 0 rfl) ?_
  replace hF := xbind hF; obtain ⟨v1, ev1, hF⟩ := hF
  refine x_getI (o := (some a0)) (ci := 8) (C := RX8) (T := TX8) (N := 5) hx hb hts iw_X8 hown hR rfl 0 (by decide) mm_356 (Or.inl rfl) ev1 dX8_isOpen_3 ?_
  refine lv_isub hx hb dX8_isOpen_6 ?_
  refine lv_icmp_lt (tgt := 14) hx hb dX8_isOpen_7 (by decide) (fun c2 => ?_) (fun c2 => ?_)
  · replace hF := xift c2 hF
    refine lv_iconst (v := 0) hx hb dX8_isOpen_14 (by decide) ?_
    cases hF
    exact x_iret hx hb hr rfl hlk hR hS (by decide) (by decide) dX8_isOpen_15
  · replace hF := xiff c2 hF
    refine lv_iconst (v := 1) hx hb dX8_isOpen_10 (by decide) ?_
    refine lv_goto (tgt := 15) hx hb dX8_isOpen_11 (by decide) ?_
    cases hF
    exact x_iret hx hb hr rfl hlk hR hS (by decide) (by decide) dX8_isOpen_15
def rm_X8_toCome : Room := { frames := 1, cells := 0, slots := 0, locals := 22 }
theorem f_X8_toCome : xM yX8_toCome cX8_toCome 3 (some .int) 2 := ⟨mm_478, mm_70, by decide +kernel, by decide +kernel⟩
theorem dX8_toCome_0 : decode cX8_toCome 0 = .ok (.iload_n 1, 1) := by decide +kernel
theorem dX8_toCome_1 : decode cX8_toCome 1 = .ok (.ifCond .lt 19, 3) := by decide +kernel
theorem dX8_toCome_4 : decode cX8_toCome 4 = .ok (.iload_n 1, 1) := by decide +kernel
theorem dX8_toCome_5 : decode cX8_toCome 5 = .ok (.sipush 601, 3) := by decide +kernel
theorem dX8_toCome_8 : decode cX8_toCome 8 = .ok (.if_icmp .ge 12, 3) := by decide +kernel
theorem dX8_toCome_11 : decode cX8_toCome 11 = .ok (.aload_n 0, 1) := by decide +kernel
theorem dX8_toCome_12 : decode cX8_toCome 12 = .ok (.iload_n 1, 1) := by decide +kernel
theorem dX8_toCome_13 : decode cX8_toCome 13 = .ok (.iload_n 2, 1) := by decide +kernel
theorem dX8_toCome_14 : decode cX8_toCome 14 = .ok (.invokevirtual 30, 3) := by decide +kernel
theorem dX8_toCome_17 : decode cX8_toCome 17 = .ok (.ifCond .ne 5, 3) := by decide +kernel
theorem dX8_toCome_20 : decode cX8_toCome 20 = .ok (.iconst 0, 1) := by decide +kernel
theorem dX8_toCome_21 : decode cX8_toCome 21 = .ok (.ireturn, 1) := by decide +kernel
theorem dX8_toCome_22 : decode cX8_toCome 22 = .ok (.aload_n 0, 1) := by decide +kernel
theorem dX8_toCome_23 : decode cX8_toCome 23 = .ok (.getfield 27, 3) := by decide +kernel
theorem dX8_toCome_26 : decode cX8_toCome 26 = .ok (.aload_n 0, 1) := by decide +kernel
theorem dX8_toCome_27 : decode cX8_toCome 27 = .ok (.getfield 9, 3) := by decide +kernel
theorem dX8_toCome_30 : decode cX8_toCome 30 = .ok (.iload_n 1, 1) := by decide +kernel
theorem dX8_toCome_31 : decode cX8_toCome 31 = .ok (.iaload, 1) := by decide +kernel
theorem dX8_toCome_32 : decode cX8_toCome 32 = .ok (.isub, 1) := by decide +kernel
theorem dX8_toCome_33 : decode cX8_toCome 33 = .ok (.ireturn, 1) := by decide +kernel
def F_X8_toCome (G : Nat → Nat) (h : xH) (a0 : Nat) (x1 : Int32) (x2 : Int32) : Option Int32 :=
  if x1 < 0 then
    some 0
  else
  if 601 ≤ x1 then
    some 0
  else
  (xc h (some a0) 8).bind fun b4 =>
  (F_X8_isOpen G h b4 x1 x2).bind fun v3 =>
  if v3 = 0 then
    some 0
  else
  (gI h (some a0) 8 2).bind fun v6 =>
  (gR h (some a0) 8 3).bind fun w7 =>
  (ldI 2 G h w7 x1).bind fun v8 =>
  some (v6 - v8)
set_option maxHeartbeats 4000000 in
set_option maxRecDepth 100000 in
theorem t_X8_toCome (l : Launch) (D : va_G) (G : Nat → Nat) (h : xH) (a0 : Nat) (x1 : Int32) (x2 : Int32) (r : Int32) (hF : F_X8_toCome G h a0 x1 x2 = some r) : xC l yX8_toCome cX8_toCome 3 (some .int) rm_X8_toCome D G h [.ref a0, .int x1, .int x2] (some (.int r)) h := by
  refine xC_of (by decide) (by first | decide | exact Nat.le_of_ble_eq_true rfl) ?_
  intro p e s m args below meth c ls hx hb hr hlk hml hown hnm hts hR hS hl
  have hl : lv_has ls 3 [(0, va_rf (some a0)), (1, .int x1), (2, .int x2)] := hl
  unfold F_X8_toCome at hF
  refine lv_iload_n hx hb dX8_toCome_0 rfl (lv_at hl 1 rfl) ?_
  refine lv_if_lt (tgt := 20) hx hb dX8_toCome_1 (by decide) (fun c1 => ?_) (fun c1 => ?_)
  · replace hF := xift c1 hF
    refine lv_iconst (v := 0) hx hb dX8_toCome_20 (by decide) ?_
    cases hF
    exact x_iret hx hb hr rfl hlk hR hS (by decide) (by decide) dX8_toCome_21
  · replace hF := xiff c1 hF
    refine lv_iload_n hx hb dX8_toCome_4 rfl (lv_at hl 1 rfl) ?_
    refine lv_sipush (v := 601) hx hb dX8_toCome_5 (by decide) ?_
    refine lv_icmp_ge (tgt := 20) hx hb dX8_toCome_8 (by decide) (fun c2 => ?_) (fun c2 => ?_)
    · replace hF := xift c2 hF
      refine lv_iconst (v := 0) hx hb dX8_toCome_20 (by decide) ?_
      cases hF
      exact x_iret hx hb hr rfl hlk hR hS (by decide) (by decide) dX8_toCome_21
    · replace hF := xiff c2 hF
      refine x_aload_n (o := (some a0)) hx hb dX8_toCome_11 rfl (lv_at hl 0 rfl) ?_
      refine lv_iload_n hx hb dX8_toCome_12 rfl (lv_at hl 1 rfl) ?_
      refine lv_iload_n hx hb dX8_toCome_13 rfl (lv_at hl 2 rfl) ?_
      replace hF := xbind hF; obtain ⟨b4, eb4, hF⟩ := hF
      replace hF := xbind hF; obtain ⟨v3, ev3, hF⟩ := hF
      refine x_callV (o := (some a0)) (ci := 8) (As := [.int x1, .int x2]) (rest := []) (v := (some (.int v3))) (k := 2) hx hb hml hown hts hR hS eb4 rfl rfl (t_X8_isOpen l D G h b4 x1 x2 v3 ev3) f_X8_isOpen mm_386 mm_388 mm_5 rfl hl.1 rfl (by first | exact Nat.le_of_ble_eq_true rfl | simp [xrf_cat, xcI, xcJ, xcA]) dX8_toCome_14 (by decide) (by decide) rfl (fun H locs hR hS => ?_)
      refine lv_if_ne (tgt := 22) hx hb dX8_toCome_17 (by decide) (fun c5 => ?_) (fun c5 => ?_)
      · replace hF := xiff c5 hF
        refine x_aload_n (o := (some a0)) hx hb dX8_toCome_22 rfl (lv_at hl 0 rfl) ?_
        replace hF := xbind hF; obtain ⟨v6, ev6, hF⟩ := hF
        refine x_getI (o := (some a0)) (ci := 8) (C := RX8) (T := TX8) (N := 5) hx hb hts iw_X8 hown hR rfl 2 (by decide) mm_359 (Or.inl rfl) ev6 dX8_toCome_23 ?_
        refine x_aload_n (o := (some a0)) hx hb dX8_toCome_26 rfl (lv_at hl 0 rfl) ?_
        replace hF := xbind hF; obtain ⟨w7, ew7, hF⟩ := hF
        refine x_getR (o := (some a0)) (ci := 8) (C := RX8) (T := TX8) (N := 5) hx hb hts iw_X8 hown hR rfl 3 (by decide) mm_360 (Or.inl rfl) ew7 dX8_toCome_27 ?_
        refine lv_iload_n hx hb dX8_toCome_30 rfl (lv_at hl 1 rfl) ?_
        replace hF := xbind hF; obtain ⟨v8, ev8, hF⟩ := hF
        refine x_ild (o := w7) hx hb hR ev8 dX8_toCome_31 ?_
        refine lv_isub hx hb dX8_toCome_32 ?_
        cases hF
        exact x_iret hx hb hr rfl hlk hR hS (by decide) (by decide) dX8_toCome_33
      · replace hF := xift c5 hF
        refine lv_iconst (v := 0) hx hb dX8_toCome_20 (by decide) ?_
        cases hF
        exact x_iret hx hb hr rfl hlk hR hS (by decide) (by decide) dX8_toCome_21
def rm_X8_refusal : Room := { frames := 1, cells := 0, slots := 0, locals := 22 }
theorem f_X8_refusal : xM yX8_refusal cX8_refusal 5 (some .int) 4 := ⟨mm_385, mm_70, by decide +kernel, by decide +kernel⟩
theorem dX8_refusal_0 : decode cX8_refusal 0 = .ok (.iload_n 1, 1) := by decide +kernel
theorem dX8_refusal_1 : decode cX8_refusal 1 = .ok (.ifCond .lt 21, 3) := by decide +kernel
theorem dX8_refusal_4 : decode cX8_refusal 4 = .ok (.iload_n 1, 1) := by decide +kernel
theorem dX8_refusal_5 : decode cX8_refusal 5 = .ok (.sipush 200, 3) := by decide +kernel
theorem dX8_refusal_8 : decode cX8_refusal 8 = .ok (.if_icmp .ge 14, 3) := by decide +kernel
theorem dX8_refusal_11 : decode cX8_refusal 11 = .ok (.aload_n 0, 1) := by decide +kernel
theorem dX8_refusal_12 : decode cX8_refusal 12 = .ok (.getfield 15, 3) := by decide +kernel
theorem dX8_refusal_15 : decode cX8_refusal 15 = .ok (.iload_n 1, 1) := by decide +kernel
theorem dX8_refusal_16 : decode cX8_refusal 16 = .ok (.baload, 1) := by decide +kernel
theorem dX8_refusal_17 : decode cX8_refusal 17 = .ok (.ifCond .eq 5, 3) := by decide +kernel
theorem dX8_refusal_20 : decode cX8_refusal 20 = .ok (.iconst 2, 1) := by decide +kernel
theorem dX8_refusal_21 : decode cX8_refusal 21 = .ok (.ireturn, 1) := by decide +kernel
theorem dX8_refusal_22 : decode cX8_refusal 22 = .ok (.iload_n 2, 1) := by decide +kernel
theorem dX8_refusal_23 : decode cX8_refusal 23 = .ok (.ifCond .lt 16, 3) := by decide +kernel
theorem dX8_refusal_26 : decode cX8_refusal 26 = .ok (.iload_n 2, 1) := by decide +kernel
theorem dX8_refusal_27 : decode cX8_refusal 27 = .ok (.iload 4, 2) := by decide +kernel
theorem dX8_refusal_29 : decode cX8_refusal 29 = .ok (.if_icmp .gt 10, 3) := by decide +kernel
theorem dX8_refusal_32 : decode cX8_refusal 32 = .ok (.iload_n 2, 1) := by decide +kernel
theorem dX8_refusal_33 : decode cX8_refusal 33 = .ok (.sipush 601, 3) := by decide +kernel
theorem dX8_refusal_36 : decode cX8_refusal 36 = .ok (.if_icmp .lt 5, 3) := by decide +kernel
theorem dX8_refusal_39 : decode cX8_refusal 39 = .ok (.iconst 3, 1) := by decide +kernel
theorem dX8_refusal_40 : decode cX8_refusal 40 = .ok (.ireturn, 1) := by decide +kernel
theorem dX8_refusal_41 : decode cX8_refusal 41 = .ok (.aload_n 0, 1) := by decide +kernel
theorem dX8_refusal_42 : decode cX8_refusal 42 = .ok (.iload_n 2, 1) := by decide +kernel
theorem dX8_refusal_43 : decode cX8_refusal 43 = .ok (.iload 4, 2) := by decide +kernel
theorem dX8_refusal_45 : decode cX8_refusal 45 = .ok (.invokevirtual 30, 3) := by decide +kernel
theorem dX8_refusal_48 : decode cX8_refusal 48 = .ok (.ifCond .ne 5, 3) := by decide +kernel
theorem dX8_refusal_51 : decode cX8_refusal 51 = .ok (.iconst 4, 1) := by decide +kernel
theorem dX8_refusal_52 : decode cX8_refusal 52 = .ok (.ireturn, 1) := by decide +kernel
theorem dX8_refusal_53 : decode cX8_refusal 53 = .ok (.aload_n 0, 1) := by decide +kernel
theorem dX8_refusal_54 : decode cX8_refusal 54 = .ok (.getfield 9, 3) := by decide +kernel
theorem dX8_refusal_57 : decode cX8_refusal 57 = .ok (.iload_n 2, 1) := by decide +kernel
theorem dX8_refusal_58 : decode cX8_refusal 58 = .ok (.iaload, 1) := by decide +kernel
theorem dX8_refusal_59 : decode cX8_refusal 59 = .ok (.iload_n 3, 1) := by decide +kernel
theorem dX8_refusal_60 : decode cX8_refusal 60 = .ok (.iadd, 1) := by decide +kernel
theorem dX8_refusal_61 : decode cX8_refusal 61 = .ok (.aload_n 0, 1) := by decide +kernel
theorem dX8_refusal_62 : decode cX8_refusal 62 = .ok (.getfield 27, 3) := by decide +kernel
theorem dX8_refusal_65 : decode cX8_refusal 65 = .ok (.if_icmp .le 7, 3) := by decide +kernel
theorem dX8_refusal_68 : decode cX8_refusal 68 = .ok (.iconst 5, 1) := by decide +kernel
theorem dX8_refusal_69 : decode cX8_refusal 69 = .ok (.goto 4, 3) := by decide +kernel
theorem dX8_refusal_72 : decode cX8_refusal 72 = .ok (.iconst 0, 1) := by decide +kernel
theorem dX8_refusal_73 : decode cX8_refusal 73 = .ok (.ireturn, 1) := by decide +kernel
def F_X8_refusal (G : Nat → Nat) (h : xH) (a0 : Nat) (x1 : Int32) (x2 : Int32) (x3 : Int32) (x4 : Int32) : Option Int32 :=
  if x1 < 0 then
    if x2 < 0 then
      some 3
    else
    if x4 < x2 then
      some 3
    else
    if x2 < 601 then
      (xc h (some a0) 8).bind fun b6 =>
      (F_X8_isOpen G h b6 x2 x4).bind fun v5 =>
      if v5 = 0 then
        some 4
      else
      (gR h (some a0) 8 3).bind fun w8 =>
      (ldI 2 G h w8 x2).bind fun v9 =>
      (gI h (some a0) 8 2).bind fun v10 =>
      if (v9 + x3) ≤ v10 then
        some 0
      else
      some 5
    else
    some 3
  else
  if 200 ≤ x1 then
    if x2 < 0 then
      some 3
    else
    if x4 < x2 then
      some 3
    else
    if x2 < 601 then
      (xc h (some a0) 8).bind fun b17 =>
      (F_X8_isOpen G h b17 x2 x4).bind fun v16 =>
      if v16 = 0 then
        some 4
      else
      (gR h (some a0) 8 3).bind fun w19 =>
      (ldI 2 G h w19 x2).bind fun v20 =>
      (gI h (some a0) 8 2).bind fun v21 =>
      if (v20 + x3) ≤ v21 then
        some 0
      else
      some 5
    else
    some 3
  else
  (gR h (some a0) 8 4).bind fun w23 =>
  (ldI 3 G h w23 x1).bind fun v24 =>
  if v24 = 0 then
    if x2 < 0 then
      some 3
    else
    if x4 < x2 then
      some 3
    else
    if x2 < 601 then
      (xc h (some a0) 8).bind fun b30 =>
      (F_X8_isOpen G h b30 x2 x4).bind fun v29 =>
      if v29 = 0 then
        some 4
      else
      (gR h (some a0) 8 3).bind fun w32 =>
      (ldI 2 G h w32 x2).bind fun v33 =>
      (gI h (some a0) 8 2).bind fun v34 =>
      if (v33 + x3) ≤ v34 then
        some 0
      else
      some 5
    else
    some 3
  else
  some 2
set_option maxHeartbeats 4000000 in
set_option maxRecDepth 100000 in
theorem t_X8_refusal (l : Launch) (D : va_G) (G : Nat → Nat) (h : xH) (a0 : Nat) (x1 : Int32) (x2 : Int32) (x3 : Int32) (x4 : Int32) (r : Int32) (hF : F_X8_refusal G h a0 x1 x2 x3 x4 = some r) : xC l yX8_refusal cX8_refusal 5 (some .int) rm_X8_refusal D G h [.ref a0, .int x1, .int x2, .int x3, .int x4] (some (.int r)) h := by
  refine xC_of (by decide) (by first | decide | exact Nat.le_of_ble_eq_true rfl) ?_
  intro p e s m args below meth c ls hx hb hr hlk hml hown hnm hts hR hS hl
  have hl : lv_has ls 5 [(0, va_rf (some a0)), (1, .int x1), (2, .int x2), (3, .int x3), (4, .int x4)] := hl
  unfold F_X8_refusal at hF
  refine lv_iload_n hx hb dX8_refusal_0 rfl (lv_at hl 1 rfl) ?_
  refine lv_if_lt (tgt := 22) hx hb dX8_refusal_1 (by decide) (fun c1 => ?_) (fun c1 => ?_)
  · replace hF := xift c1 hF
    refine lv_iload_n hx hb dX8_refusal_22 rfl (lv_at hl 2 rfl) ?_
    refine lv_if_lt (tgt := 39) hx hb dX8_refusal_23 (by decide) (fun c2 => ?_) (fun c2 => ?_)
    · replace hF := xift c2 hF
      refine lv_iconst (v := 3) hx hb dX8_refusal_39 (by decide) ?_
      cases hF
      exact x_iret hx hb hr rfl hlk hR hS (by decide) (by decide) dX8_refusal_40
    · replace hF := xiff c2 hF
      refine lv_iload_n hx hb dX8_refusal_26 rfl (lv_at hl 2 rfl) ?_
      refine lv_iload hx hb dX8_refusal_27 (lv_at hl 4 rfl) ?_
      refine lv_icmp_gt (tgt := 39) hx hb dX8_refusal_29 (by decide) (fun c3 => ?_) (fun c3 => ?_)
      · replace hF := xift c3 hF
        refine lv_iconst (v := 3) hx hb dX8_refusal_39 (by decide) ?_
        cases hF
        exact x_iret hx hb hr rfl hlk hR hS (by decide) (by decide) dX8_refusal_40
      · replace hF := xiff c3 hF
        refine lv_iload_n hx hb dX8_refusal_32 rfl (lv_at hl 2 rfl) ?_
        refine lv_sipush (v := 601) hx hb dX8_refusal_33 (by decide) ?_
        refine lv_icmp_lt (tgt := 41) hx hb dX8_refusal_36 (by decide) (fun c4 => ?_) (fun c4 => ?_)
        · replace hF := xift c4 hF
          refine x_aload_n (o := (some a0)) hx hb dX8_refusal_41 rfl (lv_at hl 0 rfl) ?_
          refine lv_iload_n hx hb dX8_refusal_42 rfl (lv_at hl 2 rfl) ?_
          refine lv_iload hx hb dX8_refusal_43 (lv_at hl 4 rfl) ?_
          replace hF := xbind hF; obtain ⟨b6, eb6, hF⟩ := hF
          replace hF := xbind hF; obtain ⟨v5, ev5, hF⟩ := hF
          refine x_callV (o := (some a0)) (ci := 8) (As := [.int x2, .int x4]) (rest := []) (v := (some (.int v5))) (k := 2) hx hb hml hown hts hR hS eb6 rfl rfl (t_X8_isOpen l D G h b6 x2 x4 v5 ev5) f_X8_isOpen mm_386 mm_388 mm_5 rfl hl.1 rfl (by first | exact Nat.le_of_ble_eq_true rfl | simp [xrf_cat, xcI, xcJ, xcA]) dX8_refusal_45 (by decide) (by decide) rfl (fun H locs hR hS => ?_)
          refine lv_if_ne (tgt := 53) hx hb dX8_refusal_48 (by decide) (fun c7 => ?_) (fun c7 => ?_)
          · replace hF := xiff c7 hF
            refine x_aload_n (o := (some a0)) hx hb dX8_refusal_53 rfl (lv_at hl 0 rfl) ?_
            replace hF := xbind hF; obtain ⟨w8, ew8, hF⟩ := hF
            refine x_getR (o := (some a0)) (ci := 8) (C := RX8) (T := TX8) (N := 5) hx hb hts iw_X8 hown hR rfl 3 (by decide) mm_360 (Or.inl rfl) ew8 dX8_refusal_54 ?_
            refine lv_iload_n hx hb dX8_refusal_57 rfl (lv_at hl 2 rfl) ?_
            replace hF := xbind hF; obtain ⟨v9, ev9, hF⟩ := hF
            refine x_ild (o := w8) hx hb hR ev9 dX8_refusal_58 ?_
            refine lv_iload_n hx hb dX8_refusal_59 rfl (lv_at hl 3 rfl) ?_
            refine lv_iadd hx hb dX8_refusal_60 ?_
            refine x_aload_n (o := (some a0)) hx hb dX8_refusal_61 rfl (lv_at hl 0 rfl) ?_
            replace hF := xbind hF; obtain ⟨v10, ev10, hF⟩ := hF
            refine x_getI (o := (some a0)) (ci := 8) (C := RX8) (T := TX8) (N := 5) hx hb hts iw_X8 hown hR rfl 2 (by decide) mm_359 (Or.inl rfl) ev10 dX8_refusal_62 ?_
            refine lv_icmp_le (tgt := 72) hx hb dX8_refusal_65 (by decide) (fun c11 => ?_) (fun c11 => ?_)
            · replace hF := xift c11 hF
              refine lv_iconst (v := 0) hx hb dX8_refusal_72 (by decide) ?_
              cases hF
              exact x_iret hx hb hr rfl hlk hR hS (by decide) (by decide) dX8_refusal_73
            · replace hF := xiff c11 hF
              refine lv_iconst (v := 5) hx hb dX8_refusal_68 (by decide) ?_
              refine lv_goto (tgt := 73) hx hb dX8_refusal_69 (by decide) ?_
              cases hF
              exact x_iret hx hb hr rfl hlk hR hS (by decide) (by decide) dX8_refusal_73
          · replace hF := xift c7 hF
            refine lv_iconst (v := 4) hx hb dX8_refusal_51 (by decide) ?_
            cases hF
            exact x_iret hx hb hr rfl hlk hR hS (by decide) (by decide) dX8_refusal_52
        · replace hF := xiff c4 hF
          refine lv_iconst (v := 3) hx hb dX8_refusal_39 (by decide) ?_
          cases hF
          exact x_iret hx hb hr rfl hlk hR hS (by decide) (by decide) dX8_refusal_40
  · replace hF := xiff c1 hF
    refine lv_iload_n hx hb dX8_refusal_4 rfl (lv_at hl 1 rfl) ?_
    refine lv_sipush (v := 200) hx hb dX8_refusal_5 (by decide) ?_
    refine lv_icmp_ge (tgt := 22) hx hb dX8_refusal_8 (by decide) (fun c12 => ?_) (fun c12 => ?_)
    · replace hF := xift c12 hF
      refine lv_iload_n hx hb dX8_refusal_22 rfl (lv_at hl 2 rfl) ?_
      refine lv_if_lt (tgt := 39) hx hb dX8_refusal_23 (by decide) (fun c13 => ?_) (fun c13 => ?_)
      · replace hF := xift c13 hF
        refine lv_iconst (v := 3) hx hb dX8_refusal_39 (by decide) ?_
        cases hF
        exact x_iret hx hb hr rfl hlk hR hS (by decide) (by decide) dX8_refusal_40
      · replace hF := xiff c13 hF
        refine lv_iload_n hx hb dX8_refusal_26 rfl (lv_at hl 2 rfl) ?_
        refine lv_iload hx hb dX8_refusal_27 (lv_at hl 4 rfl) ?_
        refine lv_icmp_gt (tgt := 39) hx hb dX8_refusal_29 (by decide) (fun c14 => ?_) (fun c14 => ?_)
        · replace hF := xift c14 hF
          refine lv_iconst (v := 3) hx hb dX8_refusal_39 (by decide) ?_
          cases hF
          exact x_iret hx hb hr rfl hlk hR hS (by decide) (by decide) dX8_refusal_40
        · replace hF := xiff c14 hF
          refine lv_iload_n hx hb dX8_refusal_32 rfl (lv_at hl 2 rfl) ?_
          refine lv_sipush (v := 601) hx hb dX8_refusal_33 (by decide) ?_
          refine lv_icmp_lt (tgt := 41) hx hb dX8_refusal_36 (by decide) (fun c15 => ?_) (fun c15 => ?_)
          · replace hF := xift c15 hF
            refine x_aload_n (o := (some a0)) hx hb dX8_refusal_41 rfl (lv_at hl 0 rfl) ?_
            refine lv_iload_n hx hb dX8_refusal_42 rfl (lv_at hl 2 rfl) ?_
            refine lv_iload hx hb dX8_refusal_43 (lv_at hl 4 rfl) ?_
            replace hF := xbind hF; obtain ⟨b17, eb17, hF⟩ := hF
            replace hF := xbind hF; obtain ⟨v16, ev16, hF⟩ := hF
            refine x_callV (o := (some a0)) (ci := 8) (As := [.int x2, .int x4]) (rest := []) (v := (some (.int v16))) (k := 2) hx hb hml hown hts hR hS eb17 rfl rfl (t_X8_isOpen l D G h b17 x2 x4 v16 ev16) f_X8_isOpen mm_386 mm_388 mm_5 rfl hl.1 rfl (by first | exact Nat.le_of_ble_eq_true rfl | simp [xrf_cat, xcI, xcJ, xcA]) dX8_refusal_45 (by decide) (by decide) rfl (fun H locs hR hS => ?_)
            refine lv_if_ne (tgt := 53) hx hb dX8_refusal_48 (by decide) (fun c18 => ?_) (fun c18 => ?_)
            · replace hF := xiff c18 hF
              refine x_aload_n (o := (some a0)) hx hb dX8_refusal_53 rfl (lv_at hl 0 rfl) ?_
              replace hF := xbind hF; obtain ⟨w19, ew19, hF⟩ := hF
              refine x_getR (o := (some a0)) (ci := 8) (C := RX8) (T := TX8) (N := 5) hx hb hts iw_X8 hown hR rfl 3 (by decide) mm_360 (Or.inl rfl) ew19 dX8_refusal_54 ?_
              refine lv_iload_n hx hb dX8_refusal_57 rfl (lv_at hl 2 rfl) ?_
              replace hF := xbind hF; obtain ⟨v20, ev20, hF⟩ := hF
              refine x_ild (o := w19) hx hb hR ev20 dX8_refusal_58 ?_
              refine lv_iload_n hx hb dX8_refusal_59 rfl (lv_at hl 3 rfl) ?_
              refine lv_iadd hx hb dX8_refusal_60 ?_
              refine x_aload_n (o := (some a0)) hx hb dX8_refusal_61 rfl (lv_at hl 0 rfl) ?_
              replace hF := xbind hF; obtain ⟨v21, ev21, hF⟩ := hF
              refine x_getI (o := (some a0)) (ci := 8) (C := RX8) (T := TX8) (N := 5) hx hb hts iw_X8 hown hR rfl 2 (by decide) mm_359 (Or.inl rfl) ev21 dX8_refusal_62 ?_
              refine lv_icmp_le (tgt := 72) hx hb dX8_refusal_65 (by decide) (fun c22 => ?_) (fun c22 => ?_)
              · replace hF := xift c22 hF
                refine lv_iconst (v := 0) hx hb dX8_refusal_72 (by decide) ?_
                cases hF
                exact x_iret hx hb hr rfl hlk hR hS (by decide) (by decide) dX8_refusal_73
              · replace hF := xiff c22 hF
                refine lv_iconst (v := 5) hx hb dX8_refusal_68 (by decide) ?_
                refine lv_goto (tgt := 73) hx hb dX8_refusal_69 (by decide) ?_
                cases hF
                exact x_iret hx hb hr rfl hlk hR hS (by decide) (by decide) dX8_refusal_73
            · replace hF := xift c18 hF
              refine lv_iconst (v := 4) hx hb dX8_refusal_51 (by decide) ?_
              cases hF
              exact x_iret hx hb hr rfl hlk hR hS (by decide) (by decide) dX8_refusal_52
          · replace hF := xiff c15 hF
            refine lv_iconst (v := 3) hx hb dX8_refusal_39 (by decide) ?_
            cases hF
            exact x_iret hx hb hr rfl hlk hR hS (by decide) (by decide) dX8_refusal_40
    · replace hF := xiff c12 hF
      refine x_aload_n (o := (some a0)) hx hb dX8_refusal_11 rfl (lv_at hl 0 rfl) ?_
      replace hF := xbind hF; obtain ⟨w23, ew23, hF⟩ := hF
      refine x_getR (o := (some a0)) (ci := 8) (C := RX8) (T := TX8) (N := 5) hx hb hts iw_X8 hown hR rfl 4 (by decide) mm_361 (Or.inl rfl) ew23 dX8_refusal_12 ?_
      refine lv_iload_n hx hb dX8_refusal_15 rfl (lv_at hl 1 rfl) ?_
      replace hF := xbind hF; obtain ⟨v24, ev24, hF⟩ := hF
      refine x_zld (o := w23) hx hb hR ev24 dX8_refusal_16 ?_
      refine lv_if_eq (tgt := 22) hx hb dX8_refusal_17 (by decide) (fun c25 => ?_) (fun c25 => ?_)
      · replace hF := xift c25 hF
        refine lv_iload_n hx hb dX8_refusal_22 rfl (lv_at hl 2 rfl) ?_
        refine lv_if_lt (tgt := 39) hx hb dX8_refusal_23 (by decide) (fun c26 => ?_) (fun c26 => ?_)
        · replace hF := xift c26 hF
          refine lv_iconst (v := 3) hx hb dX8_refusal_39 (by decide) ?_
          cases hF
          exact x_iret hx hb hr rfl hlk hR hS (by decide) (by decide) dX8_refusal_40
        · replace hF := xiff c26 hF
          refine lv_iload_n hx hb dX8_refusal_26 rfl (lv_at hl 2 rfl) ?_
          refine lv_iload hx hb dX8_refusal_27 (lv_at hl 4 rfl) ?_
          refine lv_icmp_gt (tgt := 39) hx hb dX8_refusal_29 (by decide) (fun c27 => ?_) (fun c27 => ?_)
          · replace hF := xift c27 hF
            refine lv_iconst (v := 3) hx hb dX8_refusal_39 (by decide) ?_
            cases hF
            exact x_iret hx hb hr rfl hlk hR hS (by decide) (by decide) dX8_refusal_40
          · replace hF := xiff c27 hF
            refine lv_iload_n hx hb dX8_refusal_32 rfl (lv_at hl 2 rfl) ?_
            refine lv_sipush (v := 601) hx hb dX8_refusal_33 (by decide) ?_
            refine lv_icmp_lt (tgt := 41) hx hb dX8_refusal_36 (by decide) (fun c28 => ?_) (fun c28 => ?_)
            · replace hF := xift c28 hF
              refine x_aload_n (o := (some a0)) hx hb dX8_refusal_41 rfl (lv_at hl 0 rfl) ?_
              refine lv_iload_n hx hb dX8_refusal_42 rfl (lv_at hl 2 rfl) ?_
              refine lv_iload hx hb dX8_refusal_43 (lv_at hl 4 rfl) ?_
              replace hF := xbind hF; obtain ⟨b30, eb30, hF⟩ := hF
              replace hF := xbind hF; obtain ⟨v29, ev29, hF⟩ := hF
              refine x_callV (o := (some a0)) (ci := 8) (As := [.int x2, .int x4]) (rest := []) (v := (some (.int v29))) (k := 2) hx hb hml hown hts hR hS eb30 rfl rfl (t_X8_isOpen l D G h b30 x2 x4 v29 ev29) f_X8_isOpen mm_386 mm_388 mm_5 rfl hl.1 rfl (by first | exact Nat.le_of_ble_eq_true rfl | simp [xrf_cat, xcI, xcJ, xcA]) dX8_refusal_45 (by decide) (by decide) rfl (fun H locs hR hS => ?_)
              refine lv_if_ne (tgt := 53) hx hb dX8_refusal_48 (by decide) (fun c31 => ?_) (fun c31 => ?_)
              · replace hF := xiff c31 hF
                refine x_aload_n (o := (some a0)) hx hb dX8_refusal_53 rfl (lv_at hl 0 rfl) ?_
                replace hF := xbind hF; obtain ⟨w32, ew32, hF⟩ := hF
                refine x_getR (o := (some a0)) (ci := 8) (C := RX8) (T := TX8) (N := 5) hx hb hts iw_X8 hown hR rfl 3 (by decide) mm_360 (Or.inl rfl) ew32 dX8_refusal_54 ?_
                refine lv_iload_n hx hb dX8_refusal_57 rfl (lv_at hl 2 rfl) ?_
                replace hF := xbind hF; obtain ⟨v33, ev33, hF⟩ := hF
                refine x_ild (o := w32) hx hb hR ev33 dX8_refusal_58 ?_
                refine lv_iload_n hx hb dX8_refusal_59 rfl (lv_at hl 3 rfl) ?_
                refine lv_iadd hx hb dX8_refusal_60 ?_
                refine x_aload_n (o := (some a0)) hx hb dX8_refusal_61 rfl (lv_at hl 0 rfl) ?_
                replace hF := xbind hF; obtain ⟨v34, ev34, hF⟩ := hF
                refine x_getI (o := (some a0)) (ci := 8) (C := RX8) (T := TX8) (N := 5) hx hb hts iw_X8 hown hR rfl 2 (by decide) mm_359 (Or.inl rfl) ev34 dX8_refusal_62 ?_
                refine lv_icmp_le (tgt := 72) hx hb dX8_refusal_65 (by decide) (fun c35 => ?_) (fun c35 => ?_)
                · replace hF := xift c35 hF
                  refine lv_iconst (v := 0) hx hb dX8_refusal_72 (by decide) ?_
                  cases hF
                  exact x_iret hx hb hr rfl hlk hR hS (by decide) (by decide) dX8_refusal_73
                · replace hF := xiff c35 hF
                  refine lv_iconst (v := 5) hx hb dX8_refusal_68 (by decide) ?_
                  refine lv_goto (tgt := 73) hx hb dX8_refusal_69 (by decide) ?_
                  cases hF
                  exact x_iret hx hb hr rfl hlk hR hS (by decide) (by decide) dX8_refusal_73
              · replace hF := xift c31 hF
                refine lv_iconst (v := 4) hx hb dX8_refusal_51 (by decide) ?_
                cases hF
                exact x_iret hx hb hr rfl hlk hR hS (by decide) (by decide) dX8_refusal_52
            · replace hF := xiff c28 hF
              refine lv_iconst (v := 3) hx hb dX8_refusal_39 (by decide) ?_
              cases hF
              exact x_iret hx hb hr rfl hlk hR hS (by decide) (by decide) dX8_refusal_40
      · replace hF := xiff c25 hF
        refine lv_iconst (v := 2) hx hb dX8_refusal_20 (by decide) ?_
        cases hF
        exact x_iret hx hb hr rfl hlk hR hS (by decide) (by decide) dX8_refusal_21
def rm_X8_init : Room := { frames := 1, cells := 2, slots := 801, locals := 20 }
theorem f_X8_init : xM yX8_init cX8_init 4 none 3 := ⟨mm_354, mm_70, by decide +kernel, by decide +kernel⟩
theorem dX8_init_0 : decode cX8_init 0 = .ok (.aload_n 0, 1) := by decide +kernel
theorem dX8_init_1 : decode cX8_init 1 = .ok (.invokespecial 3, 3) := by decide +kernel
theorem dX8_init_4 : decode cX8_init 4 = .ok (.aload_n 0, 1) := by decide +kernel
theorem dX8_init_5 : decode cX8_init 5 = .ok (.sipush 601, 3) := by decide +kernel
theorem dX8_init_8 : decode cX8_init 8 = .ok (.newarray .int, 2) := by decide +kernel
theorem dX8_init_10 : decode cX8_init 10 = .ok (.putfield 9, 3) := by decide +kernel
theorem dX8_init_13 : decode cX8_init 13 = .ok (.aload_n 0, 1) := by decide +kernel
theorem dX8_init_14 : decode cX8_init 14 = .ok (.sipush 200, 3) := by decide +kernel
theorem dX8_init_17 : decode cX8_init 17 = .ok (.newarray .boolean, 2) := by decide +kernel
theorem dX8_init_19 : decode cX8_init 19 = .ok (.putfield 15, 3) := by decide +kernel
theorem dX8_init_22 : decode cX8_init 22 = .ok (.aload_n 0, 1) := by decide +kernel
theorem dX8_init_23 : decode cX8_init 23 = .ok (.aload_n 1, 1) := by decide +kernel
theorem dX8_init_24 : decode cX8_init 24 = .ok (.putfield 19, 3) := by decide +kernel
theorem dX8_init_27 : decode cX8_init 27 = .ok (.aload_n 0, 1) := by decide +kernel
theorem dX8_init_28 : decode cX8_init 28 = .ok (.iload_n 2, 1) := by decide +kernel
theorem dX8_init_29 : decode cX8_init 29 = .ok (.putfield 23, 3) := by decide +kernel
theorem dX8_init_32 : decode cX8_init 32 = .ok (.aload_n 0, 1) := by decide +kernel
theorem dX8_init_33 : decode cX8_init 33 = .ok (.iload_n 3, 1) := by decide +kernel
theorem dX8_init_34 : decode cX8_init 34 = .ok (.putfield 27, 3) := by decide +kernel
theorem dX8_init_37 : decode cX8_init 37 = .ok (.return_, 1) := by decide +kernel
def F_X8_init (G : Nat → Nat) (h : xH) (a0 : Nat) (a1 : Nat) (x2 : Int32) (x3 : Int32) : Option xH :=
  (nAI G h 601).bind fun (q1, h2) =>
  (xp G h2 (some a0) 8 3 (va_rf (some q1))).bind fun h3 =>
  (nAZ G h3 200).bind fun (q4, h5) =>
  (xp G h5 (some a0) 8 4 (va_rf (some q4))).bind fun h6 =>
  (xp G h6 (some a0) 8 1 (va_rf (some a1))).bind fun h7 =>
  (xp G h7 (some a0) 8 0 (.int x2)).bind fun h8 =>
  (xp G h8 (some a0) 8 2 (.int x3)).bind fun h9 =>
  some h9
set_option maxHeartbeats 4000000 in
set_option maxRecDepth 100000 in
theorem t_X8_init (l : Launch) (D : va_G) (G : Nat → Nat) (h : xH) (a0 : Nat) (a1 : Nat) (x2 : Int32) (x3 : Int32) (h' : xH) (hF : F_X8_init G h a0 a1 x2 x3 = some h') : xC l yX8_init cX8_init 4 none rm_X8_init D G h [.ref a0, .ref a1, .int x2, .int x3] none h' := by
  refine xC_of (by decide) (by first | decide | exact Nat.le_of_ble_eq_true rfl) ?_
  intro p e s m args below meth c ls hx hb hr hlk hml hown hnm hts hR hS hl
  have hl : lv_has ls 4 [(0, va_rf (some a0)), (1, va_rf (some a1)), (2, .int x2), (3, .int x3)] := hl
  unfold F_X8_init at hF
  refine x_aload_n (o := (some a0)) hx hb dX8_init_0 rfl (lv_at hl 0 rfl) ?_
  refine x_oinit (o := (some a0)) hx hb hown (hml.trans hl.1.symm) hts mm_355 mm_86 mm_87 rfl dX8_init_1 (by decide) (by decide) (by decide) ?_
  refine x_aload_n (o := (some a0)) hx hb dX8_init_4 rfl (lv_at hl 0 rfl) ?_
  refine lv_sipush (v := 601) hx hb dX8_init_5 (by decide) ?_
  replace hF := xbind hF; obtain ⟨⟨q1, h2⟩, eq1, hF⟩ := hF
  refine x_nAI hx hb hts mm_127 hR hS (by decide) (by decide) (by decide) (by decide) (by decide) eq1 dX8_init_8 (fun H hR hS => ?_)
  replace hF := xbind hF; obtain ⟨h3, eh3, hF⟩ := hF
  refine x_putF (o := (some a0)) (ci := 8) (C := RX8) (T := TX8) (N := 5) hx hb hts iw_X8 tyX8_ok nmX8 hown hR hS rfl 3 (by decide) mm_360 (Or.inl rfl) rfl hnm rfl xnarRA xfitRA eh3 dX8_init_10 (fun H locs hR hS => ?_)
  refine x_aload_n (o := (some a0)) hx hb dX8_init_13 rfl (lv_at hl 0 rfl) ?_
  refine lv_sipush (v := 200) hx hb dX8_init_14 (by decide) ?_
  replace hF := xbind hF; obtain ⟨⟨q4, h5⟩, eq4, hF⟩ := hF
  refine x_nAZ hx hb hts mm_373 hR hS (by decide) (by decide) (by decide) (by decide) (by decide) eq4 dX8_init_17 (fun H hR hS => ?_)
  replace hF := xbind hF; obtain ⟨h6, eh6, hF⟩ := hF
  refine x_putF (o := (some a0)) (ci := 8) (C := RX8) (T := TX8) (N := 5) hx hb hts iw_X8 tyX8_ok nmX8 hown hR hS rfl 4 (by decide) mm_361 (Or.inl rfl) rfl hnm rfl xnarRA xfitRA eh6 dX8_init_19 (fun H locs hR hS => ?_)
  refine x_aload_n (o := (some a0)) hx hb dX8_init_22 rfl (lv_at hl 0 rfl) ?_
  refine x_aload_n (o := (some a1)) hx hb dX8_init_23 rfl (lv_at hl 1 rfl) ?_
  replace hF := xbind hF; obtain ⟨h7, eh7, hF⟩ := hF
  refine x_putF (o := (some a0)) (ci := 8) (C := RX8) (T := TX8) (N := 5) hx hb hts iw_X8 tyX8_ok nmX8 hown hR hS rfl 1 (by decide) mm_358 (Or.inl rfl) rfl hnm rfl xnarR xfitR eh7 dX8_init_24 (fun H locs hR hS => ?_)
  refine x_aload_n (o := (some a0)) hx hb dX8_init_27 rfl (lv_at hl 0 rfl) ?_
  refine lv_iload_n hx hb dX8_init_28 rfl (lv_at hl 2 rfl) ?_
  replace hF := xbind hF; obtain ⟨h8, eh8, hF⟩ := hF
  refine x_putF (o := (some a0)) (ci := 8) (C := RX8) (T := TX8) (N := 5) hx hb hts iw_X8 tyX8_ok nmX8 hown hR hS rfl 0 (by decide) mm_356 (Or.inl rfl) rfl hnm rfl rfl rfl eh8 dX8_init_29 (fun H locs hR hS => ?_)
  refine x_aload_n (o := (some a0)) hx hb dX8_init_32 rfl (lv_at hl 0 rfl) ?_
  refine lv_iload_n hx hb dX8_init_33 rfl (lv_at hl 3 rfl) ?_
  replace hF := xbind hF; obtain ⟨h9, eh9, hF⟩ := hF
  refine x_putF (o := (some a0)) (ci := 8) (C := RX8) (T := TX8) (N := 5) hx hb hts iw_X8 tyX8_ok nmX8 hown hR hS rfl 2 (by decide) mm_359 (Or.inl rfl) rfl hnm rfl rfl rfl eh9 dX8_init_34 (fun H locs hR hS => ?_)
  cases hF
  exact x_vret hx hb hr hlk hR hS (by decide) (by decide) dX8_init_37
end
section
def rm_X7_init : Room := { frames := 4, cells := 3, slots := 1205, locals := 80 }
theorem f_X7_init : xM yX7_init cX7_init 1 none 0 := ⟨mm_239, mm_63, by decide +kernel, by decide +kernel⟩
theorem dX7_init_0 : decode cX7_init 0 = .ok (.aload_n 0, 1) := by decide +kernel
theorem dX7_init_1 : decode cX7_init 1 = .ok (.invokespecial 3, 3) := by decide +kernel
theorem dX7_init_4 : decode cX7_init 4 = .ok (.aload_n 0, 1) := by decide +kernel
theorem dX7_init_5 : decode cX7_init 5 = .ok (.new 9, 3) := by decide +kernel
theorem dX7_init_8 : decode cX7_init 8 = .ok (.dup, 1) := by decide +kernel
theorem dX7_init_9 : decode cX7_init 9 = .ok (.invokespecial 11, 3) := by decide +kernel
theorem dX7_init_12 : decode cX7_init 12 = .ok (.putfield 12, 3) := by decide +kernel
theorem dX7_init_15 : decode cX7_init 15 = .ok (.aload_n 0, 1) := by decide +kernel
theorem dX7_init_16 : decode cX7_init 16 = .ok (.sipush 601, 3) := by decide +kernel
theorem dX7_init_19 : decode cX7_init 19 = .ok (.newarray .int, 2) := by decide +kernel
theorem dX7_init_21 : decode cX7_init 21 = .ok (.putfield 18, 3) := by decide +kernel
theorem dX7_init_24 : decode cX7_init 24 = .ok (.aload_n 0, 1) := by decide +kernel
theorem dX7_init_25 : decode cX7_init 25 = .ok (.sipush 601, 3) := by decide +kernel
theorem dX7_init_28 : decode cX7_init 28 = .ok (.newarray .int, 2) := by decide +kernel
theorem dX7_init_30 : decode cX7_init 30 = .ok (.putfield 22, 3) := by decide +kernel
theorem dX7_init_33 : decode cX7_init 33 = .ok (.return_, 1) := by decide +kernel
def F_X7_init (G : Nat → Nat) (h : xH) (a0 : Nat) : Option xH :=
  (nO h 0 [.int 0, .null, .int 0]).bind fun (q1, h2) =>
  (F_Jx4a65c_init_da8c8 G h2 q1).bind fun h3 =>
  (xp G h3 (some a0) 7 0 (va_rf (some q1))).bind fun h4 =>
  (nAI G h4 601).bind fun (q5, h6) =>
  (xp G h6 (some a0) 7 1 (va_rf (some q5))).bind fun h7 =>
  (nAI G h7 601).bind fun (q8, h9) =>
  (xp G h9 (some a0) 7 2 (va_rf (some q8))).bind fun h10 =>
  some h10
set_option maxHeartbeats 4000000 in
set_option maxRecDepth 100000 in
theorem t_X7_init (l : Launch) (D : va_G) (G : Nat → Nat) (h : xH) (a0 : Nat) (h' : xH) (hF : F_X7_init G h a0 = some h') : xC l yX7_init cX7_init 1 none rm_X7_init D G h [.ref a0] none h' := by
  refine xC_of (by decide) (by first | decide | exact Nat.le_of_ble_eq_true rfl) ?_
  intro p e s m args below meth c ls hx hb hr hlk hml hown hnm hts hR hS hl
  have hl : lv_has ls 1 [(0, va_rf (some a0))] := hl
  unfold F_X7_init at hF
  refine x_aload_n (o := (some a0)) hx hb dX7_init_0 rfl (lv_at hl 0 rfl) ?_
  refine x_oinit (o := (some a0)) hx hb hown (hml.trans hl.1.symm) hts mm_240 mm_86 mm_87 rfl dX7_init_1 (by decide) (by decide) (by decide) ?_
  refine x_aload_n (o := (some a0)) hx hb dX7_init_4 rfl (lv_at hl 0 rfl) ?_
  replace hF := xbind hF; obtain ⟨⟨q1, h2⟩, eq1, hF⟩ := hF
  refine x_newO (C := RJx4a65c) (T := TJx4a65c) (N := 3) (ci := 0) hx hb hts iw_Jx4a65c tyJx4a65c_ok hown mm_241 mm_89 mm_58 hR hS rfl (by decide) (by decide) (by decide) eq1 dX7_init_5 (fun H hR hS => ?_)
  refine lv_dup hx hb dX7_init_8 xrf_cat ?_
  replace hF := xbind hF; obtain ⟨h3, eh3, hF⟩ := hF
  refine x_callI (o := (some q1)) (As := []) (rest := [va_rf (some q1), va_rf (some a0)]) (v := none) (k := 0) hx hb hml hown hts hR hS rfl (t_Jx4a65c_init_da8c8 l D G h2 q1 h3 eh3) f_Jx4a65c_init_da8c8 mm_242 mm_91 rfl rfl hl.1 rfl (by first | exact Nat.le_of_ble_eq_true rfl | simp [xrf_cat, xcI, xcJ, xcA]) dX7_init_9 (by decide) (by decide) rfl (fun H locs hR hS => ?_)
  replace hF := xbind hF; obtain ⟨h4, eh4, hF⟩ := hF
  refine x_putF (o := (some a0)) (ci := 7) (C := RX7) (T := TX7) (N := 3) hx hb hts iw_X7 tyX7_ok nmX7 hown hR hS rfl 0 (by decide) mm_243 (Or.inl rfl) rfl hnm rfl xnarR xfitR eh4 dX7_init_12 (fun H locs hR hS => ?_)
  refine x_aload_n (o := (some a0)) hx hb dX7_init_15 rfl (lv_at hl 0 rfl) ?_
  refine lv_sipush (v := 601) hx hb dX7_init_16 (by decide) ?_
  replace hF := xbind hF; obtain ⟨⟨q5, h6⟩, eq5, hF⟩ := hF
  refine x_nAI hx hb hts mm_127 hR hS (by decide) (by decide) (by decide) (by decide) (by decide) eq5 dX7_init_19 (fun H hR hS => ?_)
  replace hF := xbind hF; obtain ⟨h7, eh7, hF⟩ := hF
  refine x_putF (o := (some a0)) (ci := 7) (C := RX7) (T := TX7) (N := 3) hx hb hts iw_X7 tyX7_ok nmX7 hown hR hS rfl 1 (by decide) mm_246 (Or.inl rfl) rfl hnm rfl xnarRA xfitRA eh7 dX7_init_21 (fun H locs hR hS => ?_)
  refine x_aload_n (o := (some a0)) hx hb dX7_init_24 rfl (lv_at hl 0 rfl) ?_
  refine lv_sipush (v := 601) hx hb dX7_init_25 (by decide) ?_
  replace hF := xbind hF; obtain ⟨⟨q8, h9⟩, eq8, hF⟩ := hF
  refine x_nAI hx hb hts mm_127 hR hS (by decide) (by decide) (by decide) (by decide) (by decide) eq8 dX7_init_28 (fun H hR hS => ?_)
  replace hF := xbind hF; obtain ⟨h10, eh10, hF⟩ := hF
  refine x_putF (o := (some a0)) (ci := 7) (C := RX7) (T := TX7) (N := 3) hx hb hts iw_X7 tyX7_ok nmX7 hown hR hS rfl 2 (by decide) mm_247 (Or.inl rfl) rfl hnm rfl xnarRA xfitRA eh10 dX7_init_30 (fun H locs hR hS => ?_)
  cases hF
  exact x_vret hx hb hr hlk hR hS (by decide) (by decide) dX7_init_33
def rm_X7_add : Room := { frames := 0, cells := 0, slots := 0, locals := 0 }
theorem f_X7_add : xM yX7_add cX7_add 4 none 3 := ⟨mm_397, mm_63, by decide +kernel, by decide +kernel⟩
theorem dX7_add_0 : decode cX7_add 0 = .ok (.iload_n 1, 1) := by decide +kernel
theorem dX7_add_1 : decode cX7_add 1 = .ok (.ifCond .lt 30, 3) := by decide +kernel
theorem dX7_add_4 : decode cX7_add 4 = .ok (.iload_n 1, 1) := by decide +kernel
theorem dX7_add_5 : decode cX7_add 5 = .ok (.sipush 601, 3) := by decide +kernel
theorem dX7_add_8 : decode cX7_add 8 = .ok (.if_icmp .ge 23, 3) := by decide +kernel
theorem dX7_add_11 : decode cX7_add 11 = .ok (.aload_n 0, 1) := by decide +kernel
theorem dX7_add_12 : decode cX7_add 12 = .ok (.getfield 18, 3) := by decide +kernel
theorem dX7_add_15 : decode cX7_add 15 = .ok (.iload_n 1, 1) := by decide +kernel
theorem dX7_add_16 : decode cX7_add 16 = .ok (.dup2, 1) := by decide +kernel
theorem dX7_add_17 : decode cX7_add 17 = .ok (.iaload, 1) := by decide +kernel
theorem dX7_add_18 : decode cX7_add 18 = .ok (.iload_n 2, 1) := by decide +kernel
theorem dX7_add_19 : decode cX7_add 19 = .ok (.iadd, 1) := by decide +kernel
theorem dX7_add_20 : decode cX7_add 20 = .ok (.iastore, 1) := by decide +kernel
theorem dX7_add_21 : decode cX7_add 21 = .ok (.aload_n 0, 1) := by decide +kernel
theorem dX7_add_22 : decode cX7_add 22 = .ok (.getfield 22, 3) := by decide +kernel
theorem dX7_add_25 : decode cX7_add 25 = .ok (.iload_n 1, 1) := by decide +kernel
theorem dX7_add_26 : decode cX7_add 26 = .ok (.dup2, 1) := by decide +kernel
theorem dX7_add_27 : decode cX7_add 27 = .ok (.iaload, 1) := by decide +kernel
theorem dX7_add_28 : decode cX7_add 28 = .ok (.iload_n 3, 1) := by decide +kernel
theorem dX7_add_29 : decode cX7_add 29 = .ok (.iadd, 1) := by decide +kernel
theorem dX7_add_30 : decode cX7_add 30 = .ok (.iastore, 1) := by decide +kernel
theorem dX7_add_31 : decode cX7_add 31 = .ok (.return_, 1) := by decide +kernel
def F_X7_add (G : Nat → Nat) (h : xH) (a0 : Nat) (x1 : Int32) (x2 : Int32) (x3 : Int32) : Option xH :=
  if x1 < 0 then
    some h
  else
  if 601 ≤ x1 then
    some h
  else
  (gR h (some a0) 7 1).bind fun w3 =>
  (ldI 2 G h w3 x1).bind fun v4 =>
  (stI 2 G h w3 x1 (v4 + x2)).bind fun h5 =>
  (gR h5 (some a0) 7 2).bind fun w6 =>
  (ldI 2 G h5 w6 x1).bind fun v7 =>
  (stI 2 G h5 w6 x1 (v7 + x3)).bind fun h8 =>
  some h8
set_option maxHeartbeats 4000000 in
set_option maxRecDepth 100000 in
theorem t_X7_add (l : Launch) (D : va_G) (G : Nat → Nat) (h : xH) (a0 : Nat) (x1 : Int32) (x2 : Int32) (x3 : Int32) (h' : xH) (hF : F_X7_add G h a0 x1 x2 x3 = some h') : xC l yX7_add cX7_add 4 none rm_X7_add D G h [.ref a0, .int x1, .int x2, .int x3] none h' := by
  refine xC_of (by decide) (by first | decide | exact Nat.le_of_ble_eq_true rfl) ?_
  intro p e s m args below meth c ls hx hb hr hlk hml hown hnm hts hR hS hl
  have hl : lv_has ls 4 [(0, va_rf (some a0)), (1, .int x1), (2, .int x2), (3, .int x3)] := hl
  unfold F_X7_add at hF
  refine lv_iload_n hx hb dX7_add_0 rfl (lv_at hl 1 rfl) ?_
  refine lv_if_lt (tgt := 31) hx hb dX7_add_1 (by decide) (fun c1 => ?_) (fun c1 => ?_)
  · replace hF := xift c1 hF
    cases hF
    exact x_vret hx hb hr hlk hR hS (by decide) (by decide) dX7_add_31
  · replace hF := xiff c1 hF
    refine lv_iload_n hx hb dX7_add_4 rfl (lv_at hl 1 rfl) ?_
    refine lv_sipush (v := 601) hx hb dX7_add_5 (by decide) ?_
    refine lv_icmp_ge (tgt := 31) hx hb dX7_add_8 (by decide) (fun c2 => ?_) (fun c2 => ?_)
    · replace hF := xift c2 hF
      cases hF
      exact x_vret hx hb hr hlk hR hS (by decide) (by decide) dX7_add_31
    · replace hF := xiff c2 hF
      refine x_aload_n (o := (some a0)) hx hb dX7_add_11 rfl (lv_at hl 0 rfl) ?_
      replace hF := xbind hF; obtain ⟨w3, ew3, hF⟩ := hF
      refine x_getR (o := (some a0)) (ci := 7) (C := RX7) (T := TX7) (N := 3) hx hb hts iw_X7 hown hR rfl 1 (by decide) mm_246 (Or.inl rfl) ew3 dX7_add_12 ?_
      refine lv_iload_n hx hb dX7_add_15 rfl (lv_at hl 1 rfl) ?_
      refine lv_dup2_11 hx hb dX7_add_16 rfl xrf_cat ?_
      replace hF := xbind hF; obtain ⟨v4, ev4, hF⟩ := hF
      refine x_ild (o := w3) hx hb hR ev4 dX7_add_17 ?_
      refine lv_iload_n hx hb dX7_add_18 rfl (lv_at hl 2 rfl) ?_
      refine lv_iadd hx hb dX7_add_19 ?_
      replace hF := xbind hF; obtain ⟨h5, eh5, hF⟩ := hF
      refine x_ist (o := w3) hx hb hR hS eh5 dX7_add_20 (fun H locs hR hS => ?_)
      refine x_aload_n (o := (some a0)) hx hb dX7_add_21 rfl (lv_at hl 0 rfl) ?_
      replace hF := xbind hF; obtain ⟨w6, ew6, hF⟩ := hF
      refine x_getR (o := (some a0)) (ci := 7) (C := RX7) (T := TX7) (N := 3) hx hb hts iw_X7 hown hR rfl 2 (by decide) mm_247 (Or.inl rfl) ew6 dX7_add_22 ?_
      refine lv_iload_n hx hb dX7_add_25 rfl (lv_at hl 1 rfl) ?_
      refine lv_dup2_11 hx hb dX7_add_26 rfl xrf_cat ?_
      replace hF := xbind hF; obtain ⟨v7, ev7, hF⟩ := hF
      refine x_ild (o := w6) hx hb hR ev7 dX7_add_27 ?_
      refine lv_iload_n hx hb dX7_add_28 rfl (lv_at hl 3 rfl) ?_
      refine lv_iadd hx hb dX7_add_29 ?_
      replace hF := xbind hF; obtain ⟨h8, eh8, hF⟩ := hF
      refine x_ist (o := w6) hx hb hR hS eh8 dX7_add_30 (fun H locs hR hS => ?_)
      cases hF
      exact x_vret hx hb hr hlk hR hS (by decide) (by decide) dX7_add_31
def rm_X7_total : Room := { frames := 1, cells := 0, slots := 0, locals := 23 }
theorem f_X7_total : xM yX7_total cX7_total 5 (some .int) 3 := ⟨mm_456, mm_63, by decide +kernel, by decide +kernel⟩
theorem dX7_total_0 : decode cX7_total 0 = .ok (.iconst 0, 1) := by decide +kernel
theorem dX7_total_1 : decode cX7_total 1 = .ok (.istore_n 3, 1) := by decide +kernel
theorem dX7_total_2 : decode cX7_total 2 = .ok (.iload_n 1, 1) := by decide +kernel
theorem dX7_total_3 : decode cX7_total 3 = .ok (.iconst 0, 1) := by decide +kernel
theorem dX7_total_4 : decode cX7_total 4 = .ok (.invokestatic 29, 3) := by decide +kernel
theorem dX7_total_7 : decode cX7_total 7 = .ok (.istore 4, 2) := by decide +kernel
theorem dX7_total_9 : decode cX7_total 9 = .ok (.iload 4, 2) := by decide +kernel
theorem dX7_total_11 : decode cX7_total 11 = .ok (.iload_n 2, 1) := by decide +kernel
theorem dX7_total_12 : decode cX7_total 12 = .ok (.if_icmp .gt 23, 3) := by decide +kernel
theorem dX7_total_15 : decode cX7_total 15 = .ok (.iload 4, 2) := by decide +kernel
theorem dX7_total_17 : decode cX7_total 17 = .ok (.aload_n 0, 1) := by decide +kernel
theorem dX7_total_18 : decode cX7_total 18 = .ok (.arraylength, 1) := by decide +kernel
theorem dX7_total_19 : decode cX7_total 19 = .ok (.if_icmp .ge 16, 3) := by decide +kernel
theorem dX7_total_22 : decode cX7_total 22 = .ok (.iload_n 3, 1) := by decide +kernel
theorem dX7_total_23 : decode cX7_total 23 = .ok (.aload_n 0, 1) := by decide +kernel
theorem dX7_total_24 : decode cX7_total 24 = .ok (.iload 4, 2) := by decide +kernel
theorem dX7_total_26 : decode cX7_total 26 = .ok (.iaload, 1) := by decide +kernel
theorem dX7_total_27 : decode cX7_total 27 = .ok (.iadd, 1) := by decide +kernel
theorem dX7_total_28 : decode cX7_total 28 = .ok (.istore_n 3, 1) := by decide +kernel
theorem dX7_total_29 : decode cX7_total 29 = .ok (.iinc 4 1, 3) := by decide +kernel
theorem dX7_total_32 : decode cX7_total 32 = .ok (.goto (-23), 3) := by decide +kernel
theorem dX7_total_35 : decode cX7_total 35 = .ok (.iload_n 3, 1) := by decide +kernel
theorem dX7_total_36 : decode cX7_total 36 = .ok (.ireturn, 1) := by decide +kernel
def F_X7_total_9 (G : Nat → Nat) (h : xH) (a0 : Nat) (x2 : Int32) : Nat → Int32 → Int32 → Option Int32
  | 0, _, _ => none
  | n + 1, x3, x4 =>
    if x2 < x4 then
      some x3
    else
    (aln G h (some a0)).bind fun v3 =>
    if v3 ≤ x4 then
      some x3
    else
    (ldI 2 G h (some a0) x4).bind fun v5 =>
    xl (x3 + v5) fun v6 =>
    xl (x4 + 1) fun v7 =>
    F_X7_total_9 G h a0 x2 n v6 v7
set_option maxHeartbeats 4000000 in
set_option maxRecDepth 100000 in
theorem tl_X7_total_9 {p : Program} {l : Launch} {e : Env} {s : State} {m : MethodId} {args : Array Value} {below : List Frame} {meth : Method} {c : Code} {D : va_G} {r : Int32} (hx : p.tables.exec = Jvm.exec) (hb : c.code = cX7_total) (hr : meth.sig.returnType = (some .int)) (hlk : meth.locks = false) (hml : c.maxLocals = 5) (hown : s.vm.findClass RX7 = some m.cls) (hnm : meth.name = "total") (hts : ∀ w ∈ xt, w.before args s = true) (G : Nat → Nat) (h : xH) (a0 : Nat) (x2 : Int32) : ∀ (n : Nat) (x3 : Int32) (x4 : Int32) (H : Heap) (locs : List Loc) (ls : Array Slot), F_X7_total_9 G h a0 x2 n x3 x4 = some r → xR D G h s H → va_S (xA G) s.heap H locs → lv_has ls 5 [(0, va_rf (some a0)), (2, .int x2), (3, .int x3), (4, .int x4)] → W p l e rm_X7_total s m args below meth c H locs 0 0 (MQ below (xQ D G (some (.int r)) h) args s rm_X7_total.cells rm_X7_total.slots (xA G)) (F0 m 9 ls []) := by
  intro n
  induction n with
  | zero =>
    intro x3 x4 H locs ls hF
    rw [F_X7_total_9.eq_1] at hF
    cases hF
  | succ n ih =>
    intro x3 x4 H locs ls hF hR hS hl
    rw [F_X7_total_9.eq_2] at hF
    refine lv_iload hx hb dX7_total_9 (lv_at hl 3 rfl) ?_
    refine lv_iload_n hx hb dX7_total_11 rfl (lv_at hl 1 rfl) ?_
    refine lv_icmp_gt (tgt := 35) hx hb dX7_total_12 (by decide) (fun c2 => ?_) (fun c2 => ?_)
    · replace hF := xift c2 hF
      refine lv_iload_n hx hb dX7_total_35 rfl (lv_at hl 2 rfl) ?_
      cases hF
      exact x_iret hx hb hr rfl hlk hR hS (by decide) (by decide) dX7_total_36
    · replace hF := xiff c2 hF
      refine lv_iload hx hb dX7_total_15 (lv_at hl 3 rfl) ?_
      refine x_aload_n (o := (some a0)) hx hb dX7_total_17 rfl (lv_at hl 0 rfl) ?_
      replace hF := xbind hF; obtain ⟨v3, ev3, hF⟩ := hF
      refine x_aln (o := (some a0)) hx hb hR ev3 dX7_total_18 ?_
      refine lv_icmp_ge (tgt := 35) hx hb dX7_total_19 (by decide) (fun c4 => ?_) (fun c4 => ?_)
      · replace hF := xift c4 hF
        refine lv_iload_n hx hb dX7_total_35 rfl (lv_at hl 2 rfl) ?_
        cases hF
        exact x_iret hx hb hr rfl hlk hR hS (by decide) (by decide) dX7_total_36
      · replace hF := xiff c4 hF
        refine lv_iload_n hx hb dX7_total_22 rfl (lv_at hl 2 rfl) ?_
        refine x_aload_n (o := (some a0)) hx hb dX7_total_23 rfl (lv_at hl 0 rfl) ?_
        refine lv_iload hx hb dX7_total_24 (lv_at hl 3 rfl) ?_
        replace hF := xbind hF; obtain ⟨v5, ev5, hF⟩ := hF
        refine x_ild (o := (some a0)) hx hb hR ev5 dX7_total_26 ?_
        refine lv_iadd hx hb dX7_total_27 ?_
        refine lv_topi (fun v6 ev6 => ?_)
        replace hF := xlet ev6 hF
        refine lv_istore_n (lv' := [(3, .int v6), (0, va_rf (some a0)), (2, .int x2), (4, .int x4)]) hx hb dX7_total_28 rfl hl (by decide) (by first | rfl | simp [xrf_cat]) (fun ls hl => ?_)
        obtain ⟨v7, ev7⟩ : ∃ z : Int32, z = (x4 + 1) := ⟨_, rfl⟩
        replace hF := xlet ev7 hF
        refine lv_iinc (v := v7) (lv' := [(4, .int v7), (3, .int v6), (0, va_rf (some a0)), (2, .int x2)]) hx hb dX7_total_29 hl (k := 3) rfl (by rw [ev7]; rfl) (by decide) (by first | rfl | simp [xrf_cat]) (fun ls hl => ?_)
        refine lv_goto (tgt := 9) hx hb dX7_total_32 (by decide) ?_
        exact ih v6 v7 _ _ _ hF hR hS (lv_sub hl [2, 3, 1, 0] rfl)
def F_X7_total (G : Nat → Nat) (h : xH) (a0 : Nat) (x1 : Int32) (x2 : Int32) : Option Int32 :=
  xl (xmax x1 0) fun v1 =>
  F_X7_total_9 G h a0 x2 xN 0 v1
set_option maxHeartbeats 4000000 in
set_option maxRecDepth 100000 in
theorem t_X7_total (l : Launch) (D : va_G) (G : Nat → Nat) (h : xH) (a0 : Nat) (x1 : Int32) (x2 : Int32) (r : Int32) (hF : F_X7_total G h a0 x1 x2 = some r) : xC l yX7_total cX7_total 5 (some .int) rm_X7_total D G h [.ref a0, .int x1, .int x2] (some (.int r)) h := by
  refine xC_of (by decide) (by first | decide | exact Nat.le_of_ble_eq_true rfl) ?_
  intro p e s m args below meth c ls hx hb hr hlk hml hown hnm hts hR hS hl
  have hl : lv_has ls 5 [(0, va_rf (some a0)), (1, .int x1), (2, .int x2)] := hl
  unfold F_X7_total at hF
  refine lv_iconst (v := 0) hx hb dX7_total_0 (by decide) ?_
  refine lv_istore_n (lv' := [(3, .int 0), (0, va_rf (some a0)), (1, .int x1), (2, .int x2)]) hx hb dX7_total_1 rfl hl (by decide) (by first | rfl | simp [xrf_cat]) (fun ls hl => ?_)
  refine lv_iload_n hx hb dX7_total_2 rfl (lv_at hl 2 rfl) ?_
  refine lv_iconst (v := 0) hx hb dX7_total_3 (by decide) ?_
  refine x_max hx hb (hml.trans hl.1.symm) hown hts mm_457 mm_280 mm_65 mm_281 (by decide) (by first | exact Nat.le_of_ble_eq_true rfl | simp [xrf_cat, xcI, xcJ, xcA]) (by decide) (by decide) dX7_total_4 ?_
  refine lv_topi (fun v1 ev1 => ?_)
  replace hF := xlet ev1 hF
  refine lv_istore (lv' := [(4, .int v1), (3, .int 0), (0, va_rf (some a0)), (1, .int x1), (2, .int x2)]) hx hb dX7_total_7 hl (by decide) (by first | rfl | simp [xrf_cat]) (fun ls hl => ?_)
  refine W.widen (k := 0) (n := 0) (by decide) (by decide) ?_
  exact tl_X7_total_9 hx hb hr hlk hml hown hnm hts G h a0 x2 _ 0 v1 _ _ _ hF hR hS (lv_sub hl [2, 4, 1, 0] rfl)
def rm_X7_asksIn : Room := { frames := 2, cells := 0, slots := 0, locals := 47 }
theorem f_X7_asksIn : xM yX7_asksIn cX7_asksIn 3 (some .int) 2 := ⟨mm_453, mm_63, by decide +kernel, by decide +kernel⟩
theorem dX7_asksIn_0 : decode cX7_asksIn 0 = .ok (.aload_n 0, 1) := by decide +kernel
theorem dX7_asksIn_1 : decode cX7_asksIn 1 = .ok (.getfield 18, 3) := by decide +kernel
theorem dX7_asksIn_4 : decode cX7_asksIn 4 = .ok (.iload_n 1, 1) := by decide +kernel
theorem dX7_asksIn_5 : decode cX7_asksIn 5 = .ok (.iload_n 2, 1) := by decide +kernel
theorem dX7_asksIn_6 : decode cX7_asksIn 6 = .ok (.invokestatic 25, 3) := by decide +kernel
theorem dX7_asksIn_9 : decode cX7_asksIn 9 = .ok (.ireturn, 1) := by decide +kernel
def F_X7_asksIn (G : Nat → Nat) (h : xH) (a0 : Nat) (x1 : Int32) (x2 : Int32) : Option Int32 :=
  (gR h (some a0) 7 1).bind fun w1 =>
  w1.bind fun b2 =>
  (F_X7_total G h b2 x1 x2).bind fun v3 =>
  some v3
set_option maxHeartbeats 4000000 in
set_option maxRecDepth 100000 in
theorem t_X7_asksIn (l : Launch) (D : va_G) (G : Nat → Nat) (h : xH) (a0 : Nat) (x1 : Int32) (x2 : Int32) (r : Int32) (hF : F_X7_asksIn G h a0 x1 x2 = some r) : xC l yX7_asksIn cX7_asksIn 3 (some .int) rm_X7_asksIn D G h [.ref a0, .int x1, .int x2] (some (.int r)) h := by
  refine xC_of (by decide) (by first | decide | exact Nat.le_of_ble_eq_true rfl) ?_
  intro p e s m args below meth c ls hx hb hr hlk hml hown hnm hts hR hS hl
  have hl : lv_has ls 3 [(0, va_rf (some a0)), (1, .int x1), (2, .int x2)] := hl
  unfold F_X7_asksIn at hF
  refine x_aload_n (o := (some a0)) hx hb dX7_asksIn_0 rfl (lv_at hl 0 rfl) ?_
  replace hF := xbind hF; obtain ⟨w1, ew1, hF⟩ := hF
  refine x_getR (o := (some a0)) (ci := 7) (C := RX7) (T := TX7) (N := 3) hx hb hts iw_X7 hown hR rfl 1 (by decide) mm_246 (Or.inl rfl) ew1 dX7_asksIn_1 ?_
  refine lv_iload_n hx hb dX7_asksIn_4 rfl (lv_at hl 1 rfl) ?_
  refine lv_iload_n hx hb dX7_asksIn_5 rfl (lv_at hl 2 rfl) ?_
  replace hF := xbind hF; obtain ⟨b2, eb2, hF⟩ := hF
  subst eb2
  replace hF := xbind hF; obtain ⟨v3, ev3, hF⟩ := hF
  refine x_callS (As := [.ref b2, .int x1, .int x2]) (rest := []) (v := (some (.int v3))) (k := 3) hx hb hml hown hts hR hS (t_X7_total l D G h b2 x1 x2 v3 ev3) f_X7_total mm_454 mm_455 rfl hl.1 rfl (by first | exact Nat.le_of_ble_eq_true rfl | simp [xrf_cat, xcI, xcJ, xcA]) dX7_asksIn_6 (by decide) (by decide) rfl (fun H locs hR hS => ?_)
  cases hF
  exact x_iret hx hb hr rfl hlk hR hS (by decide) (by decide) dX7_asksIn_9
def rm_X7_badIn : Room := { frames := 2, cells := 0, slots := 0, locals := 47 }
theorem f_X7_badIn : xM yX7_badIn cX7_badIn 3 (some .int) 2 := ⟨mm_461, mm_63, by decide +kernel, by decide +kernel⟩
theorem dX7_badIn_0 : decode cX7_badIn 0 = .ok (.aload_n 0, 1) := by decide +kernel
theorem dX7_badIn_1 : decode cX7_badIn 1 = .ok (.getfield 22, 3) := by decide +kernel
theorem dX7_badIn_4 : decode cX7_badIn 4 = .ok (.iload_n 1, 1) := by decide +kernel
theorem dX7_badIn_5 : decode cX7_badIn 5 = .ok (.iload_n 2, 1) := by decide +kernel
theorem dX7_badIn_6 : decode cX7_badIn 6 = .ok (.invokestatic 25, 3) := by decide +kernel
theorem dX7_badIn_9 : decode cX7_badIn 9 = .ok (.ireturn, 1) := by decide +kernel
def F_X7_badIn (G : Nat → Nat) (h : xH) (a0 : Nat) (x1 : Int32) (x2 : Int32) : Option Int32 :=
  (gR h (some a0) 7 2).bind fun w1 =>
  w1.bind fun b2 =>
  (F_X7_total G h b2 x1 x2).bind fun v3 =>
  some v3
set_option maxHeartbeats 4000000 in
set_option maxRecDepth 100000 in
theorem t_X7_badIn (l : Launch) (D : va_G) (G : Nat → Nat) (h : xH) (a0 : Nat) (x1 : Int32) (x2 : Int32) (r : Int32) (hF : F_X7_badIn G h a0 x1 x2 = some r) : xC l yX7_badIn cX7_badIn 3 (some .int) rm_X7_badIn D G h [.ref a0, .int x1, .int x2] (some (.int r)) h := by
  refine xC_of (by decide) (by first | decide | exact Nat.le_of_ble_eq_true rfl) ?_
  intro p e s m args below meth c ls hx hb hr hlk hml hown hnm hts hR hS hl
  have hl : lv_has ls 3 [(0, va_rf (some a0)), (1, .int x1), (2, .int x2)] := hl
  unfold F_X7_badIn at hF
  refine x_aload_n (o := (some a0)) hx hb dX7_badIn_0 rfl (lv_at hl 0 rfl) ?_
  replace hF := xbind hF; obtain ⟨w1, ew1, hF⟩ := hF
  refine x_getR (o := (some a0)) (ci := 7) (C := RX7) (T := TX7) (N := 3) hx hb hts iw_X7 hown hR rfl 2 (by decide) mm_247 (Or.inl rfl) ew1 dX7_badIn_1 ?_
  refine lv_iload_n hx hb dX7_badIn_4 rfl (lv_at hl 1 rfl) ?_
  refine lv_iload_n hx hb dX7_badIn_5 rfl (lv_at hl 2 rfl) ?_
  replace hF := xbind hF; obtain ⟨b2, eb2, hF⟩ := hF
  subst eb2
  replace hF := xbind hF; obtain ⟨v3, ev3, hF⟩ := hF
  refine x_callS (As := [.ref b2, .int x1, .int x2]) (rest := []) (v := (some (.int v3))) (k := 3) hx hb hml hown hts hR hS (t_X7_total l D G h b2 x1 x2 v3 ev3) f_X7_total mm_454 mm_455 rfl hl.1 rfl (by first | exact Nat.le_of_ble_eq_true rfl | simp [xrf_cat, xcI, xcJ, xcA]) dX7_badIn_6 (by decide) (by decide) rfl (fun H locs hR hS => ?_)
  cases hF
  exact x_iret hx hb hr rfl hlk hR hS (by decide) (by decide) dX7_badIn_9
def rm_X7_asksAt : Room := { frames := 0, cells := 0, slots := 0, locals := 0 }
theorem f_X7_asksAt : xM yX7_asksAt cX7_asksAt 2 (some .int) 1 := ⟨mm_507, mm_63, by decide +kernel, by decide +kernel⟩
theorem dX7_asksAt_0 : decode cX7_asksAt 0 = .ok (.iload_n 1, 1) := by decide +kernel
theorem dX7_asksAt_1 : decode cX7_asksAt 1 = .ok (.ifCond .lt 19, 3) := by decide +kernel
theorem dX7_asksAt_4 : decode cX7_asksAt 4 = .ok (.iload_n 1, 1) := by decide +kernel
theorem dX7_asksAt_5 : decode cX7_asksAt 5 = .ok (.sipush 601, 3) := by decide +kernel
theorem dX7_asksAt_8 : decode cX7_asksAt 8 = .ok (.if_icmp .ge 12, 3) := by decide +kernel
theorem dX7_asksAt_11 : decode cX7_asksAt 11 = .ok (.aload_n 0, 1) := by decide +kernel
theorem dX7_asksAt_12 : decode cX7_asksAt 12 = .ok (.getfield 18, 3) := by decide +kernel
theorem dX7_asksAt_15 : decode cX7_asksAt 15 = .ok (.iload_n 1, 1) := by decide +kernel
theorem dX7_asksAt_16 : decode cX7_asksAt 16 = .ok (.iaload, 1) := by decide +kernel
theorem dX7_asksAt_17 : decode cX7_asksAt 17 = .ok (.goto 4, 3) := by decide +kernel
theorem dX7_asksAt_20 : decode cX7_asksAt 20 = .ok (.iconst 0, 1) := by decide +kernel
theorem dX7_asksAt_21 : decode cX7_asksAt 21 = .ok (.ireturn, 1) := by decide +kernel
def F_X7_asksAt (G : Nat → Nat) (h : xH) (a0 : Nat) (x1 : Int32) : Option Int32 :=
  if x1 < 0 then
    some 0
  else
  if 601 ≤ x1 then
    some 0
  else
  (gR h (some a0) 7 1).bind fun w3 =>
  (ldI 2 G h w3 x1).bind fun v4 =>
  some v4
set_option maxHeartbeats 4000000 in
set_option maxRecDepth 100000 in
theorem t_X7_asksAt (l : Launch) (D : va_G) (G : Nat → Nat) (h : xH) (a0 : Nat) (x1 : Int32) (r : Int32) (hF : F_X7_asksAt G h a0 x1 = some r) : xC l yX7_asksAt cX7_asksAt 2 (some .int) rm_X7_asksAt D G h [.ref a0, .int x1] (some (.int r)) h := by
  refine xC_of (by decide) (by first | decide | exact Nat.le_of_ble_eq_true rfl) ?_
  intro p e s m args below meth c ls hx hb hr hlk hml hown hnm hts hR hS hl
  have hl : lv_has ls 2 [(0, va_rf (some a0)), (1, .int x1)] := hl
  unfold F_X7_asksAt at hF
  refine lv_iload_n hx hb dX7_asksAt_0 rfl (lv_at hl 1 rfl) ?_
  refine lv_if_lt (tgt := 20) hx hb dX7_asksAt_1 (by decide) (fun c1 => ?_) (fun c1 => ?_)
  · replace hF := xift c1 hF
    refine lv_iconst (v := 0) hx hb dX7_asksAt_20 (by decide) ?_
    cases hF
    exact x_iret hx hb hr rfl hlk hR hS (by decide) (by decide) dX7_asksAt_21
  · replace hF := xiff c1 hF
    refine lv_iload_n hx hb dX7_asksAt_4 rfl (lv_at hl 1 rfl) ?_
    refine lv_sipush (v := 601) hx hb dX7_asksAt_5 (by decide) ?_
    refine lv_icmp_ge (tgt := 20) hx hb dX7_asksAt_8 (by decide) (fun c2 => ?_) (fun c2 => ?_)
    · replace hF := xift c2 hF
      refine lv_iconst (v := 0) hx hb dX7_asksAt_20 (by decide) ?_
      cases hF
      exact x_iret hx hb hr rfl hlk hR hS (by decide) (by decide) dX7_asksAt_21
    · replace hF := xiff c2 hF
      refine x_aload_n (o := (some a0)) hx hb dX7_asksAt_11 rfl (lv_at hl 0 rfl) ?_
      replace hF := xbind hF; obtain ⟨w3, ew3, hF⟩ := hF
      refine x_getR (o := (some a0)) (ci := 7) (C := RX7) (T := TX7) (N := 3) hx hb hts iw_X7 hown hR rfl 1 (by decide) mm_246 (Or.inl rfl) ew3 dX7_asksAt_12 ?_
      refine lv_iload_n hx hb dX7_asksAt_15 rfl (lv_at hl 1 rfl) ?_
      replace hF := xbind hF; obtain ⟨v4, ev4, hF⟩ := hF
      refine x_ild (o := w3) hx hb hR ev4 dX7_asksAt_16 ?_
      refine lv_goto (tgt := 21) hx hb dX7_asksAt_17 (by decide) ?_
      cases hF
      exact x_iret hx hb hr rfl hlk hR hS (by decide) (by decide) dX7_asksAt_21
def rm_X7_badAt : Room := { frames := 0, cells := 0, slots := 0, locals := 0 }
theorem f_X7_badAt : xM yX7_badAt cX7_badAt 2 (some .int) 1 := ⟨mm_515, mm_63, by decide +kernel, by decide +kernel⟩
theorem dX7_badAt_0 : decode cX7_badAt 0 = .ok (.iload_n 1, 1) := by decide +kernel
theorem dX7_badAt_1 : decode cX7_badAt 1 = .ok (.ifCond .lt 19, 3) := by decide +kernel
theorem dX7_badAt_4 : decode cX7_badAt 4 = .ok (.iload_n 1, 1) := by decide +kernel
theorem dX7_badAt_5 : decode cX7_badAt 5 = .ok (.sipush 601, 3) := by decide +kernel
theorem dX7_badAt_8 : decode cX7_badAt 8 = .ok (.if_icmp .ge 12, 3) := by decide +kernel
theorem dX7_badAt_11 : decode cX7_badAt 11 = .ok (.aload_n 0, 1) := by decide +kernel
theorem dX7_badAt_12 : decode cX7_badAt 12 = .ok (.getfield 22, 3) := by decide +kernel
theorem dX7_badAt_15 : decode cX7_badAt 15 = .ok (.iload_n 1, 1) := by decide +kernel
theorem dX7_badAt_16 : decode cX7_badAt 16 = .ok (.iaload, 1) := by decide +kernel
theorem dX7_badAt_17 : decode cX7_badAt 17 = .ok (.goto 4, 3) := by decide +kernel
theorem dX7_badAt_20 : decode cX7_badAt 20 = .ok (.iconst 0, 1) := by decide +kernel
theorem dX7_badAt_21 : decode cX7_badAt 21 = .ok (.ireturn, 1) := by decide +kernel
def F_X7_badAt (G : Nat → Nat) (h : xH) (a0 : Nat) (x1 : Int32) : Option Int32 :=
  if x1 < 0 then
    some 0
  else
  if 601 ≤ x1 then
    some 0
  else
  (gR h (some a0) 7 2).bind fun w3 =>
  (ldI 2 G h w3 x1).bind fun v4 =>
  some v4
set_option maxHeartbeats 4000000 in
set_option maxRecDepth 100000 in
theorem t_X7_badAt (l : Launch) (D : va_G) (G : Nat → Nat) (h : xH) (a0 : Nat) (x1 : Int32) (r : Int32) (hF : F_X7_badAt G h a0 x1 = some r) : xC l yX7_badAt cX7_badAt 2 (some .int) rm_X7_badAt D G h [.ref a0, .int x1] (some (.int r)) h := by
  refine xC_of (by decide) (by first | decide | exact Nat.le_of_ble_eq_true rfl) ?_
  intro p e s m args below meth c ls hx hb hr hlk hml hown hnm hts hR hS hl
  have hl : lv_has ls 2 [(0, va_rf (some a0)), (1, .int x1)] := hl
  unfold F_X7_badAt at hF
  refine lv_iload_n hx hb dX7_badAt_0 rfl (lv_at hl 1 rfl) ?_
  refine lv_if_lt (tgt := 20) hx hb dX7_badAt_1 (by decide) (fun c1 => ?_) (fun c1 => ?_)
  · replace hF := xift c1 hF
    refine lv_iconst (v := 0) hx hb dX7_badAt_20 (by decide) ?_
    cases hF
    exact x_iret hx hb hr rfl hlk hR hS (by decide) (by decide) dX7_badAt_21
  · replace hF := xiff c1 hF
    refine lv_iload_n hx hb dX7_badAt_4 rfl (lv_at hl 1 rfl) ?_
    refine lv_sipush (v := 601) hx hb dX7_badAt_5 (by decide) ?_
    refine lv_icmp_ge (tgt := 20) hx hb dX7_badAt_8 (by decide) (fun c2 => ?_) (fun c2 => ?_)
    · replace hF := xift c2 hF
      refine lv_iconst (v := 0) hx hb dX7_badAt_20 (by decide) ?_
      cases hF
      exact x_iret hx hb hr rfl hlk hR hS (by decide) (by decide) dX7_badAt_21
    · replace hF := xiff c2 hF
      refine x_aload_n (o := (some a0)) hx hb dX7_badAt_11 rfl (lv_at hl 0 rfl) ?_
      replace hF := xbind hF; obtain ⟨w3, ew3, hF⟩ := hF
      refine x_getR (o := (some a0)) (ci := 7) (C := RX7) (T := TX7) (N := 3) hx hb hts iw_X7 hown hR rfl 2 (by decide) mm_247 (Or.inl rfl) ew3 dX7_badAt_12 ?_
      refine lv_iload_n hx hb dX7_badAt_15 rfl (lv_at hl 1 rfl) ?_
      replace hF := xbind hF; obtain ⟨v4, ev4, hF⟩ := hF
      refine x_ild (o := w3) hx hb hR ev4 dX7_badAt_16 ?_
      refine lv_goto (tgt := 21) hx hb dX7_badAt_17 (by decide) ?_
      cases hF
      exact x_iret hx hb hr rfl hlk hR hS (by decide) (by decide) dX7_badAt_21
def rm_X7_toComeAt : Room := { frames := 3, cells := 0, slots := 0, locals := 64 }
theorem f_X7_toComeAt : xM yX7_toComeAt cX7_toComeAt 5 (some .int) 2 := ⟨mm_469, mm_63, by decide +kernel, by decide +kernel⟩
theorem dX7_toComeAt_0 : decode cX7_toComeAt 0 = .ok (.iconst 0, 1) := by decide +kernel
theorem dX7_toComeAt_1 : decode cX7_toComeAt 1 = .ok (.istore_n 3, 1) := by decide +kernel
theorem dX7_toComeAt_2 : decode cX7_toComeAt 2 = .ok (.iconst 0, 1) := by decide +kernel
theorem dX7_toComeAt_3 : decode cX7_toComeAt 3 = .ok (.istore 4, 2) := by decide +kernel
theorem dX7_toComeAt_5 : decode cX7_toComeAt 5 = .ok (.iload 4, 2) := by decide +kernel
theorem dX7_toComeAt_7 : decode cX7_toComeAt 7 = .ok (.aload_n 0, 1) := by decide +kernel
theorem dX7_toComeAt_8 : decode cX7_toComeAt 8 = .ok (.getfield 12, 3) := by decide +kernel
theorem dX7_toComeAt_11 : decode cX7_toComeAt 11 = .ok (.invokeinterface 38 1, 5) := by decide +kernel
theorem dX7_toComeAt_16 : decode cX7_toComeAt 16 = .ok (.if_icmp .ge 31, 3) := by decide +kernel
theorem dX7_toComeAt_19 : decode cX7_toComeAt 19 = .ok (.iload_n 3, 1) := by decide +kernel
theorem dX7_toComeAt_20 : decode cX7_toComeAt 20 = .ok (.aload_n 0, 1) := by decide +kernel
theorem dX7_toComeAt_21 : decode cX7_toComeAt 21 = .ok (.getfield 12, 3) := by decide +kernel
theorem dX7_toComeAt_24 : decode cX7_toComeAt 24 = .ok (.iload 4, 2) := by decide +kernel
theorem dX7_toComeAt_26 : decode cX7_toComeAt 26 = .ok (.invokeinterface 44 2, 5) := by decide +kernel
theorem dX7_toComeAt_31 : decode cX7_toComeAt 31 = .ok (.checkcast 48, 3) := by decide +kernel
theorem dX7_toComeAt_34 : decode cX7_toComeAt 34 = .ok (.iload_n 1, 1) := by decide +kernel
theorem dX7_toComeAt_35 : decode cX7_toComeAt 35 = .ok (.iload_n 2, 1) := by decide +kernel
theorem dX7_toComeAt_36 : decode cX7_toComeAt 36 = .ok (.invokevirtual 50, 3) := by decide +kernel
theorem dX7_toComeAt_39 : decode cX7_toComeAt 39 = .ok (.iadd, 1) := by decide +kernel
theorem dX7_toComeAt_40 : decode cX7_toComeAt 40 = .ok (.istore_n 3, 1) := by decide +kernel
theorem dX7_toComeAt_41 : decode cX7_toComeAt 41 = .ok (.iinc 4 1, 3) := by decide +kernel
theorem dX7_toComeAt_44 : decode cX7_toComeAt 44 = .ok (.goto (-39), 3) := by decide +kernel
theorem dX7_toComeAt_47 : decode cX7_toComeAt 47 = .ok (.iload_n 3, 1) := by decide +kernel
theorem dX7_toComeAt_48 : decode cX7_toComeAt 48 = .ok (.ireturn, 1) := by decide +kernel
def F_X7_toComeAt_5 (G : Nat → Nat) (h : xH) (a0 : Nat) (x1 : Int32) (x2 : Int32) : Nat → Int32 → Int32 → Option Int32
  | 0, _, _ => none
  | n + 1, x3, x4 =>
    (gR h (some a0) 7 0).bind fun w1 =>
    (xc h w1 0).bind fun b3 =>
    (F_Jx4a65c_size_8abf5 G h b3).bind fun v2 =>
    if v2 ≤ x4 then
      some x3
    else
    (gR h (some a0) 7 0).bind fun w5 =>
    (xc h w5 0).bind fun b7 =>
    (F_Jx4a65c_get_915e3 G h b7 x4).bind fun w6 =>
    xk h w6 8 <|
    (xc h w6 8).bind fun b10 =>
    (F_X8_toCome G h b10 x1 x2).bind fun v9 =>
    xl (x3 + v9) fun v11 =>
    xl (x4 + 1) fun v12 =>
    F_X7_toComeAt_5 G h a0 x1 x2 n v11 v12
set_option maxHeartbeats 4000000 in
set_option maxRecDepth 100000 in
theorem tl_X7_toComeAt_5 {p : Program} {l : Launch} {e : Env} {s : State} {m : MethodId} {args : Array Value} {below : List Frame} {meth : Method} {c : Code} {D : va_G} {r : Int32} (hx : p.tables.exec = Jvm.exec) (hb : c.code = cX7_toComeAt) (hr : meth.sig.returnType = (some .int)) (hlk : meth.locks = false) (hml : c.maxLocals = 5) (hown : s.vm.findClass RX7 = some m.cls) (hnm : meth.name = "toComeAt") (hts : ∀ w ∈ xt, w.before args s = true) (G : Nat → Nat) (h : xH) (a0 : Nat) (x1 : Int32) (x2 : Int32) : ∀ (n : Nat) (x3 : Int32) (x4 : Int32) (H : Heap) (locs : List Loc) (ls : Array Slot), F_X7_toComeAt_5 G h a0 x1 x2 n x3 x4 = some r → xR D G h s H → va_S (xA G) s.heap H locs → lv_has ls 5 [(0, va_rf (some a0)), (1, .int x1), (2, .int x2), (3, .int x3), (4, .int x4)] → W p l e rm_X7_toComeAt s m args below meth c H locs 0 0 (MQ below (xQ D G (some (.int r)) h) args s rm_X7_toComeAt.cells rm_X7_toComeAt.slots (xA G)) (F0 m 5 ls []) := by
  intro n
  induction n with
  | zero =>
    intro x3 x4 H locs ls hF
    rw [F_X7_toComeAt_5.eq_1] at hF
    cases hF
  | succ n ih =>
    intro x3 x4 H locs ls hF hR hS hl
    rw [F_X7_toComeAt_5.eq_2] at hF
    refine lv_iload hx hb dX7_toComeAt_5 (lv_at hl 4 rfl) ?_
    refine x_aload_n (o := (some a0)) hx hb dX7_toComeAt_7 rfl (lv_at hl 0 rfl) ?_
    replace hF := xbind hF; obtain ⟨w1, ew1, hF⟩ := hF
    refine x_getR (o := (some a0)) (ci := 7) (C := RX7) (T := TX7) (N := 3) hx hb hts iw_X7 hown hR rfl 0 (by decide) mm_243 (Or.inl rfl) ew1 dX7_toComeAt_8 ?_
    replace hF := xbind hF; obtain ⟨b3, eb3, hF⟩ := hF
    replace hF := xbind hF; obtain ⟨v2, ev2, hF⟩ := hF
    refine x_callF (o := w1) (ci := 0) (As := []) (rest := [.int x4]) (v := (some (.int v2))) (k := 0) hx hb hml hown hts hR hS eb3 rfl (by decide +kernel) (t_Jx4a65c_size_8abf5 l D G h b3 v2 ev2) f_Jx4a65c_size_8abf5 mm_471 mm_232 mm_230 (by decide +kernel) rfl hl.1 rfl (by first | exact Nat.le_of_ble_eq_true rfl | simp [xrf_cat, xcI, xcJ, xcA]) dX7_toComeAt_11 (by decide) (by decide) rfl (fun H locs hR hS => ?_)
    refine lv_icmp_ge (tgt := 47) hx hb dX7_toComeAt_16 (by decide) (fun c4 => ?_) (fun c4 => ?_)
    · replace hF := xift c4 hF
      refine lv_iload_n hx hb dX7_toComeAt_47 rfl (lv_at hl 3 rfl) ?_
      cases hF
      exact x_iret hx hb hr rfl hlk hR hS (by decide) (by decide) dX7_toComeAt_48
    · replace hF := xiff c4 hF
      refine lv_iload_n hx hb dX7_toComeAt_19 rfl (lv_at hl 3 rfl) ?_
      refine x_aload_n (o := (some a0)) hx hb dX7_toComeAt_20 rfl (lv_at hl 0 rfl) ?_
      replace hF := xbind hF; obtain ⟨w5, ew5, hF⟩ := hF
      refine x_getR (o := (some a0)) (ci := 7) (C := RX7) (T := TX7) (N := 3) hx hb hts iw_X7 hown hR rfl 0 (by decide) mm_243 (Or.inl rfl) ew5 dX7_toComeAt_21 ?_
      refine lv_iload hx hb dX7_toComeAt_24 (lv_at hl 4 rfl) ?_
      replace hF := xbind hF; obtain ⟨b7, eb7, hF⟩ := hF
      replace hF := xbind hF; obtain ⟨w6, ew6, hF⟩ := hF
      refine x_callF (o := w5) (ci := 0) (As := [.int x4]) (rest := [.int x3]) (v := (some (va_rf w6))) (k := 1) hx hb hml hown hts hR hS eb7 rfl (by decide +kernel) (t_Jx4a65c_get_915e3 l D G h b7 x4 w6 ew6) f_Jx4a65c_get_915e3 mm_473 mm_334 mm_332 (by decide +kernel) rfl hl.1 rfl (by first | exact Nat.le_of_ble_eq_true rfl | simp [xrf_cat, xcI, xcJ, xcA]) dX7_toComeAt_26 (by decide) (by decide) rfl (fun H locs hR hS => ?_)
      replace hF := xkguard hF; obtain ⟨c8, hF⟩ := hF
      refine x_cast (o := w6) (ci := 8) hx hb hown hts hR rfl mm_474 c8 dX7_toComeAt_31 ?_
      refine lv_iload_n hx hb dX7_toComeAt_34 rfl (lv_at hl 1 rfl) ?_
      refine lv_iload_n hx hb dX7_toComeAt_35 rfl (lv_at hl 2 rfl) ?_
      replace hF := xbind hF; obtain ⟨b10, eb10, hF⟩ := hF
      replace hF := xbind hF; obtain ⟨v9, ev9, hF⟩ := hF
      refine x_callV (o := w6) (ci := 8) (As := [.int x1, .int x2]) (rest := [.int x3]) (v := (some (.int v9))) (k := 2) hx hb hml hown hts hR hS eb10 rfl rfl (t_X8_toCome l D G h b10 x1 x2 v9 ev9) f_X8_toCome mm_475 mm_476 mm_477 rfl hl.1 rfl (by first | exact Nat.le_of_ble_eq_true rfl | simp [xrf_cat, xcI, xcJ, xcA]) dX7_toComeAt_36 (by decide) (by decide) rfl (fun H locs hR hS => ?_)
      refine lv_iadd hx hb dX7_toComeAt_39 ?_
      refine lv_topi (fun v11 ev11 => ?_)
      replace hF := xlet ev11 hF
      refine lv_istore_n (lv' := [(3, .int v11), (0, va_rf (some a0)), (1, .int x1), (2, .int x2), (4, .int x4)]) hx hb dX7_toComeAt_40 rfl hl (by decide) (by first | rfl | simp [xrf_cat]) (fun ls hl => ?_)
      obtain ⟨v12, ev12⟩ : ∃ z : Int32, z = (x4 + 1) := ⟨_, rfl⟩
      replace hF := xlet ev12 hF
      refine lv_iinc (v := v12) (lv' := [(4, .int v12), (3, .int v11), (0, va_rf (some a0)), (1, .int x1), (2, .int x2)]) hx hb dX7_toComeAt_41 hl (k := 4) rfl (by rw [ev12]; rfl) (by decide) (by first | rfl | simp [xrf_cat]) (fun ls hl => ?_)
      refine lv_goto (tgt := 5) hx hb dX7_toComeAt_44 (by decide) ?_
      exact ih v11 v12 _ _ _ hF hR hS (lv_sub hl [2, 3, 4, 1, 0] rfl)
def F_X7_toComeAt (G : Nat → Nat) (h : xH) (a0 : Nat) (x1 : Int32) (x2 : Int32) : Option Int32 :=
  F_X7_toComeAt_5 G h a0 x1 x2 xN 0 0
set_option maxHeartbeats 4000000 in
set_option maxRecDepth 100000 in
theorem t_X7_toComeAt (l : Launch) (D : va_G) (G : Nat → Nat) (h : xH) (a0 : Nat) (x1 : Int32) (x2 : Int32) (r : Int32) (hF : F_X7_toComeAt G h a0 x1 x2 = some r) : xC l yX7_toComeAt cX7_toComeAt 5 (some .int) rm_X7_toComeAt D G h [.ref a0, .int x1, .int x2] (some (.int r)) h := by
  refine xC_of (by decide) (by first | decide | exact Nat.le_of_ble_eq_true rfl) ?_
  intro p e s m args below meth c ls hx hb hr hlk hml hown hnm hts hR hS hl
  have hl : lv_has ls 5 [(0, va_rf (some a0)), (1, .int x1), (2, .int x2)] := hl
  unfold F_X7_toComeAt at hF
  refine lv_iconst (v := 0) hx hb dX7_toComeAt_0 (by decide) ?_
  refine lv_istore_n (lv' := [(3, .int 0), (0, va_rf (some a0)), (1, .int x1), (2, .int x2)]) hx hb dX7_toComeAt_1 rfl hl (by decide) (by first | rfl | simp [xrf_cat]) (fun ls hl => ?_)
  refine lv_iconst (v := 0) hx hb dX7_toComeAt_2 (by decide) ?_
  refine lv_istore (lv' := [(4, .int 0), (3, .int 0), (0, va_rf (some a0)), (1, .int x1), (2, .int x2)]) hx hb dX7_toComeAt_3 hl (by decide) (by first | rfl | simp [xrf_cat]) (fun ls hl => ?_)
  refine W.widen (k := 0) (n := 0) (by decide) (by decide) ?_
  exact tl_X7_toComeAt_5 hx hb hr hlk hml hown hnm hts G h a0 x1 x2 _ 0 0 _ _ _ hF hR hS (lv_sub hl [2, 3, 4, 1, 0] rfl)
def rm_X7_toComeIn : Room := { frames := 4, cells := 0, slots := 0, locals := 88 }
theorem f_X7_toComeIn : xM yX7_toComeIn cX7_toComeIn 6 (some .int) 3 := ⟨mm_465, mm_63, by decide +kernel, by decide +kernel⟩
theorem dX7_toComeIn_0 : decode cX7_toComeIn 0 = .ok (.iconst 0, 1) := by decide +kernel
theorem dX7_toComeIn_1 : decode cX7_toComeIn 1 = .ok (.istore 4, 2) := by decide +kernel
theorem dX7_toComeIn_3 : decode cX7_toComeIn 3 = .ok (.iload_n 1, 1) := by decide +kernel
theorem dX7_toComeIn_4 : decode cX7_toComeIn 4 = .ok (.iconst 0, 1) := by decide +kernel
theorem dX7_toComeIn_5 : decode cX7_toComeIn 5 = .ok (.invokestatic 29, 3) := by decide +kernel
theorem dX7_toComeIn_8 : decode cX7_toComeIn 8 = .ok (.istore 5, 2) := by decide +kernel
theorem dX7_toComeIn_10 : decode cX7_toComeIn 10 = .ok (.iload 5, 2) := by decide +kernel
theorem dX7_toComeIn_12 : decode cX7_toComeIn 12 = .ok (.iload_n 2, 1) := by decide +kernel
theorem dX7_toComeIn_13 : decode cX7_toComeIn 13 = .ok (.if_icmp .gt 29, 3) := by decide +kernel
theorem dX7_toComeIn_16 : decode cX7_toComeIn 16 = .ok (.iload 5, 2) := by decide +kernel
theorem dX7_toComeIn_18 : decode cX7_toComeIn 18 = .ok (.sipush 600, 3) := by decide +kernel
theorem dX7_toComeIn_21 : decode cX7_toComeIn 21 = .ok (.if_icmp .gt 21, 3) := by decide +kernel
theorem dX7_toComeIn_24 : decode cX7_toComeIn 24 = .ok (.iload 4, 2) := by decide +kernel
theorem dX7_toComeIn_26 : decode cX7_toComeIn 26 = .ok (.aload_n 0, 1) := by decide +kernel
theorem dX7_toComeIn_27 : decode cX7_toComeIn 27 = .ok (.iload 5, 2) := by decide +kernel
theorem dX7_toComeIn_29 : decode cX7_toComeIn 29 = .ok (.iload_n 3, 1) := by decide +kernel
theorem dX7_toComeIn_30 : decode cX7_toComeIn 30 = .ok (.invokevirtual 35, 3) := by decide +kernel
theorem dX7_toComeIn_33 : decode cX7_toComeIn 33 = .ok (.iadd, 1) := by decide +kernel
theorem dX7_toComeIn_34 : decode cX7_toComeIn 34 = .ok (.istore 4, 2) := by decide +kernel
theorem dX7_toComeIn_36 : decode cX7_toComeIn 36 = .ok (.iinc 5 1, 3) := by decide +kernel
theorem dX7_toComeIn_39 : decode cX7_toComeIn 39 = .ok (.goto (-29), 3) := by decide +kernel
theorem dX7_toComeIn_42 : decode cX7_toComeIn 42 = .ok (.iload 4, 2) := by decide +kernel
theorem dX7_toComeIn_44 : decode cX7_toComeIn 44 = .ok (.ireturn, 1) := by decide +kernel
def F_X7_toComeIn_10 (G : Nat → Nat) (h : xH) (a0 : Nat) (x2 : Int32) (x3 : Int32) : Nat → Int32 → Int32 → Option Int32
  | 0, _, _ => none
  | n + 1, x4, x5 =>
    if x2 < x5 then
      some x4
    else
    if 600 < x5 then
      some x4
    else
    (xc h (some a0) 7).bind fun b5 =>
    (F_X7_toComeAt G h b5 x5 x3).bind fun v4 =>
    xl (x4 + v4) fun v6 =>
    xl (x5 + 1) fun v7 =>
    F_X7_toComeIn_10 G h a0 x2 x3 n v6 v7
set_option maxHeartbeats 4000000 in
set_option maxRecDepth 100000 in
theorem tl_X7_toComeIn_10 {p : Program} {l : Launch} {e : Env} {s : State} {m : MethodId} {args : Array Value} {below : List Frame} {meth : Method} {c : Code} {D : va_G} {r : Int32} (hx : p.tables.exec = Jvm.exec) (hb : c.code = cX7_toComeIn) (hr : meth.sig.returnType = (some .int)) (hlk : meth.locks = false) (hml : c.maxLocals = 6) (hown : s.vm.findClass RX7 = some m.cls) (hnm : meth.name = "toComeIn") (hts : ∀ w ∈ xt, w.before args s = true) (G : Nat → Nat) (h : xH) (a0 : Nat) (x2 : Int32) (x3 : Int32) : ∀ (n : Nat) (x4 : Int32) (x5 : Int32) (H : Heap) (locs : List Loc) (ls : Array Slot), F_X7_toComeIn_10 G h a0 x2 x3 n x4 x5 = some r → xR D G h s H → va_S (xA G) s.heap H locs → lv_has ls 6 [(0, va_rf (some a0)), (2, .int x2), (3, .int x3), (4, .int x4), (5, .int x5)] → W p l e rm_X7_toComeIn s m args below meth c H locs 0 0 (MQ below (xQ D G (some (.int r)) h) args s rm_X7_toComeIn.cells rm_X7_toComeIn.slots (xA G)) (F0 m 10 ls []) := by
  intro n
  induction n with
  | zero =>
    intro x4 x5 H locs ls hF
    rw [F_X7_toComeIn_10.eq_1] at hF
    cases hF
  | succ n ih =>
    intro x4 x5 H locs ls hF hR hS hl
    rw [F_X7_toComeIn_10.eq_2] at hF
    refine lv_iload hx hb dX7_toComeIn_10 (lv_at hl 4 rfl) ?_
    refine lv_iload_n hx hb dX7_toComeIn_12 rfl (lv_at hl 1 rfl) ?_
    refine lv_icmp_gt (tgt := 42) hx hb dX7_toComeIn_13 (by decide) (fun c2 => ?_) (fun c2 => ?_)
    · replace hF := xift c2 hF
      refine lv_iload hx hb dX7_toComeIn_42 (lv_at hl 3 rfl) ?_
      cases hF
      exact x_iret hx hb hr rfl hlk hR hS (by decide) (by decide) dX7_toComeIn_44
    · replace hF := xiff c2 hF
      refine lv_iload hx hb dX7_toComeIn_16 (lv_at hl 4 rfl) ?_
      refine lv_sipush (v := 600) hx hb dX7_toComeIn_18 (by decide) ?_
      refine lv_icmp_gt (tgt := 42) hx hb dX7_toComeIn_21 (by decide) (fun c3 => ?_) (fun c3 => ?_)
      · replace hF := xift c3 hF
        refine lv_iload hx hb dX7_toComeIn_42 (lv_at hl 3 rfl) ?_
        cases hF
        exact x_iret hx hb hr rfl hlk hR hS (by decide) (by decide) dX7_toComeIn_44
      · replace hF := xiff c3 hF
        refine lv_iload hx hb dX7_toComeIn_24 (lv_at hl 3 rfl) ?_
        refine x_aload_n (o := (some a0)) hx hb dX7_toComeIn_26 rfl (lv_at hl 0 rfl) ?_
        refine lv_iload hx hb dX7_toComeIn_27 (lv_at hl 4 rfl) ?_
        refine lv_iload_n hx hb dX7_toComeIn_29 rfl (lv_at hl 2 rfl) ?_
        replace hF := xbind hF; obtain ⟨b5, eb5, hF⟩ := hF
        replace hF := xbind hF; obtain ⟨v4, ev4, hF⟩ := hF
        refine x_callV (o := (some a0)) (ci := 7) (As := [.int x5, .int x3]) (rest := [.int x4]) (v := (some (.int v4))) (k := 2) hx hb hml hown hts hR hS eb5 rfl rfl (t_X7_toComeAt l D G h b5 x5 x3 v4 ev4) f_X7_toComeAt mm_466 mm_467 mm_468 rfl hl.1 rfl (by first | exact Nat.le_of_ble_eq_true rfl | simp [xrf_cat, xcI, xcJ, xcA]) dX7_toComeIn_30 (by decide) (by decide) rfl (fun H locs hR hS => ?_)
        refine lv_iadd hx hb dX7_toComeIn_33 ?_
        refine lv_topi (fun v6 ev6 => ?_)
        replace hF := xlet ev6 hF
        refine lv_istore (lv' := [(4, .int v6), (0, va_rf (some a0)), (2, .int x2), (3, .int x3), (5, .int x5)]) hx hb dX7_toComeIn_34 hl (by decide) (by first | rfl | simp [xrf_cat]) (fun ls hl => ?_)
        obtain ⟨v7, ev7⟩ : ∃ z : Int32, z = (x5 + 1) := ⟨_, rfl⟩
        replace hF := xlet ev7 hF
        refine lv_iinc (v := v7) (lv' := [(5, .int v7), (4, .int v6), (0, va_rf (some a0)), (2, .int x2), (3, .int x3)]) hx hb dX7_toComeIn_36 hl (k := 4) rfl (by rw [ev7]; rfl) (by decide) (by first | rfl | simp [xrf_cat]) (fun ls hl => ?_)
        refine lv_goto (tgt := 10) hx hb dX7_toComeIn_39 (by decide) ?_
        exact ih v6 v7 _ _ _ hF hR hS (lv_sub hl [2, 3, 4, 1, 0] rfl)
def F_X7_toComeIn (G : Nat → Nat) (h : xH) (a0 : Nat) (x1 : Int32) (x2 : Int32) (x3 : Int32) : Option Int32 :=
  xl (xmax x1 0) fun v1 =>
  F_X7_toComeIn_10 G h a0 x2 x3 xN 0 v1
set_option maxHeartbeats 4000000 in
set_option maxRecDepth 100000 in
theorem t_X7_toComeIn (l : Launch) (D : va_G) (G : Nat → Nat) (h : xH) (a0 : Nat) (x1 : Int32) (x2 : Int32) (x3 : Int32) (r : Int32) (hF : F_X7_toComeIn G h a0 x1 x2 x3 = some r) : xC l yX7_toComeIn cX7_toComeIn 6 (some .int) rm_X7_toComeIn D G h [.ref a0, .int x1, .int x2, .int x3] (some (.int r)) h := by
  refine xC_of (by decide) (by first | decide | exact Nat.le_of_ble_eq_true rfl) ?_
  intro p e s m args below meth c ls hx hb hr hlk hml hown hnm hts hR hS hl
  have hl : lv_has ls 6 [(0, va_rf (some a0)), (1, .int x1), (2, .int x2), (3, .int x3)] := hl
  unfold F_X7_toComeIn at hF
  refine lv_iconst (v := 0) hx hb dX7_toComeIn_0 (by decide) ?_
  refine lv_istore (lv' := [(4, .int 0), (0, va_rf (some a0)), (1, .int x1), (2, .int x2), (3, .int x3)]) hx hb dX7_toComeIn_1 hl (by decide) (by first | rfl | simp [xrf_cat]) (fun ls hl => ?_)
  refine lv_iload_n hx hb dX7_toComeIn_3 rfl (lv_at hl 2 rfl) ?_
  refine lv_iconst (v := 0) hx hb dX7_toComeIn_4 (by decide) ?_
  refine x_max hx hb (hml.trans hl.1.symm) hown hts mm_457 mm_280 mm_65 mm_281 (by decide) (by first | exact Nat.le_of_ble_eq_true rfl | simp [xrf_cat, xcI, xcJ, xcA]) (by decide) (by decide) dX7_toComeIn_5 ?_
  refine lv_topi (fun v1 ev1 => ?_)
  replace hF := xlet ev1 hF
  refine lv_istore (lv' := [(5, .int v1), (4, .int 0), (0, va_rf (some a0)), (1, .int x1), (2, .int x2), (3, .int x3)]) hx hb dX7_toComeIn_8 hl (by decide) (by first | rfl | simp [xrf_cat]) (fun ls hl => ?_)
  refine W.widen (k := 0) (n := 0) (by decide) (by decide) ?_
  exact tl_X7_toComeIn_10 hx hb hr hlk hml hown hnm hts G h a0 x2 x3 _ 0 v1 _ _ _ hF hR hS (lv_sub hl [2, 4, 5, 1, 0] rfl)
def rm_X7_latest : Room := { frames := 3, cells := 0, slots := 0, locals := 64 }
theorem f_X7_latest : xM yX7_latest cX7_latest 3 (some .int) 0 := ⟨mm_934, mm_63, by decide +kernel, by decide +kernel⟩
theorem dX7_latest_0 : decode cX7_latest 0 = .ok (.iconst 0, 1) := by decide +kernel
theorem dX7_latest_1 : decode cX7_latest 1 = .ok (.istore_n 1, 1) := by decide +kernel
theorem dX7_latest_2 : decode cX7_latest 2 = .ok (.iconst 0, 1) := by decide +kernel
theorem dX7_latest_3 : decode cX7_latest 3 = .ok (.istore_n 2, 1) := by decide +kernel
theorem dX7_latest_4 : decode cX7_latest 4 = .ok (.iload_n 2, 1) := by decide +kernel
theorem dX7_latest_5 : decode cX7_latest 5 = .ok (.aload_n 0, 1) := by decide +kernel
theorem dX7_latest_6 : decode cX7_latest 6 = .ok (.getfield 12, 3) := by decide +kernel
theorem dX7_latest_9 : decode cX7_latest 9 = .ok (.invokeinterface 38 1, 5) := by decide +kernel
theorem dX7_latest_14 : decode cX7_latest 14 = .ok (.if_icmp .ge 30, 3) := by decide +kernel
theorem dX7_latest_17 : decode cX7_latest 17 = .ok (.iload_n 1, 1) := by decide +kernel
theorem dX7_latest_18 : decode cX7_latest 18 = .ok (.aload_n 0, 1) := by decide +kernel
theorem dX7_latest_19 : decode cX7_latest 19 = .ok (.getfield 12, 3) := by decide +kernel
theorem dX7_latest_22 : decode cX7_latest 22 = .ok (.iload_n 2, 1) := by decide +kernel
theorem dX7_latest_23 : decode cX7_latest 23 = .ok (.invokeinterface 44 2, 5) := by decide +kernel
theorem dX7_latest_28 : decode cX7_latest 28 = .ok (.checkcast 48, 3) := by decide +kernel
theorem dX7_latest_31 : decode cX7_latest 31 = .ok (.getfield 53, 3) := by decide +kernel
theorem dX7_latest_34 : decode cX7_latest 34 = .ok (.invokestatic 29, 3) := by decide +kernel
theorem dX7_latest_37 : decode cX7_latest 37 = .ok (.istore_n 1, 1) := by decide +kernel
theorem dX7_latest_38 : decode cX7_latest 38 = .ok (.iinc 2 1, 3) := by decide +kernel
theorem dX7_latest_41 : decode cX7_latest 41 = .ok (.goto (-37), 3) := by decide +kernel
theorem dX7_latest_44 : decode cX7_latest 44 = .ok (.iload_n 1, 1) := by decide +kernel
theorem dX7_latest_45 : decode cX7_latest 45 = .ok (.ireturn, 1) := by decide +kernel
def F_X7_latest_4 (G : Nat → Nat) (h : xH) (a0 : Nat) : Nat → Int32 → Int32 → Option Int32
  | 0, _, _ => none
  | n + 1, x1, x2 =>
    (gR h (some a0) 7 0).bind fun w1 =>
    (xc h w1 0).bind fun b3 =>
    (F_Jx4a65c_size_8abf5 G h b3).bind fun v2 =>
    if v2 ≤ x2 then
      some x1
    else
    (gR h (some a0) 7 0).bind fun w5 =>
    (xc h w5 0).bind fun b7 =>
    (F_Jx4a65c_get_915e3 G h b7 x2).bind fun w6 =>
    xk h w6 8 <|
    (gI h w6 8 0).bind fun v9 =>
    xl (xmax x1 v9) fun v10 =>
    xl (x2 + 1) fun v11 =>
    F_X7_latest_4 G h a0 n v10 v11
set_option maxHeartbeats 4000000 in
set_option maxRecDepth 100000 in
theorem tl_X7_latest_4 {p : Program} {l : Launch} {e : Env} {s : State} {m : MethodId} {args : Array Value} {below : List Frame} {meth : Method} {c : Code} {D : va_G} {r : Int32} (hx : p.tables.exec = Jvm.exec) (hb : c.code = cX7_latest) (hr : meth.sig.returnType = (some .int)) (hlk : meth.locks = false) (hml : c.maxLocals = 3) (hown : s.vm.findClass RX7 = some m.cls) (hnm : meth.name = "latest") (hts : ∀ w ∈ xt, w.before args s = true) (G : Nat → Nat) (h : xH) (a0 : Nat) : ∀ (n : Nat) (x1 : Int32) (x2 : Int32) (H : Heap) (locs : List Loc) (ls : Array Slot), F_X7_latest_4 G h a0 n x1 x2 = some r → xR D G h s H → va_S (xA G) s.heap H locs → lv_has ls 3 [(0, va_rf (some a0)), (1, .int x1), (2, .int x2)] → W p l e rm_X7_latest s m args below meth c H locs 0 0 (MQ below (xQ D G (some (.int r)) h) args s rm_X7_latest.cells rm_X7_latest.slots (xA G)) (F0 m 4 ls []) := by
  intro n
  induction n with
  | zero =>
    intro x1 x2 H locs ls hF
    rw [F_X7_latest_4.eq_1] at hF
    cases hF
  | succ n ih =>
    intro x1 x2 H locs ls hF hR hS hl
    rw [F_X7_latest_4.eq_2] at hF
    refine lv_iload_n hx hb dX7_latest_4 rfl (lv_at hl 2 rfl) ?_
    refine x_aload_n (o := (some a0)) hx hb dX7_latest_5 rfl (lv_at hl 0 rfl) ?_
    replace hF := xbind hF; obtain ⟨w1, ew1, hF⟩ := hF
    refine x_getR (o := (some a0)) (ci := 7) (C := RX7) (T := TX7) (N := 3) hx hb hts iw_X7 hown hR rfl 0 (by decide) mm_243 (Or.inl rfl) ew1 dX7_latest_6 ?_
    replace hF := xbind hF; obtain ⟨b3, eb3, hF⟩ := hF
    replace hF := xbind hF; obtain ⟨v2, ev2, hF⟩ := hF
    refine x_callF (o := w1) (ci := 0) (As := []) (rest := [.int x2]) (v := (some (.int v2))) (k := 0) hx hb hml hown hts hR hS eb3 rfl (by decide +kernel) (t_Jx4a65c_size_8abf5 l D G h b3 v2 ev2) f_Jx4a65c_size_8abf5 mm_471 mm_232 mm_230 (by decide +kernel) rfl hl.1 rfl (by first | exact Nat.le_of_ble_eq_true rfl | simp [xrf_cat, xcI, xcJ, xcA]) dX7_latest_9 (by decide) (by decide) rfl (fun H locs hR hS => ?_)
    refine lv_icmp_ge (tgt := 44) hx hb dX7_latest_14 (by decide) (fun c4 => ?_) (fun c4 => ?_)
    · replace hF := xift c4 hF
      refine lv_iload_n hx hb dX7_latest_44 rfl (lv_at hl 1 rfl) ?_
      cases hF
      exact x_iret hx hb hr rfl hlk hR hS (by decide) (by decide) dX7_latest_45
    · replace hF := xiff c4 hF
      refine lv_iload_n hx hb dX7_latest_17 rfl (lv_at hl 1 rfl) ?_
      refine x_aload_n (o := (some a0)) hx hb dX7_latest_18 rfl (lv_at hl 0 rfl) ?_
      replace hF := xbind hF; obtain ⟨w5, ew5, hF⟩ := hF
      refine x_getR (o := (some a0)) (ci := 7) (C := RX7) (T := TX7) (N := 3) hx hb hts iw_X7 hown hR rfl 0 (by decide) mm_243 (Or.inl rfl) ew5 dX7_latest_19 ?_
      refine lv_iload_n hx hb dX7_latest_22 rfl (lv_at hl 2 rfl) ?_
      replace hF := xbind hF; obtain ⟨b7, eb7, hF⟩ := hF
      replace hF := xbind hF; obtain ⟨w6, ew6, hF⟩ := hF
      refine x_callF (o := w5) (ci := 0) (As := [.int x2]) (rest := [.int x1]) (v := (some (va_rf w6))) (k := 1) hx hb hml hown hts hR hS eb7 rfl (by decide +kernel) (t_Jx4a65c_get_915e3 l D G h b7 x2 w6 ew6) f_Jx4a65c_get_915e3 mm_473 mm_334 mm_332 (by decide +kernel) rfl hl.1 rfl (by first | exact Nat.le_of_ble_eq_true rfl | simp [xrf_cat, xcI, xcJ, xcA]) dX7_latest_23 (by decide) (by decide) rfl (fun H locs hR hS => ?_)
      replace hF := xkguard hF; obtain ⟨c8, hF⟩ := hF
      refine x_cast (o := w6) (ci := 8) hx hb hown hts hR rfl mm_474 c8 dX7_latest_28 ?_
      replace hF := xbind hF; obtain ⟨v9, ev9, hF⟩ := hF
      refine x_getI (o := w6) (ci := 8) (C := RX8) (T := TX8) (N := 5) hx hb hts iw_X8 hown hR rfl 0 (by decide) mm_357 (Or.inl rfl) ev9 dX7_latest_31 ?_
      refine x_max hx hb (hml.trans hl.1.symm) hown hts mm_457 mm_280 mm_65 mm_281 (by decide) (by first | exact Nat.le_of_ble_eq_true rfl | simp [xrf_cat, xcI, xcJ, xcA]) (by decide) (by decide) dX7_latest_34 ?_
      refine lv_topi (fun v10 ev10 => ?_)
      replace hF := xlet ev10 hF
      refine lv_istore_n (lv' := [(1, .int v10), (0, va_rf (some a0)), (2, .int x2)]) hx hb dX7_latest_37 rfl hl (by decide) (by first | rfl | simp [xrf_cat]) (fun ls hl => ?_)
      obtain ⟨v11, ev11⟩ : ∃ z : Int32, z = (x2 + 1) := ⟨_, rfl⟩
      replace hF := xlet ev11 hF
      refine lv_iinc (v := v11) (lv' := [(2, .int v11), (1, .int v10), (0, va_rf (some a0))]) hx hb dX7_latest_38 hl (k := 2) rfl (by rw [ev11]; rfl) (by decide) (by first | rfl | simp [xrf_cat]) (fun ls hl => ?_)
      refine lv_goto (tgt := 4) hx hb dX7_latest_41 (by decide) ?_
      exact ih v10 v11 _ _ _ hF hR hS (lv_sub hl [2, 1, 0] rfl)
def F_X7_latest (G : Nat → Nat) (h : xH) (a0 : Nat) : Option Int32 :=
  F_X7_latest_4 G h a0 xN 0 0
set_option maxHeartbeats 4000000 in
set_option maxRecDepth 100000 in
theorem t_X7_latest (l : Launch) (D : va_G) (G : Nat → Nat) (h : xH) (a0 : Nat) (r : Int32) (hF : F_X7_latest G h a0 = some r) : xC l yX7_latest cX7_latest 3 (some .int) rm_X7_latest D G h [.ref a0] (some (.int r)) h := by
  refine xC_of (by decide) (by first | decide | exact Nat.le_of_ble_eq_true rfl) ?_
  intro p e s m args below meth c ls hx hb hr hlk hml hown hnm hts hR hS hl
  have hl : lv_has ls 3 [(0, va_rf (some a0))] := hl
  unfold F_X7_latest at hF
  refine lv_iconst (v := 0) hx hb dX7_latest_0 (by decide) ?_
  refine lv_istore_n (lv' := [(1, .int 0), (0, va_rf (some a0))]) hx hb dX7_latest_1 rfl hl (by decide) (by first | rfl | simp [xrf_cat]) (fun ls hl => ?_)
  refine lv_iconst (v := 0) hx hb dX7_latest_2 (by decide) ?_
  refine lv_istore_n (lv' := [(2, .int 0), (1, .int 0), (0, va_rf (some a0))]) hx hb dX7_latest_3 rfl hl (by decide) (by first | rfl | simp [xrf_cat]) (fun ls hl => ?_)
  refine W.widen (k := 0) (n := 0) (by decide) (by decide) ?_
  exact tl_X7_latest_4 hx hb hr hlk hml hown hnm hts G h a0 _ 0 0 _ _ _ hF hR hS (lv_sub hl [2, 1, 0] rfl)
def rm_X8_take : Room := { frames := 1, cells := 0, slots := 0, locals := 23 }
theorem f_X8_take : xM yX8_take cX8_take 5 none 4 := ⟨mm_393, mm_70, by decide +kernel, by decide +kernel⟩
theorem dX8_take_0 : decode cX8_take 0 = .ok (.iload_n 1, 1) := by decide +kernel
theorem dX8_take_1 : decode cX8_take 1 = .ok (.ifCond .lt 49, 3) := by decide +kernel
theorem dX8_take_4 : decode cX8_take 4 = .ok (.iload_n 1, 1) := by decide +kernel
theorem dX8_take_5 : decode cX8_take 5 = .ok (.sipush 200, 3) := by decide +kernel
theorem dX8_take_8 : decode cX8_take 8 = .ok (.if_icmp .ge 42, 3) := by decide +kernel
theorem dX8_take_11 : decode cX8_take 11 = .ok (.iload_n 2, 1) := by decide +kernel
theorem dX8_take_12 : decode cX8_take 12 = .ok (.ifCond .lt 38, 3) := by decide +kernel
theorem dX8_take_15 : decode cX8_take 15 = .ok (.iload_n 2, 1) := by decide +kernel
theorem dX8_take_16 : decode cX8_take 16 = .ok (.sipush 601, 3) := by decide +kernel
theorem dX8_take_19 : decode cX8_take 19 = .ok (.if_icmp .ge 31, 3) := by decide +kernel
theorem dX8_take_22 : decode cX8_take 22 = .ok (.aload_n 0, 1) := by decide +kernel
theorem dX8_take_23 : decode cX8_take 23 = .ok (.getfield 15, 3) := by decide +kernel
theorem dX8_take_26 : decode cX8_take 26 = .ok (.iload_n 1, 1) := by decide +kernel
theorem dX8_take_27 : decode cX8_take 27 = .ok (.iconst 1, 1) := by decide +kernel
theorem dX8_take_28 : decode cX8_take 28 = .ok (.bastore, 1) := by decide +kernel
theorem dX8_take_29 : decode cX8_take 29 = .ok (.aload_n 0, 1) := by decide +kernel
theorem dX8_take_30 : decode cX8_take 30 = .ok (.getfield 9, 3) := by decide +kernel
theorem dX8_take_33 : decode cX8_take 33 = .ok (.iload_n 2, 1) := by decide +kernel
theorem dX8_take_34 : decode cX8_take 34 = .ok (.dup2, 1) := by decide +kernel
theorem dX8_take_35 : decode cX8_take 35 = .ok (.iaload, 1) := by decide +kernel
theorem dX8_take_36 : decode cX8_take 36 = .ok (.iload_n 3, 1) := by decide +kernel
theorem dX8_take_37 : decode cX8_take 37 = .ok (.iadd, 1) := by decide +kernel
theorem dX8_take_38 : decode cX8_take 38 = .ok (.iastore, 1) := by decide +kernel
theorem dX8_take_39 : decode cX8_take 39 = .ok (.aload_n 0, 1) := by decide +kernel
theorem dX8_take_40 : decode cX8_take 40 = .ok (.getfield 19, 3) := by decide +kernel
theorem dX8_take_43 : decode cX8_take 43 = .ok (.iload_n 2, 1) := by decide +kernel
theorem dX8_take_44 : decode cX8_take 44 = .ok (.iload_n 3, 1) := by decide +kernel
theorem dX8_take_45 : decode cX8_take 45 = .ok (.iload 4, 2) := by decide +kernel
theorem dX8_take_47 : decode cX8_take 47 = .ok (.invokevirtual 34, 3) := by decide +kernel
theorem dX8_take_50 : decode cX8_take 50 = .ok (.return_, 1) := by decide +kernel
def F_X8_take (G : Nat → Nat) (h : xH) (a0 : Nat) (x1 : Int32) (x2 : Int32) (x3 : Int32) (x4 : Int32) : Option xH :=
  if x1 < 0 then
    some h
  else
  if 200 ≤ x1 then
    some h
  else
  if x2 < 0 then
    some h
  else
  if 601 ≤ x2 then
    some h
  else
  (gR h (some a0) 8 4).bind fun w5 =>
  (stI 3 G h w5 x1 (vp_nar .boolean 1)).bind fun h6 =>
  (gR h6 (some a0) 8 3).bind fun w7 =>
  (ldI 2 G h6 w7 x2).bind fun v8 =>
  (stI 2 G h6 w7 x2 (v8 + x3)).bind fun h9 =>
  (gR h9 (some a0) 8 1).bind fun w10 =>
  (xc h9 w10 7).bind fun b12 =>
  (F_X7_add G h9 b12 x2 x3 x4).bind fun h11 =>
  some h11
set_option maxHeartbeats 4000000 in
set_option maxRecDepth 100000 in
theorem t_X8_take (l : Launch) (D : va_G) (G : Nat → Nat) (h : xH) (a0 : Nat) (x1 : Int32) (x2 : Int32) (x3 : Int32) (x4 : Int32) (h' : xH) (hF : F_X8_take G h a0 x1 x2 x3 x4 = some h') : xC l yX8_take cX8_take 5 none rm_X8_take D G h [.ref a0, .int x1, .int x2, .int x3, .int x4] none h' := by
  refine xC_of (by decide) (by first | decide | exact Nat.le_of_ble_eq_true rfl) ?_
  intro p e s m args below meth c ls hx hb hr hlk hml hown hnm hts hR hS hl
  have hl : lv_has ls 5 [(0, va_rf (some a0)), (1, .int x1), (2, .int x2), (3, .int x3), (4, .int x4)] := hl
  unfold F_X8_take at hF
  refine lv_iload_n hx hb dX8_take_0 rfl (lv_at hl 1 rfl) ?_
  refine lv_if_lt (tgt := 50) hx hb dX8_take_1 (by decide) (fun c1 => ?_) (fun c1 => ?_)
  · replace hF := xift c1 hF
    cases hF
    exact x_vret hx hb hr hlk hR hS (by decide) (by decide) dX8_take_50
  · replace hF := xiff c1 hF
    refine lv_iload_n hx hb dX8_take_4 rfl (lv_at hl 1 rfl) ?_
    refine lv_sipush (v := 200) hx hb dX8_take_5 (by decide) ?_
    refine lv_icmp_ge (tgt := 50) hx hb dX8_take_8 (by decide) (fun c2 => ?_) (fun c2 => ?_)
    · replace hF := xift c2 hF
      cases hF
      exact x_vret hx hb hr hlk hR hS (by decide) (by decide) dX8_take_50
    · replace hF := xiff c2 hF
      refine lv_iload_n hx hb dX8_take_11 rfl (lv_at hl 2 rfl) ?_
      refine lv_if_lt (tgt := 50) hx hb dX8_take_12 (by decide) (fun c3 => ?_) (fun c3 => ?_)
      · replace hF := xift c3 hF
        cases hF
        exact x_vret hx hb hr hlk hR hS (by decide) (by decide) dX8_take_50
      · replace hF := xiff c3 hF
        refine lv_iload_n hx hb dX8_take_15 rfl (lv_at hl 2 rfl) ?_
        refine lv_sipush (v := 601) hx hb dX8_take_16 (by decide) ?_
        refine lv_icmp_ge (tgt := 50) hx hb dX8_take_19 (by decide) (fun c4 => ?_) (fun c4 => ?_)
        · replace hF := xift c4 hF
          cases hF
          exact x_vret hx hb hr hlk hR hS (by decide) (by decide) dX8_take_50
        · replace hF := xiff c4 hF
          refine x_aload_n (o := (some a0)) hx hb dX8_take_22 rfl (lv_at hl 0 rfl) ?_
          replace hF := xbind hF; obtain ⟨w5, ew5, hF⟩ := hF
          refine x_getR (o := (some a0)) (ci := 8) (C := RX8) (T := TX8) (N := 5) hx hb hts iw_X8 hown hR rfl 4 (by decide) mm_361 (Or.inl rfl) ew5 dX8_take_23 ?_
          refine lv_iload_n hx hb dX8_take_26 rfl (lv_at hl 1 rfl) ?_
          refine lv_iconst (v := 1) hx hb dX8_take_27 (by decide) ?_
          replace hF := xbind hF; obtain ⟨h6, eh6, hF⟩ := hF
          refine x_zst (o := w5) hx hb hR hS eh6 dX8_take_28 (fun H locs hR hS => ?_)
          refine x_aload_n (o := (some a0)) hx hb dX8_take_29 rfl (lv_at hl 0 rfl) ?_
          replace hF := xbind hF; obtain ⟨w7, ew7, hF⟩ := hF
          refine x_getR (o := (some a0)) (ci := 8) (C := RX8) (T := TX8) (N := 5) hx hb hts iw_X8 hown hR rfl 3 (by decide) mm_360 (Or.inl rfl) ew7 dX8_take_30 ?_
          refine lv_iload_n hx hb dX8_take_33 rfl (lv_at hl 2 rfl) ?_
          refine lv_dup2_11 hx hb dX8_take_34 rfl xrf_cat ?_
          replace hF := xbind hF; obtain ⟨v8, ev8, hF⟩ := hF
          refine x_ild (o := w7) hx hb hR ev8 dX8_take_35 ?_
          refine lv_iload_n hx hb dX8_take_36 rfl (lv_at hl 3 rfl) ?_
          refine lv_iadd hx hb dX8_take_37 ?_
          replace hF := xbind hF; obtain ⟨h9, eh9, hF⟩ := hF
          refine x_ist (o := w7) hx hb hR hS eh9 dX8_take_38 (fun H locs hR hS => ?_)
          refine x_aload_n (o := (some a0)) hx hb dX8_take_39 rfl (lv_at hl 0 rfl) ?_
          replace hF := xbind hF; obtain ⟨w10, ew10, hF⟩ := hF
          refine x_getR (o := (some a0)) (ci := 8) (C := RX8) (T := TX8) (N := 5) hx hb hts iw_X8 hown hR rfl 1 (by decide) mm_358 (Or.inl rfl) ew10 dX8_take_40 ?_
          refine lv_iload_n hx hb dX8_take_43 rfl (lv_at hl 2 rfl) ?_
          refine lv_iload_n hx hb dX8_take_44 rfl (lv_at hl 3 rfl) ?_
          refine lv_iload hx hb dX8_take_45 (lv_at hl 4 rfl) ?_
          replace hF := xbind hF; obtain ⟨b12, eb12, hF⟩ := hF
          replace hF := xbind hF; obtain ⟨h11, eh11, hF⟩ := hF
          refine x_callV (o := w10) (ci := 7) (As := [.int x2, .int x3, .int x4]) (rest := []) (v := none) (k := 3) hx hb hml hown hts hR hS eb12 rfl rfl (t_X7_add l D G h9 b12 x2 x3 x4 h11 eh11) f_X7_add mm_394 mm_395 mm_396 rfl hl.1 rfl (by first | exact Nat.le_of_ble_eq_true rfl | simp [xrf_cat, xcI, xcJ, xcA]) dX8_take_47 (by decide) (by decide) rfl (fun H locs hR hS => ?_)
          cases hF
          exact x_vret hx hb hr hlk hR hS (by decide) (by decide) dX8_take_50
end
section
def rm_X6_init : Room := { frames := 1, cells := 1, slots := 601, locals := 20 }
theorem f_X6_init : xM yX6_init cX6_init 5 none 4 := ⟨mm_410, mm_71, by decide +kernel, by decide +kernel⟩
theorem dX6_init_0 : decode cX6_init 0 = .ok (.aload_n 0, 1) := by decide +kernel
theorem dX6_init_1 : decode cX6_init 1 = .ok (.invokespecial 3, 3) := by decide +kernel
theorem dX6_init_4 : decode cX6_init 4 = .ok (.aload_n 0, 1) := by decide +kernel
theorem dX6_init_5 : decode cX6_init 5 = .ok (.sipush 601, 3) := by decide +kernel
theorem dX6_init_8 : decode cX6_init 8 = .ok (.newarray .boolean, 2) := by decide +kernel
theorem dX6_init_10 : decode cX6_init 10 = .ok (.putfield 9, 3) := by decide +kernel
theorem dX6_init_13 : decode cX6_init 13 = .ok (.aload_n 0, 1) := by decide +kernel
theorem dX6_init_14 : decode cX6_init 14 = .ok (.aload_n 1, 1) := by decide +kernel
theorem dX6_init_15 : decode cX6_init 15 = .ok (.putfield 15, 3) := by decide +kernel
theorem dX6_init_18 : decode cX6_init 18 = .ok (.aload_n 0, 1) := by decide +kernel
theorem dX6_init_19 : decode cX6_init 19 = .ok (.iload_n 2, 1) := by decide +kernel
theorem dX6_init_20 : decode cX6_init 20 = .ok (.putfield 19, 3) := by decide +kernel
theorem dX6_init_23 : decode cX6_init 23 = .ok (.aload_n 0, 1) := by decide +kernel
theorem dX6_init_24 : decode cX6_init 24 = .ok (.iload_n 3, 1) := by decide +kernel
theorem dX6_init_25 : decode cX6_init 25 = .ok (.putfield 23, 3) := by decide +kernel
theorem dX6_init_28 : decode cX6_init 28 = .ok (.aload_n 0, 1) := by decide +kernel
theorem dX6_init_29 : decode cX6_init 29 = .ok (.iload 4, 2) := by decide +kernel
theorem dX6_init_31 : decode cX6_init 31 = .ok (.putfield 26, 3) := by decide +kernel
theorem dX6_init_34 : decode cX6_init 34 = .ok (.return_, 1) := by decide +kernel
def F_X6_init (G : Nat → Nat) (h : xH) (a0 : Nat) (a1 : Nat) (x2 : Int32) (x3 : Int32) (x4 : Int32) : Option xH :=
  (nAZ G h 601).bind fun (q1, h2) =>
  (xp G h2 (some a0) 6 4 (va_rf (some q1))).bind fun h3 =>
  (xp G h3 (some a0) 6 0 (va_rf (some a1))).bind fun h4 =>
  (xp G h4 (some a0) 6 1 (.int x2)).bind fun h5 =>
  (xp G h5 (some a0) 6 2 (.int x3)).bind fun h6 =>
  xg (x4 = 0 ∨ x4 = 1) <|
  (xp G h6 (some a0) 6 3 (.int x4)).bind fun h8 =>
  some h8
set_option maxHeartbeats 4000000 in
set_option maxRecDepth 100000 in
theorem t_X6_init (l : Launch) (D : va_G) (G : Nat → Nat) (h : xH) (a0 : Nat) (a1 : Nat) (x2 : Int32) (x3 : Int32) (x4 : Int32) (h' : xH) (hF : F_X6_init G h a0 a1 x2 x3 x4 = some h') : xC l yX6_init cX6_init 5 none rm_X6_init D G h [.ref a0, .ref a1, .int x2, .int x3, .int x4] none h' := by
  refine xC_of (by decide) (by first | decide | exact Nat.le_of_ble_eq_true rfl) ?_
  intro p e s m args below meth c ls hx hb hr hlk hml hown hnm hts hR hS hl
  have hl : lv_has ls 5 [(0, va_rf (some a0)), (1, va_rf (some a1)), (2, .int x2), (3, .int x3), (4, .int x4)] := hl
  unfold F_X6_init at hF
  refine x_aload_n (o := (some a0)) hx hb dX6_init_0 rfl (lv_at hl 0 rfl) ?_
  refine x_oinit (o := (some a0)) hx hb hown (hml.trans hl.1.symm) hts mm_411 mm_86 mm_87 rfl dX6_init_1 (by decide) (by decide) (by decide) ?_
  refine x_aload_n (o := (some a0)) hx hb dX6_init_4 rfl (lv_at hl 0 rfl) ?_
  refine lv_sipush (v := 601) hx hb dX6_init_5 (by decide) ?_
  replace hF := xbind hF; obtain ⟨⟨q1, h2⟩, eq1, hF⟩ := hF
  refine x_nAZ hx hb hts mm_373 hR hS (by decide) (by decide) (by decide) (by decide) (by decide) eq1 dX6_init_8 (fun H hR hS => ?_)
  replace hF := xbind hF; obtain ⟨h3, eh3, hF⟩ := hF
  refine x_putF (o := (some a0)) (ci := 6) (C := RX6) (T := TX6) (N := 6) hx hb hts iw_X6 tyX6_ok nmX6 hown hR hS rfl 4 (by decide) mm_418 (Or.inl rfl) rfl hnm rfl xnarRA xfitRA eh3 dX6_init_10 (fun H locs hR hS => ?_)
  refine x_aload_n (o := (some a0)) hx hb dX6_init_13 rfl (lv_at hl 0 rfl) ?_
  refine x_aload_n (o := (some a1)) hx hb dX6_init_14 rfl (lv_at hl 1 rfl) ?_
  replace hF := xbind hF; obtain ⟨h4, eh4, hF⟩ := hF
  refine x_putF (o := (some a0)) (ci := 6) (C := RX6) (T := TX6) (N := 6) hx hb hts iw_X6 tyX6_ok nmX6 hown hR hS rfl 0 (by decide) mm_412 (Or.inl rfl) rfl hnm rfl xnarR xfitR eh4 dX6_init_15 (fun H locs hR hS => ?_)
  refine x_aload_n (o := (some a0)) hx hb dX6_init_18 rfl (lv_at hl 0 rfl) ?_
  refine lv_iload_n hx hb dX6_init_19 rfl (lv_at hl 2 rfl) ?_
  replace hF := xbind hF; obtain ⟨h5, eh5, hF⟩ := hF
  refine x_putF (o := (some a0)) (ci := 6) (C := RX6) (T := TX6) (N := 6) hx hb hts iw_X6 tyX6_ok nmX6 hown hR hS rfl 1 (by decide) mm_415 (Or.inl rfl) rfl hnm rfl rfl rfl eh5 dX6_init_20 (fun H locs hR hS => ?_)
  refine x_aload_n (o := (some a0)) hx hb dX6_init_23 rfl (lv_at hl 0 rfl) ?_
  refine lv_iload_n hx hb dX6_init_24 rfl (lv_at hl 3 rfl) ?_
  replace hF := xbind hF; obtain ⟨h6, eh6, hF⟩ := hF
  refine x_putF (o := (some a0)) (ci := 6) (C := RX6) (T := TX6) (N := 6) hx hb hts iw_X6 tyX6_ok nmX6 hown hR hS rfl 2 (by decide) mm_416 (Or.inl rfl) rfl hnm rfl rfl rfl eh6 dX6_init_25 (fun H locs hR hS => ?_)
  refine x_aload_n (o := (some a0)) hx hb dX6_init_28 rfl (lv_at hl 0 rfl) ?_
  refine lv_iload hx hb dX6_init_29 (lv_at hl 4 rfl) ?_
  replace hF := xguard hF; obtain ⟨c7, hF⟩ := hF
  replace hF := xbind hF; obtain ⟨h8, eh8, hF⟩ := hF
  refine x_putF (o := (some a0)) (ci := 6) (C := RX6) (T := TX6) (N := 6) hx hb hts iw_X6 tyX6_ok nmX6 hown hR hS rfl 3 (by decide) mm_417 (Or.inl rfl) rfl hnm rfl (xnarZ c7) (xfitZ c7) eh8 dX6_init_31 (fun H locs hR hS => ?_)
  cases hF
  exact x_vret hx hb hr hlk hR hS (by decide) (by decide) dX6_init_34
def rm_X6_leaveOut : Room := { frames := 1, cells := 0, slots := 0, locals := 23 }
theorem f_X6_leaveOut : xM yX6_leaveOut cX6_leaveOut 4 (some .boolean) 2 := ⟨mm_444, mm_71, by decide +kernel, by decide +kernel⟩
theorem dX6_leaveOut_0 : decode cX6_leaveOut 0 = .ok (.aload_n 0, 1) := by decide +kernel
theorem dX6_leaveOut_1 : decode cX6_leaveOut 1 = .ok (.getfield 30, 3) := by decide +kernel
theorem dX6_leaveOut_4 : decode cX6_leaveOut 4 = .ok (.bipush 10, 2) := by decide +kernel
theorem dX6_leaveOut_6 : decode cX6_leaveOut 6 = .ok (.if_icmp .lt 5, 3) := by decide +kernel
theorem dX6_leaveOut_9 : decode cX6_leaveOut 9 = .ok (.iconst 0, 1) := by decide +kernel
theorem dX6_leaveOut_10 : decode cX6_leaveOut 10 = .ok (.ireturn, 1) := by decide +kernel
theorem dX6_leaveOut_11 : decode cX6_leaveOut 11 = .ok (.aload_n 0, 1) := by decide +kernel
theorem dX6_leaveOut_12 : decode cX6_leaveOut 12 = .ok (.dup, 1) := by decide +kernel
theorem dX6_leaveOut_13 : decode cX6_leaveOut 13 = .ok (.getfield 30, 3) := by decide +kernel
theorem dX6_leaveOut_16 : decode cX6_leaveOut 16 = .ok (.iconst 1, 1) := by decide +kernel
theorem dX6_leaveOut_17 : decode cX6_leaveOut 17 = .ok (.iadd, 1) := by decide +kernel
theorem dX6_leaveOut_18 : decode cX6_leaveOut 18 = .ok (.putfield 30, 3) := by decide +kernel
theorem dX6_leaveOut_21 : decode cX6_leaveOut 21 = .ok (.iload_n 1, 1) := by decide +kernel
theorem dX6_leaveOut_22 : decode cX6_leaveOut 22 = .ok (.iconst 0, 1) := by decide +kernel
theorem dX6_leaveOut_23 : decode cX6_leaveOut 23 = .ok (.invokestatic 33, 3) := by decide +kernel
theorem dX6_leaveOut_26 : decode cX6_leaveOut 26 = .ok (.istore_n 3, 1) := by decide +kernel
theorem dX6_leaveOut_27 : decode cX6_leaveOut 27 = .ok (.iload_n 3, 1) := by decide +kernel
theorem dX6_leaveOut_28 : decode cX6_leaveOut 28 = .ok (.iload_n 2, 1) := by decide +kernel
theorem dX6_leaveOut_29 : decode cX6_leaveOut 29 = .ok (.if_icmp .gt 23, 3) := by decide +kernel
theorem dX6_leaveOut_32 : decode cX6_leaveOut 32 = .ok (.iload_n 3, 1) := by decide +kernel
theorem dX6_leaveOut_33 : decode cX6_leaveOut 33 = .ok (.sipush 601, 3) := by decide +kernel
theorem dX6_leaveOut_36 : decode cX6_leaveOut 36 = .ok (.if_icmp .ge 16, 3) := by decide +kernel
theorem dX6_leaveOut_39 : decode cX6_leaveOut 39 = .ok (.aload_n 0, 1) := by decide +kernel
theorem dX6_leaveOut_40 : decode cX6_leaveOut 40 = .ok (.getfield 9, 3) := by decide +kernel
theorem dX6_leaveOut_43 : decode cX6_leaveOut 43 = .ok (.iload_n 3, 1) := by decide +kernel
theorem dX6_leaveOut_44 : decode cX6_leaveOut 44 = .ok (.iconst 1, 1) := by decide +kernel
theorem dX6_leaveOut_45 : decode cX6_leaveOut 45 = .ok (.bastore, 1) := by decide +kernel
theorem dX6_leaveOut_46 : decode cX6_leaveOut 46 = .ok (.iinc 3 1, 3) := by decide +kernel
theorem dX6_leaveOut_49 : decode cX6_leaveOut 49 = .ok (.goto (-22), 3) := by decide +kernel
theorem dX6_leaveOut_52 : decode cX6_leaveOut 52 = .ok (.iconst 1, 1) := by decide +kernel
theorem dX6_leaveOut_53 : decode cX6_leaveOut 53 = .ok (.ireturn, 1) := by decide +kernel
def F_X6_leaveOut_27 (G : Nat → Nat) (a0 : Nat) (x2 : Int32) : Nat → xH → Int32 → Option (Int32 × xH)
  | 0, _, _ => none
  | n + 1, h, x3 =>
    if x2 < x3 then
      some (1, h)
    else
    if 601 ≤ x3 then
      some (1, h)
    else
    (gR h (some a0) 6 4).bind fun w8 =>
    (stI 3 G h w8 x3 (vp_nar .boolean 1)).bind fun h9 =>
    xl (x3 + 1) fun v10 =>
    F_X6_leaveOut_27 G a0 x2 n h9 v10
set_option maxHeartbeats 4000000 in
set_option maxRecDepth 100000 in
theorem tl_X6_leaveOut_27 {p : Program} {l : Launch} {e : Env} {s : State} {m : MethodId} {args : Array Value} {below : List Frame} {meth : Method} {c : Code} {D : va_G} {r : Int32} {h' : xH} (hx : p.tables.exec = Jvm.exec) (hb : c.code = cX6_leaveOut) (hr : meth.sig.returnType = (some .boolean)) (hlk : meth.locks = false) (hml : c.maxLocals = 4) (hown : s.vm.findClass RX6 = some m.cls) (hnm : meth.name = "leaveOut") (hts : ∀ w ∈ xt, w.before args s = true) (G : Nat → Nat) (a0 : Nat) (x2 : Int32) : ∀ (n : Nat) (h : xH) (x3 : Int32) (H : Heap) (locs : List Loc) (ls : Array Slot), F_X6_leaveOut_27 G a0 x2 n h x3 = some (r, h') → xR D G h s H → va_S (xA G) s.heap H locs → lv_has ls 4 [(0, va_rf (some a0)), (2, .int x2), (3, .int x3)] → W p l e rm_X6_leaveOut s m args below meth c H locs 0 0 (MQ below (xQ D G (some (.int r)) h') args s rm_X6_leaveOut.cells rm_X6_leaveOut.slots (xA G)) (F0 m 27 ls []) := by
  intro n
  induction n with
  | zero =>
    intro h x3 H locs ls hF
    rw [F_X6_leaveOut_27.eq_1] at hF
    cases hF
  | succ n ih =>
    intro h x3 H locs ls hF hR hS hl
    rw [F_X6_leaveOut_27.eq_2] at hF
    refine lv_iload_n hx hb dX6_leaveOut_27 rfl (lv_at hl 2 rfl) ?_
    refine lv_iload_n hx hb dX6_leaveOut_28 rfl (lv_at hl 1 rfl) ?_
    refine lv_icmp_gt (tgt := 52) hx hb dX6_leaveOut_29 (by decide) (fun c6 => ?_) (fun c6 => ?_)
    · replace hF := xift c6 hF
      refine lv_iconst (v := 1) hx hb dX6_leaveOut_52 (by decide) ?_
      cases hF
      exact x_iret hx hb hr rfl hlk hR hS (by decide) (by decide) dX6_leaveOut_53
    · replace hF := xiff c6 hF
      refine lv_iload_n hx hb dX6_leaveOut_32 rfl (lv_at hl 2 rfl) ?_
      refine lv_sipush (v := 601) hx hb dX6_leaveOut_33 (by decide) ?_
      refine lv_icmp_ge (tgt := 52) hx hb dX6_leaveOut_36 (by decide) (fun c7 => ?_) (fun c7 => ?_)
      · replace hF := xift c7 hF
        refine lv_iconst (v := 1) hx hb dX6_leaveOut_52 (by decide) ?_
        cases hF
        exact x_iret hx hb hr rfl hlk hR hS (by decide) (by decide) dX6_leaveOut_53
      · replace hF := xiff c7 hF
        refine x_aload_n (o := (some a0)) hx hb dX6_leaveOut_39 rfl (lv_at hl 0 rfl) ?_
        replace hF := xbind hF; obtain ⟨w8, ew8, hF⟩ := hF
        refine x_getR (o := (some a0)) (ci := 6) (C := RX6) (T := TX6) (N := 6) hx hb hts iw_X6 hown hR rfl 4 (by decide) mm_418 (Or.inl rfl) ew8 dX6_leaveOut_40 ?_
        refine lv_iload_n hx hb dX6_leaveOut_43 rfl (lv_at hl 2 rfl) ?_
        refine lv_iconst (v := 1) hx hb dX6_leaveOut_44 (by decide) ?_
        replace hF := xbind hF; obtain ⟨h9, eh9, hF⟩ := hF
        refine x_zst (o := w8) hx hb hR hS eh9 dX6_leaveOut_45 (fun H locs hR hS => ?_)
        obtain ⟨v10, ev10⟩ : ∃ z : Int32, z = (x3 + 1) := ⟨_, rfl⟩
        replace hF := xlet ev10 hF
        refine lv_iinc (v := v10) (lv' := [(3, .int v10), (0, va_rf (some a0)), (2, .int x2)]) hx hb dX6_leaveOut_46 hl (k := 2) rfl (by rw [ev10]; rfl) (by decide) (by first | rfl | simp [xrf_cat]) (fun ls hl => ?_)
        refine lv_goto (tgt := 27) hx hb dX6_leaveOut_49 (by decide) ?_
        exact ih h9 v10 _ _ _ hF hR hS (lv_sub hl [1, 2, 0] rfl)
def F_X6_leaveOut (G : Nat → Nat) (h : xH) (a0 : Nat) (x1 : Int32) (x2 : Int32) : Option (Int32 × xH) :=
  (gI h (some a0) 6 5).bind fun v1 =>
  if v1 < 10 then
    (gI h (some a0) 6 5).bind fun v3 =>
    (xp G h (some a0) 6 5 (.int (v3 + 1))).bind fun h4 =>
    xl (xmax x1 0) fun v5 =>
    F_X6_leaveOut_27 G a0 x2 xN h4 v5
  else
  some (0, h)
set_option maxHeartbeats 4000000 in
set_option maxRecDepth 100000 in
theorem t_X6_leaveOut (l : Launch) (D : va_G) (G : Nat → Nat) (h : xH) (a0 : Nat) (x1 : Int32) (x2 : Int32) (r : Int32) (h' : xH) (hF : F_X6_leaveOut G h a0 x1 x2 = some (r, h')) : xC l yX6_leaveOut cX6_leaveOut 4 (some .boolean) rm_X6_leaveOut D G h [.ref a0, .int x1, .int x2] (some (.int r)) h' := by
  refine xC_of (by decide) (by first | decide | exact Nat.le_of_ble_eq_true rfl) ?_
  intro p e s m args below meth c ls hx hb hr hlk hml hown hnm hts hR hS hl
  have hl : lv_has ls 4 [(0, va_rf (some a0)), (1, .int x1), (2, .int x2)] := hl
  unfold F_X6_leaveOut at hF
  refine x_aload_n (o := (some a0)) hx hb dX6_leaveOut_0 rfl (lv_at hl 0 rfl) ?_
  replace hF := xbind hF; obtain ⟨v1, ev1, hF⟩ := hF
  refine x_getI (o := (some a0)) (ci := 6) (C := RX6) (T := TX6) (N := 6) hx hb hts iw_X6 hown hR rfl 5 (by decide) mm_419 (Or.inl rfl) ev1 dX6_leaveOut_1 ?_
  refine lv_bipush (v := 10) hx hb dX6_leaveOut_4 (by decide) ?_
  refine lv_icmp_lt (tgt := 11) hx hb dX6_leaveOut_6 (by decide) (fun c2 => ?_) (fun c2 => ?_)
  · replace hF := xift c2 hF
    refine x_aload_n (o := (some a0)) hx hb dX6_leaveOut_11 rfl (lv_at hl 0 rfl) ?_
    refine lv_dup hx hb dX6_leaveOut_12 xrf_cat ?_
    replace hF := xbind hF; obtain ⟨v3, ev3, hF⟩ := hF
    refine x_getI (o := (some a0)) (ci := 6) (C := RX6) (T := TX6) (N := 6) hx hb hts iw_X6 hown hR rfl 5 (by decide) mm_419 (Or.inl rfl) ev3 dX6_leaveOut_13 ?_
    refine lv_iconst (v := 1) hx hb dX6_leaveOut_16 (by decide) ?_
    refine lv_iadd hx hb dX6_leaveOut_17 ?_
    replace hF := xbind hF; obtain ⟨h4, eh4, hF⟩ := hF
    refine x_put (o := (some a0)) (ci := 6) (C := RX6) (T := TX6) (N := 6) hx hb hts iw_X6 tyX6_ok nmX6 hown hR hS rfl 5 (by decide) mm_419 (Or.inl rfl) rfl rfl rfl eh4 dX6_leaveOut_18 (fun H locs hR hS => ?_)
    refine lv_iload_n hx hb dX6_leaveOut_21 rfl (lv_at hl 1 rfl) ?_
    refine lv_iconst (v := 0) hx hb dX6_leaveOut_22 (by decide) ?_
    refine x_max hx hb (hml.trans hl.1.symm) hown hts mm_445 mm_280 mm_65 mm_281 (by decide) (by first | exact Nat.le_of_ble_eq_true rfl | simp [xrf_cat, xcI, xcJ, xcA]) (by decide) (by decide) dX6_leaveOut_23 ?_
    refine lv_topi (fun v5 ev5 => ?_)
    replace hF := xlet ev5 hF
    refine lv_istore_n (lv' := [(3, .int v5), (0, va_rf (some a0)), (1, .int x1), (2, .int x2)]) hx hb dX6_leaveOut_26 rfl hl (by decide) (by first | rfl | simp [xrf_cat]) (fun ls hl => ?_)
    refine W.widen (k := 0) (n := 0) (by decide) (by decide) ?_
    exact tl_X6_leaveOut_27 hx hb hr hlk hml hown hnm hts G a0 x2 _ h4 v5 _ _ _ hF hR hS (lv_sub hl [1, 3, 0] rfl)
  · replace hF := xiff c2 hF
    refine lv_iconst (v := 0) hx hb dX6_leaveOut_9 (by decide) ?_
    cases hF
    exact x_iret hx hb hr rfl hlk hR hS (by decide) (by decide) dX6_leaveOut_10
def rm_X6_slack : Room := { frames := 0, cells := 0, slots := 0, locals := 0 }
theorem f_X6_slack : xM yX6_slack cX6_slack 1 (some .int) 0 := ⟨mm_523, mm_71, by decide +kernel, by decide +kernel⟩
theorem dX6_slack_0 : decode cX6_slack 0 = .ok (.sipush 1000, 3) := by decide +kernel
theorem dX6_slack_3 : decode cX6_slack 3 = .ok (.aload_n 0, 1) := by decide +kernel
theorem dX6_slack_4 : decode cX6_slack 4 = .ok (.getfield 23, 3) := by decide +kernel
theorem dX6_slack_7 : decode cX6_slack 7 = .ok (.isub, 1) := by decide +kernel
theorem dX6_slack_8 : decode cX6_slack 8 = .ok (.ireturn, 1) := by decide +kernel
def F_X6_slack (G : Nat → Nat) (h : xH) (a0 : Nat) : Option Int32 :=
  (gI h (some a0) 6 2).bind fun v1 =>
  some (1000 - v1)
set_option maxHeartbeats 4000000 in
set_option maxRecDepth 100000 in
theorem t_X6_slack (l : Launch) (D : va_G) (G : Nat → Nat) (h : xH) (a0 : Nat) (r : Int32) (hF : F_X6_slack G h a0 = some r) : xC l yX6_slack cX6_slack 1 (some .int) rm_X6_slack D G h [.ref a0] (some (.int r)) h := by
  refine xC_of (by decide) (by first | decide | exact Nat.le_of_ble_eq_true rfl) ?_
  intro p e s m args below meth c ls hx hb hr hlk hml hown hnm hts hR hS hl
  have hl : lv_has ls 1 [(0, va_rf (some a0))] := hl
  unfold F_X6_slack at hF
  refine lv_sipush (v := 1000) hx hb dX6_slack_0 (by decide) ?_
  refine x_aload_n (o := (some a0)) hx hb dX6_slack_3 rfl (lv_at hl 0 rfl) ?_
  replace hF := xbind hF; obtain ⟨v1, ev1, hF⟩ := hF
  refine x_getI (o := (some a0)) (ci := 6) (C := RX6) (T := TX6) (N := 6) hx hb hts iw_X6 hown hR rfl 2 (by decide) mm_416 (Or.inl rfl) ev1 dX6_slack_4 ?_
  refine lv_isub hx hb dX6_slack_7 ?_
  cases hF
  exact x_iret hx hb hr rfl hlk hR hS (by decide) (by decide) dX6_slack_8
def rm_X6_leftOf : Room := { frames := 1, cells := 0, slots := 0, locals := 20 }
theorem f_X6_leftOf : xM yX6_leftOf cX6_leftOf 3 (some .int) 2 := ⟨mm_519, mm_71, by decide +kernel, by decide +kernel⟩
theorem dX6_leftOf_0 : decode cX6_leftOf 0 = .ok (.iload_n 1, 1) := by decide +kernel
theorem dX6_leftOf_1 : decode cX6_leftOf 1 = .ok (.i2l, 1) := by decide +kernel
theorem dX6_leftOf_2 : decode cX6_leftOf 2 = .ok (.aload_n 0, 1) := by decide +kernel
theorem dX6_leftOf_3 : decode cX6_leftOf 3 = .ok (.invokevirtual 98, 3) := by decide +kernel
theorem dX6_leftOf_6 : decode cX6_leftOf 6 = .ok (.i2l, 1) := by decide +kernel
theorem dX6_leftOf_7 : decode cX6_leftOf 7 = .ok (.lmul, 1) := by decide +kernel
theorem dX6_leftOf_8 : decode cX6_leftOf 8 = .ok (.ldc2_w 101, 3) := by decide +kernel
theorem dX6_leftOf_11 : decode cX6_leftOf 11 = .ok (.ldiv, 1) := by decide +kernel
theorem dX6_leftOf_12 : decode cX6_leftOf 12 = .ok (.l2i, 1) := by decide +kernel
theorem dX6_leftOf_13 : decode cX6_leftOf 13 = .ok (.iload_n 2, 1) := by decide +kernel
theorem dX6_leftOf_14 : decode cX6_leftOf 14 = .ok (.isub, 1) := by decide +kernel
theorem dX6_leftOf_15 : decode cX6_leftOf 15 = .ok (.ireturn, 1) := by decide +kernel
def F_X6_leftOf (G : Nat → Nat) (h : xH) (a0 : Nat) (x1 : Int32) (x2 : Int32) : Option Int32 :=
  (xc h (some a0) 6).bind fun b2 =>
  (F_X6_slack G h b2).bind fun v1 =>
  some (((((((x1 : Int32).toInt64) * ((v1 : Int32).toInt64)) / 1000) : Int64).toInt32) - x2)
set_option maxHeartbeats 4000000 in
set_option maxRecDepth 100000 in
theorem t_X6_leftOf (l : Launch) (D : va_G) (G : Nat → Nat) (h : xH) (a0 : Nat) (x1 : Int32) (x2 : Int32) (r : Int32) (hF : F_X6_leftOf G h a0 x1 x2 = some r) : xC l yX6_leftOf cX6_leftOf 3 (some .int) rm_X6_leftOf D G h [.ref a0, .int x1, .int x2] (some (.int r)) h := by
  refine xC_of (by decide) (by first | decide | exact Nat.le_of_ble_eq_true rfl) ?_
  intro p e s m args below meth c ls hx hb hr hlk hml hown hnm hts hR hS hl
  have hl : lv_has ls 3 [(0, va_rf (some a0)), (1, .int x1), (2, .int x2)] := hl
  unfold F_X6_leftOf at hF
  refine lv_iload_n hx hb dX6_leftOf_0 rfl (lv_at hl 1 rfl) ?_
  refine lv_i2l (v := ((x1 : Int32).toInt64)) hx hb dX6_leftOf_1 rfl ?_
  refine x_aload_n (o := (some a0)) hx hb dX6_leftOf_2 rfl (lv_at hl 0 rfl) ?_
  replace hF := xbind hF; obtain ⟨b2, eb2, hF⟩ := hF
  replace hF := xbind hF; obtain ⟨v1, ev1, hF⟩ := hF
  refine x_callV (o := (some a0)) (ci := 6) (As := []) (rest := [.long ((x1 : Int32).toInt64)]) (v := (some (.int v1))) (k := 0) hx hb hml hown hts hR hS eb2 rfl rfl (t_X6_slack l D G h b2 v1 ev1) f_X6_slack mm_520 mm_521 mm_522 rfl hl.1 rfl (by first | exact Nat.le_of_ble_eq_true rfl | simp [xrf_cat, xcI, xcJ, xcA]) dX6_leftOf_3 (by decide) (by decide) rfl (fun H locs hR hS => ?_)
  refine lv_i2l (v := ((v1 : Int32).toInt64)) hx hb dX6_leftOf_6 rfl ?_
  refine lv_lmul hx hb dX6_leftOf_7 ?_
  refine lv_ldc2 hx hb hown (hts _ mm_524) dX6_leftOf_8 ?_
  refine lv_ldiv hx hb dX6_leftOf_11 (by decide) ?_
  refine lv_l2i (v := ((((((x1 : Int32).toInt64) * ((v1 : Int32).toInt64)) / 1000) : Int64).toInt32)) hx hb dX6_leftOf_12 rfl ?_
  refine lv_iload_n hx hb dX6_leftOf_13 rfl (lv_at hl 2 rfl) ?_
  refine lv_isub hx hb dX6_leftOf_14 ?_
  cases hF
  exact x_iret hx hb hr rfl hlk hR hS (by decide) (by decide) dX6_leftOf_15
def rm_X6_firstOfSpan : Room := { frames := 1, cells := 0, slots := 0, locals := 23 }
theorem f_X6_firstOfSpan : xM yX6_firstOfSpan cX6_firstOfSpan 2 (some .int) 1 := ⟨mm_490, mm_71, by decide +kernel, by decide +kernel⟩
theorem dX6_firstOfSpan_0 : decode cX6_firstOfSpan 0 = .ok (.aload_n 0, 1) := by decide +kernel
theorem dX6_firstOfSpan_1 : decode cX6_firstOfSpan 1 = .ok (.getfield 26, 3) := by decide +kernel
theorem dX6_firstOfSpan_4 : decode cX6_firstOfSpan 4 = .ok (.ifCond .ne 16, 3) := by decide +kernel
theorem dX6_firstOfSpan_7 : decode cX6_firstOfSpan 7 = .ok (.iload_n 1, 1) := by decide +kernel
theorem dX6_firstOfSpan_8 : decode cX6_firstOfSpan 8 = .ok (.aload_n 0, 1) := by decide +kernel
theorem dX6_firstOfSpan_9 : decode cX6_firstOfSpan 9 = .ok (.getfield 19, 3) := by decide +kernel
theorem dX6_firstOfSpan_12 : decode cX6_firstOfSpan 12 = .ok (.isub, 1) := by decide +kernel
theorem dX6_firstOfSpan_13 : decode cX6_firstOfSpan 13 = .ok (.iconst 1, 1) := by decide +kernel
theorem dX6_firstOfSpan_14 : decode cX6_firstOfSpan 14 = .ok (.iadd, 1) := by decide +kernel
theorem dX6_firstOfSpan_15 : decode cX6_firstOfSpan 15 = .ok (.iconst 0, 1) := by decide +kernel
theorem dX6_firstOfSpan_16 : decode cX6_firstOfSpan 16 = .ok (.invokestatic 33, 3) := by decide +kernel
theorem dX6_firstOfSpan_19 : decode cX6_firstOfSpan 19 = .ok (.ireturn, 1) := by decide +kernel
theorem dX6_firstOfSpan_20 : decode cX6_firstOfSpan 20 = .ok (.aload_n 0, 1) := by decide +kernel
theorem dX6_firstOfSpan_21 : decode cX6_firstOfSpan 21 = .ok (.getfield 19, 3) := by decide +kernel
theorem dX6_firstOfSpan_24 : decode cX6_firstOfSpan 24 = .ok (.ifCond .le 14, 3) := by decide +kernel
theorem dX6_firstOfSpan_27 : decode cX6_firstOfSpan 27 = .ok (.iload_n 1, 1) := by decide +kernel
theorem dX6_firstOfSpan_28 : decode cX6_firstOfSpan 28 = .ok (.iload_n 1, 1) := by decide +kernel
theorem dX6_firstOfSpan_29 : decode cX6_firstOfSpan 29 = .ok (.aload_n 0, 1) := by decide +kernel
theorem dX6_firstOfSpan_30 : decode cX6_firstOfSpan 30 = .ok (.getfield 19, 3) := by decide +kernel
theorem dX6_firstOfSpan_33 : decode cX6_firstOfSpan 33 = .ok (.irem, 1) := by decide +kernel
theorem dX6_firstOfSpan_34 : decode cX6_firstOfSpan 34 = .ok (.isub, 1) := by decide +kernel
theorem dX6_firstOfSpan_35 : decode cX6_firstOfSpan 35 = .ok (.goto 4, 3) := by decide +kernel
theorem dX6_firstOfSpan_38 : decode cX6_firstOfSpan 38 = .ok (.iload_n 1, 1) := by decide +kernel
theorem dX6_firstOfSpan_39 : decode cX6_firstOfSpan 39 = .ok (.ireturn, 1) := by decide +kernel
def F_X6_firstOfSpan (G : Nat → Nat) (h : xH) (a0 : Nat) (x1 : Int32) : Option Int32 :=
  (gI h (some a0) 6 3).bind fun v1 =>
  if v1 = 0 then
    (gI h (some a0) 6 1).bind fun v7 =>
    some (xmax ((x1 - v7) + 1) 0)
  else
  (gI h (some a0) 6 1).bind fun v3 =>
  if v3 ≤ 0 then
    some x1
  else
  (gI h (some a0) 6 1).bind fun v5 =>
  xg (¬ v5 = 0) <|
  some (x1 - (x1 - x1 / v5 * v5))
set_option maxHeartbeats 4000000 in
set_option maxRecDepth 100000 in
theorem t_X6_firstOfSpan (l : Launch) (D : va_G) (G : Nat → Nat) (h : xH) (a0 : Nat) (x1 : Int32) (r : Int32) (hF : F_X6_firstOfSpan G h a0 x1 = some r) : xC l yX6_firstOfSpan cX6_firstOfSpan 2 (some .int) rm_X6_firstOfSpan D G h [.ref a0, .int x1] (some (.int r)) h := by
  refine xC_of (by decide) (by first | decide | exact Nat.le_of_ble_eq_true rfl) ?_
  intro p e s m args below meth c ls hx hb hr hlk hml hown hnm hts hR hS hl
  have hl : lv_has ls 2 [(0, va_rf (some a0)), (1, .int x1)] := hl
  unfold F_X6_firstOfSpan at hF
  refine x_aload_n (o := (some a0)) hx hb dX6_firstOfSpan_0 rfl (lv_at hl 0 rfl) ?_
  replace hF := xbind hF; obtain ⟨v1, ev1, hF⟩ := hF
  refine x_getI (o := (some a0)) (ci := 6) (C := RX6) (T := TX6) (N := 6) hx hb hts iw_X6 hown hR rfl 3 (by decide) mm_417 (Or.inl rfl) ev1 dX6_firstOfSpan_1 ?_
  refine lv_if_ne (tgt := 20) hx hb dX6_firstOfSpan_4 (by decide) (fun c2 => ?_) (fun c2 => ?_)
  · replace hF := xiff c2 hF
    refine x_aload_n (o := (some a0)) hx hb dX6_firstOfSpan_20 rfl (lv_at hl 0 rfl) ?_
    replace hF := xbind hF; obtain ⟨v3, ev3, hF⟩ := hF
    refine x_getI (o := (some a0)) (ci := 6) (C := RX6) (T := TX6) (N := 6) hx hb hts iw_X6 hown hR rfl 1 (by decide) mm_415 (Or.inl rfl) ev3 dX6_firstOfSpan_21 ?_
    refine lv_if_le (tgt := 38) hx hb dX6_firstOfSpan_24 (by decide) (fun c4 => ?_) (fun c4 => ?_)
    · replace hF := xift c4 hF
      refine lv_iload_n hx hb dX6_firstOfSpan_38 rfl (lv_at hl 1 rfl) ?_
      cases hF
      exact x_iret hx hb hr rfl hlk hR hS (by decide) (by decide) dX6_firstOfSpan_39
    · replace hF := xiff c4 hF
      refine lv_iload_n hx hb dX6_firstOfSpan_27 rfl (lv_at hl 1 rfl) ?_
      refine lv_iload_n hx hb dX6_firstOfSpan_28 rfl (lv_at hl 1 rfl) ?_
      refine x_aload_n (o := (some a0)) hx hb dX6_firstOfSpan_29 rfl (lv_at hl 0 rfl) ?_
      replace hF := xbind hF; obtain ⟨v5, ev5, hF⟩ := hF
      refine x_getI (o := (some a0)) (ci := 6) (C := RX6) (T := TX6) (N := 6) hx hb hts iw_X6 hown hR rfl 1 (by decide) mm_415 (Or.inl rfl) ev5 dX6_firstOfSpan_30 ?_
      replace hF := xguard hF; obtain ⟨c6, hF⟩ := hF
      refine lv_irem hx hb dX6_firstOfSpan_33 c6 ?_
      refine lv_isub hx hb dX6_firstOfSpan_34 ?_
      refine lv_goto (tgt := 39) hx hb dX6_firstOfSpan_35 (by decide) ?_
      cases hF
      exact x_iret hx hb hr rfl hlk hR hS (by decide) (by decide) dX6_firstOfSpan_39
  · replace hF := xift c2 hF
    refine lv_iload_n hx hb dX6_firstOfSpan_7 rfl (lv_at hl 1 rfl) ?_
    refine x_aload_n (o := (some a0)) hx hb dX6_firstOfSpan_8 rfl (lv_at hl 0 rfl) ?_
    replace hF := xbind hF; obtain ⟨v7, ev7, hF⟩ := hF
    refine x_getI (o := (some a0)) (ci := 6) (C := RX6) (T := TX6) (N := 6) hx hb hts iw_X6 hown hR rfl 1 (by decide) mm_415 (Or.inl rfl) ev7 dX6_firstOfSpan_9 ?_
    refine lv_isub hx hb dX6_firstOfSpan_12 ?_
    refine lv_iconst (v := 1) hx hb dX6_firstOfSpan_13 (by decide) ?_
    refine lv_iadd hx hb dX6_firstOfSpan_14 ?_
    refine lv_iconst (v := 0) hx hb dX6_firstOfSpan_15 (by decide) ?_
    refine x_max hx hb (hml.trans hl.1.symm) hown hts mm_445 mm_280 mm_65 mm_281 (by decide) (by first | exact Nat.le_of_ble_eq_true rfl | simp [xrf_cat, xcI, xcJ, xcA]) (by decide) (by decide) dX6_firstOfSpan_16 ?_
    cases hF
    exact x_iret hx hb hr rfl hlk hR hS (by decide) (by decide) dX6_firstOfSpan_19
def rm_X6_lastOfSpan : Room := { frames := 2, cells := 0, slots := 0, locals := 44 }
theorem f_X6_lastOfSpan : xM yX6_lastOfSpan cX6_lastOfSpan 2 (some .int) 1 := ⟨mm_494, mm_71, by decide +kernel, by decide +kernel⟩
theorem dX6_lastOfSpan_0 : decode cX6_lastOfSpan 0 = .ok (.aload_n 0, 1) := by decide +kernel
theorem dX6_lastOfSpan_1 : decode cX6_lastOfSpan 1 = .ok (.getfield 26, 3) := by decide +kernel
theorem dX6_lastOfSpan_4 : decode cX6_lastOfSpan 4 = .ok (.ifCond .eq 24, 3) := by decide +kernel
theorem dX6_lastOfSpan_7 : decode cX6_lastOfSpan 7 = .ok (.aload_n 0, 1) := by decide +kernel
theorem dX6_lastOfSpan_8 : decode cX6_lastOfSpan 8 = .ok (.iload_n 1, 1) := by decide +kernel
theorem dX6_lastOfSpan_9 : decode cX6_lastOfSpan 9 = .ok (.invokevirtual 43, 3) := by decide +kernel
theorem dX6_lastOfSpan_12 : decode cX6_lastOfSpan 12 = .ok (.aload_n 0, 1) := by decide +kernel
theorem dX6_lastOfSpan_13 : decode cX6_lastOfSpan 13 = .ok (.getfield 19, 3) := by decide +kernel
theorem dX6_lastOfSpan_16 : decode cX6_lastOfSpan 16 = .ok (.iadd, 1) := by decide +kernel
theorem dX6_lastOfSpan_17 : decode cX6_lastOfSpan 17 = .ok (.iconst 1, 1) := by decide +kernel
theorem dX6_lastOfSpan_18 : decode cX6_lastOfSpan 18 = .ok (.isub, 1) := by decide +kernel
theorem dX6_lastOfSpan_19 : decode cX6_lastOfSpan 19 = .ok (.sipush 600, 3) := by decide +kernel
theorem dX6_lastOfSpan_22 : decode cX6_lastOfSpan 22 = .ok (.invokestatic 90, 3) := by decide +kernel
theorem dX6_lastOfSpan_25 : decode cX6_lastOfSpan 25 = .ok (.goto 4, 3) := by decide +kernel
theorem dX6_lastOfSpan_28 : decode cX6_lastOfSpan 28 = .ok (.iload_n 1, 1) := by decide +kernel
theorem dX6_lastOfSpan_29 : decode cX6_lastOfSpan 29 = .ok (.ireturn, 1) := by decide +kernel
def F_X6_lastOfSpan (G : Nat → Nat) (h : xH) (a0 : Nat) (x1 : Int32) : Option Int32 :=
  (gI h (some a0) 6 3).bind fun v1 =>
  if v1 = 0 then
    some x1
  else
  (xc h (some a0) 6).bind fun b4 =>
  (F_X6_firstOfSpan G h b4 x1).bind fun v3 =>
  (gI h (some a0) 6 1).bind fun v5 =>
  some (xmin ((v3 + v5) - 1) 600)
set_option maxHeartbeats 4000000 in
set_option maxRecDepth 100000 in
theorem t_X6_lastOfSpan (l : Launch) (D : va_G) (G : Nat → Nat) (h : xH) (a0 : Nat) (x1 : Int32) (r : Int32) (hF : F_X6_lastOfSpan G h a0 x1 = some r) : xC l yX6_lastOfSpan cX6_lastOfSpan 2 (some .int) rm_X6_lastOfSpan D G h [.ref a0, .int x1] (some (.int r)) h := by
  refine xC_of (by decide) (by first | decide | exact Nat.le_of_ble_eq_true rfl) ?_
  intro p e s m args below meth c ls hx hb hr hlk hml hown hnm hts hR hS hl
  have hl : lv_has ls 2 [(0, va_rf (some a0)), (1, .int x1)] := hl
  unfold F_X6_lastOfSpan at hF
  refine x_aload_n (o := (some a0)) hx hb dX6_lastOfSpan_0 rfl (lv_at hl 0 rfl) ?_
  replace hF := xbind hF; obtain ⟨v1, ev1, hF⟩ := hF
  refine x_getI (o := (some a0)) (ci := 6) (C := RX6) (T := TX6) (N := 6) hx hb hts iw_X6 hown hR rfl 3 (by decide) mm_417 (Or.inl rfl) ev1 dX6_lastOfSpan_1 ?_
  refine lv_if_eq (tgt := 28) hx hb dX6_lastOfSpan_4 (by decide) (fun c2 => ?_) (fun c2 => ?_)
  · replace hF := xift c2 hF
    refine lv_iload_n hx hb dX6_lastOfSpan_28 rfl (lv_at hl 1 rfl) ?_
    cases hF
    exact x_iret hx hb hr rfl hlk hR hS (by decide) (by decide) dX6_lastOfSpan_29
  · replace hF := xiff c2 hF
    refine x_aload_n (o := (some a0)) hx hb dX6_lastOfSpan_7 rfl (lv_at hl 0 rfl) ?_
    refine lv_iload_n hx hb dX6_lastOfSpan_8 rfl (lv_at hl 1 rfl) ?_
    replace hF := xbind hF; obtain ⟨b4, eb4, hF⟩ := hF
    replace hF := xbind hF; obtain ⟨v3, ev3, hF⟩ := hF
    refine x_callV (o := (some a0)) (ci := 6) (As := [.int x1]) (rest := []) (v := (some (.int v3))) (k := 1) hx hb hml hown hts hR hS eb4 rfl rfl (t_X6_firstOfSpan l D G h b4 x1 v3 ev3) f_X6_firstOfSpan mm_487 mm_489 mm_7 rfl hl.1 rfl (by first | exact Nat.le_of_ble_eq_true rfl | simp [xrf_cat, xcI, xcJ, xcA]) dX6_lastOfSpan_9 (by decide) (by decide) rfl (fun H locs hR hS => ?_)
    refine x_aload_n (o := (some a0)) hx hb dX6_lastOfSpan_12 rfl (lv_at hl 0 rfl) ?_
    replace hF := xbind hF; obtain ⟨v5, ev5, hF⟩ := hF
    refine x_getI (o := (some a0)) (ci := 6) (C := RX6) (T := TX6) (N := 6) hx hb hts iw_X6 hown hR rfl 1 (by decide) mm_415 (Or.inl rfl) ev5 dX6_lastOfSpan_13 ?_
    refine lv_iadd hx hb dX6_lastOfSpan_16 ?_
    refine lv_iconst (v := 1) hx hb dX6_lastOfSpan_17 (by decide) ?_
    refine lv_isub hx hb dX6_lastOfSpan_18 ?_
    refine lv_sipush (v := 600) hx hb dX6_lastOfSpan_19 (by decide) ?_
    refine x_min hx hb (hml.trans hl.1.symm) hown hts mm_495 mm_313 mm_65 mm_314 (by decide) (by first | exact Nat.le_of_ble_eq_true rfl | simp [xrf_cat, xcI, xcJ, xcA]) (by decide) (by decide) dX6_lastOfSpan_22 ?_
    refine lv_goto (tgt := 29) hx hb dX6_lastOfSpan_25 (by decide) ?_
    cases hF
    exact x_iret hx hb hr rfl hlk hR hS (by decide) (by decide) dX6_lastOfSpan_29
def rm_X6_isIn : Room := { frames := 0, cells := 0, slots := 0, locals := 0 }
theorem f_X6_isIn : xM yX6_isIn cX6_isIn 2 (some .boolean) 1 := ⟨mm_503, mm_71, by decide +kernel, by decide +kernel⟩
theorem dX6_isIn_0 : decode cX6_isIn 0 = .ok (.iload_n 1, 1) := by decide +kernel
theorem dX6_isIn_1 : decode cX6_isIn 1 = .ok (.ifCond .lt 23, 3) := by decide +kernel
theorem dX6_isIn_4 : decode cX6_isIn 4 = .ok (.iload_n 1, 1) := by decide +kernel
theorem dX6_isIn_5 : decode cX6_isIn 5 = .ok (.sipush 601, 3) := by decide +kernel
theorem dX6_isIn_8 : decode cX6_isIn 8 = .ok (.if_icmp .ge 16, 3) := by decide +kernel
theorem dX6_isIn_11 : decode cX6_isIn 11 = .ok (.aload_n 0, 1) := by decide +kernel
theorem dX6_isIn_12 : decode cX6_isIn 12 = .ok (.getfield 9, 3) := by decide +kernel
theorem dX6_isIn_15 : decode cX6_isIn 15 = .ok (.iload_n 1, 1) := by decide +kernel
theorem dX6_isIn_16 : decode cX6_isIn 16 = .ok (.baload, 1) := by decide +kernel
theorem dX6_isIn_17 : decode cX6_isIn 17 = .ok (.ifCond .ne 7, 3) := by decide +kernel
theorem dX6_isIn_20 : decode cX6_isIn 20 = .ok (.iconst 1, 1) := by decide +kernel
theorem dX6_isIn_21 : decode cX6_isIn 21 = .ok (.goto 4, 3) := by decide +kernel
theorem dX6_isIn_24 : decode cX6_isIn 24 = .ok (.iconst 0, 1) := by decide +kernel
theorem dX6_isIn_25 : decode cX6_isIn 25 = .ok (.ireturn, 1) := by decide +kernel
def F_X6_isIn (G : Nat → Nat) (h : xH) (a0 : Nat) (x1 : Int32) : Option Int32 :=
  if x1 < 0 then
    some 0
  else
  if 601 ≤ x1 then
    some 0
  else
  (gR h (some a0) 6 4).bind fun w3 =>
  (ldI 3 G h w3 x1).bind fun v4 =>
  if v4 = 0 then
    some 1
  else
  some 0
set_option maxHeartbeats 4000000 in
set_option maxRecDepth 100000 in
theorem t_X6_isIn (l : Launch) (D : va_G) (G : Nat → Nat) (h : xH) (a0 : Nat) (x1 : Int32) (r : Int32) (hF : F_X6_isIn G h a0 x1 = some r) : xC l yX6_isIn cX6_isIn 2 (some .boolean) rm_X6_isIn D G h [.ref a0, .int x1] (some (.int r)) h := by
  refine xC_of (by decide) (by first | decide | exact Nat.le_of_ble_eq_true rfl) ?_
  intro p e s m args below meth c ls hx hb hr hlk hml hown hnm hts hR hS hl
  have hl : lv_has ls 2 [(0, va_rf (some a0)), (1, .int x1)] := hl
  unfold F_X6_isIn at hF
  refine lv_iload_n hx hb dX6_isIn_0 rfl (lv_at hl 1 rfl) ?_
  refine lv_if_lt (tgt := 24) hx hb dX6_isIn_1 (by decide) (fun c1 => ?_) (fun c1 => ?_)
  · replace hF := xift c1 hF
    refine lv_iconst (v := 0) hx hb dX6_isIn_24 (by decide) ?_
    cases hF
    exact x_iret hx hb hr rfl hlk hR hS (by decide) (by decide) dX6_isIn_25
  · replace hF := xiff c1 hF
    refine lv_iload_n hx hb dX6_isIn_4 rfl (lv_at hl 1 rfl) ?_
    refine lv_sipush (v := 601) hx hb dX6_isIn_5 (by decide) ?_
    refine lv_icmp_ge (tgt := 24) hx hb dX6_isIn_8 (by decide) (fun c2 => ?_) (fun c2 => ?_)
    · replace hF := xift c2 hF
      refine lv_iconst (v := 0) hx hb dX6_isIn_24 (by decide) ?_
      cases hF
      exact x_iret hx hb hr rfl hlk hR hS (by decide) (by decide) dX6_isIn_25
    · replace hF := xiff c2 hF
      refine x_aload_n (o := (some a0)) hx hb dX6_isIn_11 rfl (lv_at hl 0 rfl) ?_
      replace hF := xbind hF; obtain ⟨w3, ew3, hF⟩ := hF
      refine x_getR (o := (some a0)) (ci := 6) (C := RX6) (T := TX6) (N := 6) hx hb hts iw_X6 hown hR rfl 4 (by decide) mm_418 (Or.inl rfl) ew3 dX6_isIn_12 ?_
      refine lv_iload_n hx hb dX6_isIn_15 rfl (lv_at hl 1 rfl) ?_
      replace hF := xbind hF; obtain ⟨v4, ev4, hF⟩ := hF
      refine x_zld (o := w3) hx hb hR ev4 dX6_isIn_16 ?_
      refine lv_if_ne (tgt := 24) hx hb dX6_isIn_17 (by decide) (fun c5 => ?_) (fun c5 => ?_)
      · replace hF := xiff c5 hF
        refine lv_iconst (v := 0) hx hb dX6_isIn_24 (by decide) ?_
        cases hF
        exact x_iret hx hb hr rfl hlk hR hS (by decide) (by decide) dX6_isIn_25
      · replace hF := xift c5 hF
        refine lv_iconst (v := 1) hx hb dX6_isIn_20 (by decide) ?_
        refine lv_goto (tgt := 25) hx hb dX6_isIn_21 (by decide) ?_
        cases hF
        exact x_iret hx hb hr rfl hlk hR hS (by decide) (by decide) dX6_isIn_25
def rm_X6_asksAt : Room := { frames := 1, cells := 0, slots := 0, locals := 21 }
theorem f_X6_asksAt : xM yX6_asksAt cX6_asksAt 2 (some .int) 1 := ⟨mm_499, mm_71, by decide +kernel, by decide +kernel⟩
theorem dX6_asksAt_0 : decode cX6_asksAt 0 = .ok (.aload_n 0, 1) := by decide +kernel
theorem dX6_asksAt_1 : decode cX6_asksAt 1 = .ok (.iload_n 1, 1) := by decide +kernel
theorem dX6_asksAt_2 : decode cX6_asksAt 2 = .ok (.invokevirtual 82, 3) := by decide +kernel
theorem dX6_asksAt_5 : decode cX6_asksAt 5 = .ok (.ifCond .eq 14, 3) := by decide +kernel
theorem dX6_asksAt_8 : decode cX6_asksAt 8 = .ok (.aload_n 0, 1) := by decide +kernel
theorem dX6_asksAt_9 : decode cX6_asksAt 9 = .ok (.getfield 15, 3) := by decide +kernel
theorem dX6_asksAt_12 : decode cX6_asksAt 12 = .ok (.iload_n 1, 1) := by decide +kernel
theorem dX6_asksAt_13 : decode cX6_asksAt 13 = .ok (.invokevirtual 93, 3) := by decide +kernel
theorem dX6_asksAt_16 : decode cX6_asksAt 16 = .ok (.goto 4, 3) := by decide +kernel
theorem dX6_asksAt_19 : decode cX6_asksAt 19 = .ok (.iconst 0, 1) := by decide +kernel
theorem dX6_asksAt_20 : decode cX6_asksAt 20 = .ok (.ireturn, 1) := by decide +kernel
def F_X6_asksAt (G : Nat → Nat) (h : xH) (a0 : Nat) (x1 : Int32) : Option Int32 :=
  (xc h (some a0) 6).bind fun b2 =>
  (F_X6_isIn G h b2 x1).bind fun v1 =>
  if v1 = 0 then
    some 0
  else
  (gR h (some a0) 6 0).bind fun w4 =>
  (xc h w4 7).bind fun b6 =>
  (F_X7_asksAt G h b6 x1).bind fun v5 =>
  some v5
set_option maxHeartbeats 4000000 in
set_option maxRecDepth 100000 in
theorem t_X6_asksAt (l : Launch) (D : va_G) (G : Nat → Nat) (h : xH) (a0 : Nat) (x1 : Int32) (r : Int32) (hF : F_X6_asksAt G h a0 x1 = some r) : xC l yX6_asksAt cX6_asksAt 2 (some .int) rm_X6_asksAt D G h [.ref a0, .int x1] (some (.int r)) h := by
  refine xC_of (by decide) (by first | decide | exact Nat.le_of_ble_eq_true rfl) ?_
  intro p e s m args below meth c ls hx hb hr hlk hml hown hnm hts hR hS hl
  have hl : lv_has ls 2 [(0, va_rf (some a0)), (1, .int x1)] := hl
  unfold F_X6_asksAt at hF
  refine x_aload_n (o := (some a0)) hx hb dX6_asksAt_0 rfl (lv_at hl 0 rfl) ?_
  refine lv_iload_n hx hb dX6_asksAt_1 rfl (lv_at hl 1 rfl) ?_
  replace hF := xbind hF; obtain ⟨b2, eb2, hF⟩ := hF
  replace hF := xbind hF; obtain ⟨v1, ev1, hF⟩ := hF
  refine x_callV (o := (some a0)) (ci := 6) (As := [.int x1]) (rest := []) (v := (some (.int v1))) (k := 1) hx hb hml hown hts hR hS eb2 rfl rfl (t_X6_isIn l D G h b2 x1 v1 ev1) f_X6_isIn mm_500 mm_502 mm_10 rfl hl.1 rfl (by first | exact Nat.le_of_ble_eq_true rfl | simp [xrf_cat, xcI, xcJ, xcA]) dX6_asksAt_2 (by decide) (by decide) rfl (fun H locs hR hS => ?_)
  refine lv_if_eq (tgt := 19) hx hb dX6_asksAt_5 (by decide) (fun c3 => ?_) (fun c3 => ?_)
  · replace hF := xift c3 hF
    refine lv_iconst (v := 0) hx hb dX6_asksAt_19 (by decide) ?_
    cases hF
    exact x_iret hx hb hr rfl hlk hR hS (by decide) (by decide) dX6_asksAt_20
  · replace hF := xiff c3 hF
    refine x_aload_n (o := (some a0)) hx hb dX6_asksAt_8 rfl (lv_at hl 0 rfl) ?_
    replace hF := xbind hF; obtain ⟨w4, ew4, hF⟩ := hF
    refine x_getR (o := (some a0)) (ci := 6) (C := RX6) (T := TX6) (N := 6) hx hb hts iw_X6 hown hR rfl 0 (by decide) mm_412 (Or.inl rfl) ew4 dX6_asksAt_9 ?_
    refine lv_iload_n hx hb dX6_asksAt_12 rfl (lv_at hl 1 rfl) ?_
    replace hF := xbind hF; obtain ⟨b6, eb6, hF⟩ := hF
    replace hF := xbind hF; obtain ⟨v5, ev5, hF⟩ := hF
    refine x_callV (o := w4) (ci := 7) (As := [.int x1]) (rest := []) (v := (some (.int v5))) (k := 1) hx hb hml hown hts hR hS eb6 rfl rfl (t_X7_asksAt l D G h b6 x1 v5 ev5) f_X7_asksAt mm_504 mm_505 mm_506 rfl hl.1 rfl (by first | exact Nat.le_of_ble_eq_true rfl | simp [xrf_cat, xcI, xcJ, xcA]) dX6_asksAt_13 (by decide) (by decide) rfl (fun H locs hR hS => ?_)
    refine lv_goto (tgt := 20) hx hb dX6_asksAt_16 (by decide) ?_
    cases hF
    exact x_iret hx hb hr rfl hlk hR hS (by decide) (by decide) dX6_asksAt_20
def rm_X6_badAt : Room := { frames := 1, cells := 0, slots := 0, locals := 21 }
theorem f_X6_badAt : xM yX6_badAt cX6_badAt 2 (some .int) 1 := ⟨mm_511, mm_71, by decide +kernel, by decide +kernel⟩
theorem dX6_badAt_0 : decode cX6_badAt 0 = .ok (.aload_n 0, 1) := by decide +kernel
theorem dX6_badAt_1 : decode cX6_badAt 1 = .ok (.iload_n 1, 1) := by decide +kernel
theorem dX6_badAt_2 : decode cX6_badAt 2 = .ok (.invokevirtual 82, 3) := by decide +kernel
theorem dX6_badAt_5 : decode cX6_badAt 5 = .ok (.ifCond .eq 14, 3) := by decide +kernel
theorem dX6_badAt_8 : decode cX6_badAt 8 = .ok (.aload_n 0, 1) := by decide +kernel
theorem dX6_badAt_9 : decode cX6_badAt 9 = .ok (.getfield 15, 3) := by decide +kernel
theorem dX6_badAt_12 : decode cX6_badAt 12 = .ok (.iload_n 1, 1) := by decide +kernel
theorem dX6_badAt_13 : decode cX6_badAt 13 = .ok (.invokevirtual 94, 3) := by decide +kernel
theorem dX6_badAt_16 : decode cX6_badAt 16 = .ok (.goto 4, 3) := by decide +kernel
theorem dX6_badAt_19 : decode cX6_badAt 19 = .ok (.iconst 0, 1) := by decide +kernel
theorem dX6_badAt_20 : decode cX6_badAt 20 = .ok (.ireturn, 1) := by decide +kernel
def F_X6_badAt (G : Nat → Nat) (h : xH) (a0 : Nat) (x1 : Int32) : Option Int32 :=
  (xc h (some a0) 6).bind fun b2 =>
  (F_X6_isIn G h b2 x1).bind fun v1 =>
  if v1 = 0 then
    some 0
  else
  (gR h (some a0) 6 0).bind fun w4 =>
  (xc h w4 7).bind fun b6 =>
  (F_X7_badAt G h b6 x1).bind fun v5 =>
  some v5
set_option maxHeartbeats 4000000 in
set_option maxRecDepth 100000 in
theorem t_X6_badAt (l : Launch) (D : va_G) (G : Nat → Nat) (h : xH) (a0 : Nat) (x1 : Int32) (r : Int32) (hF : F_X6_badAt G h a0 x1 = some r) : xC l yX6_badAt cX6_badAt 2 (some .int) rm_X6_badAt D G h [.ref a0, .int x1] (some (.int r)) h := by
  refine xC_of (by decide) (by first | decide | exact Nat.le_of_ble_eq_true rfl) ?_
  intro p e s m args below meth c ls hx hb hr hlk hml hown hnm hts hR hS hl
  have hl : lv_has ls 2 [(0, va_rf (some a0)), (1, .int x1)] := hl
  unfold F_X6_badAt at hF
  refine x_aload_n (o := (some a0)) hx hb dX6_badAt_0 rfl (lv_at hl 0 rfl) ?_
  refine lv_iload_n hx hb dX6_badAt_1 rfl (lv_at hl 1 rfl) ?_
  replace hF := xbind hF; obtain ⟨b2, eb2, hF⟩ := hF
  replace hF := xbind hF; obtain ⟨v1, ev1, hF⟩ := hF
  refine x_callV (o := (some a0)) (ci := 6) (As := [.int x1]) (rest := []) (v := (some (.int v1))) (k := 1) hx hb hml hown hts hR hS eb2 rfl rfl (t_X6_isIn l D G h b2 x1 v1 ev1) f_X6_isIn mm_500 mm_502 mm_10 rfl hl.1 rfl (by first | exact Nat.le_of_ble_eq_true rfl | simp [xrf_cat, xcI, xcJ, xcA]) dX6_badAt_2 (by decide) (by decide) rfl (fun H locs hR hS => ?_)
  refine lv_if_eq (tgt := 19) hx hb dX6_badAt_5 (by decide) (fun c3 => ?_) (fun c3 => ?_)
  · replace hF := xift c3 hF
    refine lv_iconst (v := 0) hx hb dX6_badAt_19 (by decide) ?_
    cases hF
    exact x_iret hx hb hr rfl hlk hR hS (by decide) (by decide) dX6_badAt_20
  · replace hF := xiff c3 hF
    refine x_aload_n (o := (some a0)) hx hb dX6_badAt_8 rfl (lv_at hl 0 rfl) ?_
    replace hF := xbind hF; obtain ⟨w4, ew4, hF⟩ := hF
    refine x_getR (o := (some a0)) (ci := 6) (C := RX6) (T := TX6) (N := 6) hx hb hts iw_X6 hown hR rfl 0 (by decide) mm_412 (Or.inl rfl) ew4 dX6_badAt_9 ?_
    refine lv_iload_n hx hb dX6_badAt_12 rfl (lv_at hl 1 rfl) ?_
    replace hF := xbind hF; obtain ⟨b6, eb6, hF⟩ := hF
    replace hF := xbind hF; obtain ⟨v5, ev5, hF⟩ := hF
    refine x_callV (o := w4) (ci := 7) (As := [.int x1]) (rest := []) (v := (some (.int v5))) (k := 1) hx hb hml hown hts hR hS eb6 rfl rfl (t_X7_badAt l D G h b6 x1 v5 ev5) f_X7_badAt mm_512 mm_513 mm_514 rfl hl.1 rfl (by first | exact Nat.le_of_ble_eq_true rfl | simp [xrf_cat, xcI, xcJ, xcA]) dX6_badAt_13 (by decide) (by decide) rfl (fun H locs hR hS => ?_)
    refine lv_goto (tgt := 20) hx hb dX6_badAt_16 (by decide) ?_
    cases hF
    exact x_iret hx hb hr rfl hlk hR hS (by decide) (by decide) dX6_badAt_20
def rm_X6_asks : Room := { frames := 3, cells := 0, slots := 0, locals := 65 }
theorem f_X6_asks : xM yX6_asks cX6_asks 5 (some .int) 1 := ⟨mm_768, mm_71, by decide +kernel, by decide +kernel⟩
theorem dX6_asks_0 : decode cX6_asks 0 = .ok (.iconst 0, 1) := by decide +kernel
theorem dX6_asks_1 : decode cX6_asks 1 = .ok (.istore_n 2, 1) := by decide +kernel
theorem dX6_asks_2 : decode cX6_asks 2 = .ok (.aload_n 0, 1) := by decide +kernel
theorem dX6_asks_3 : decode cX6_asks 3 = .ok (.iload_n 1, 1) := by decide +kernel
theorem dX6_asks_4 : decode cX6_asks 4 = .ok (.invokevirtual 39, 3) := by decide +kernel
theorem dX6_asks_7 : decode cX6_asks 7 = .ok (.istore_n 3, 1) := by decide +kernel
theorem dX6_asks_8 : decode cX6_asks 8 = .ok (.aload_n 0, 1) := by decide +kernel
theorem dX6_asks_9 : decode cX6_asks 9 = .ok (.iload_n 1, 1) := by decide +kernel
theorem dX6_asks_10 : decode cX6_asks 10 = .ok (.invokevirtual 43, 3) := by decide +kernel
theorem dX6_asks_13 : decode cX6_asks 13 = .ok (.istore 4, 2) := by decide +kernel
theorem dX6_asks_15 : decode cX6_asks 15 = .ok (.iload 4, 2) := by decide +kernel
theorem dX6_asks_17 : decode cX6_asks 17 = .ok (.iload_n 3, 1) := by decide +kernel
theorem dX6_asks_18 : decode cX6_asks 18 = .ok (.if_icmp .gt 18, 3) := by decide +kernel
theorem dX6_asks_21 : decode cX6_asks 21 = .ok (.iload_n 2, 1) := by decide +kernel
theorem dX6_asks_22 : decode cX6_asks 22 = .ok (.aload_n 0, 1) := by decide +kernel
theorem dX6_asks_23 : decode cX6_asks 23 = .ok (.iload 4, 2) := by decide +kernel
theorem dX6_asks_25 : decode cX6_asks 25 = .ok (.invokevirtual 46, 3) := by decide +kernel
theorem dX6_asks_28 : decode cX6_asks 28 = .ok (.iadd, 1) := by decide +kernel
theorem dX6_asks_29 : decode cX6_asks 29 = .ok (.istore_n 2, 1) := by decide +kernel
theorem dX6_asks_30 : decode cX6_asks 30 = .ok (.iinc 4 1, 3) := by decide +kernel
theorem dX6_asks_33 : decode cX6_asks 33 = .ok (.goto (-18), 3) := by decide +kernel
theorem dX6_asks_36 : decode cX6_asks 36 = .ok (.iload_n 2, 1) := by decide +kernel
theorem dX6_asks_37 : decode cX6_asks 37 = .ok (.ireturn, 1) := by decide +kernel
def F_X6_asks_15 (G : Nat → Nat) (h : xH) (a0 : Nat) (x3 : Int32) : Nat → Int32 → Int32 → Option Int32
  | 0, _, _ => none
  | n + 1, x2, x4 =>
    if x3 < x4 then
      some x2
    else
    (xc h (some a0) 6).bind fun b7 =>
    (F_X6_asksAt G h b7 x4).bind fun v6 =>
    xl (x2 + v6) fun v8 =>
    xl (x4 + 1) fun v9 =>
    F_X6_asks_15 G h a0 x3 n v8 v9
set_option maxHeartbeats 4000000 in
set_option maxRecDepth 100000 in
theorem tl_X6_asks_15 {p : Program} {l : Launch} {e : Env} {s : State} {m : MethodId} {args : Array Value} {below : List Frame} {meth : Method} {c : Code} {D : va_G} {r : Int32} (hx : p.tables.exec = Jvm.exec) (hb : c.code = cX6_asks) (hr : meth.sig.returnType = (some .int)) (hlk : meth.locks = false) (hml : c.maxLocals = 5) (hown : s.vm.findClass RX6 = some m.cls) (hnm : meth.name = "asks") (hts : ∀ w ∈ xt, w.before args s = true) (G : Nat → Nat) (h : xH) (a0 : Nat) (x3 : Int32) : ∀ (n : Nat) (x2 : Int32) (x4 : Int32) (H : Heap) (locs : List Loc) (ls : Array Slot), F_X6_asks_15 G h a0 x3 n x2 x4 = some r → xR D G h s H → va_S (xA G) s.heap H locs → lv_has ls 5 [(0, va_rf (some a0)), (2, .int x2), (3, .int x3), (4, .int x4)] → W p l e rm_X6_asks s m args below meth c H locs 0 0 (MQ below (xQ D G (some (.int r)) h) args s rm_X6_asks.cells rm_X6_asks.slots (xA G)) (F0 m 15 ls []) := by
  intro n
  induction n with
  | zero =>
    intro x2 x4 H locs ls hF
    rw [F_X6_asks_15.eq_1] at hF
    cases hF
  | succ n ih =>
    intro x2 x4 H locs ls hF hR hS hl
    rw [F_X6_asks_15.eq_2] at hF
    refine lv_iload hx hb dX6_asks_15 (lv_at hl 3 rfl) ?_
    refine lv_iload_n hx hb dX6_asks_17 rfl (lv_at hl 2 rfl) ?_
    refine lv_icmp_gt (tgt := 36) hx hb dX6_asks_18 (by decide) (fun c5 => ?_) (fun c5 => ?_)
    · replace hF := xift c5 hF
      refine lv_iload_n hx hb dX6_asks_36 rfl (lv_at hl 1 rfl) ?_
      cases hF
      exact x_iret hx hb hr rfl hlk hR hS (by decide) (by decide) dX6_asks_37
    · replace hF := xiff c5 hF
      refine lv_iload_n hx hb dX6_asks_21 rfl (lv_at hl 1 rfl) ?_
      refine x_aload_n (o := (some a0)) hx hb dX6_asks_22 rfl (lv_at hl 0 rfl) ?_
      refine lv_iload hx hb dX6_asks_23 (lv_at hl 3 rfl) ?_
      replace hF := xbind hF; obtain ⟨b7, eb7, hF⟩ := hF
      replace hF := xbind hF; obtain ⟨v6, ev6, hF⟩ := hF
      refine x_callV (o := (some a0)) (ci := 6) (As := [.int x4]) (rest := [.int x2]) (v := (some (.int v6))) (k := 1) hx hb hml hown hts hR hS eb7 rfl rfl (t_X6_asksAt l D G h b7 x4 v6 ev6) f_X6_asksAt mm_496 mm_498 mm_9 rfl hl.1 rfl (by first | exact Nat.le_of_ble_eq_true rfl | simp [xrf_cat, xcI, xcJ, xcA]) dX6_asks_25 (by decide) (by decide) rfl (fun H locs hR hS => ?_)
      refine lv_iadd hx hb dX6_asks_28 ?_
      refine lv_topi (fun v8 ev8 => ?_)
      replace hF := xlet ev8 hF
      refine lv_istore_n (lv' := [(2, .int v8), (0, va_rf (some a0)), (3, .int x3), (4, .int x4)]) hx hb dX6_asks_29 rfl hl (by decide) (by first | rfl | simp [xrf_cat]) (fun ls hl => ?_)
      obtain ⟨v9, ev9⟩ : ∃ z : Int32, z = (x4 + 1) := ⟨_, rfl⟩
      replace hF := xlet ev9 hF
      refine lv_iinc (v := v9) (lv' := [(4, .int v9), (2, .int v8), (0, va_rf (some a0)), (3, .int x3)]) hx hb dX6_asks_30 hl (k := 3) rfl (by rw [ev9]; rfl) (by decide) (by first | rfl | simp [xrf_cat]) (fun ls hl => ?_)
      refine lv_goto (tgt := 15) hx hb dX6_asks_33 (by decide) ?_
      exact ih v8 v9 _ _ _ hF hR hS (lv_sub hl [2, 1, 3, 0] rfl)
def F_X6_asks (G : Nat → Nat) (h : xH) (a0 : Nat) (x1 : Int32) : Option Int32 :=
  (xc h (some a0) 6).bind fun b2 =>
  (F_X6_lastOfSpan G h b2 x1).bind fun v1 =>
  (xc h (some a0) 6).bind fun b4 =>
  (F_X6_firstOfSpan G h b4 x1).bind fun v3 =>
  F_X6_asks_15 G h a0 v1 xN 0 v3
set_option maxHeartbeats 4000000 in
set_option maxRecDepth 100000 in
theorem t_X6_asks (l : Launch) (D : va_G) (G : Nat → Nat) (h : xH) (a0 : Nat) (x1 : Int32) (r : Int32) (hF : F_X6_asks G h a0 x1 = some r) : xC l yX6_asks cX6_asks 5 (some .int) rm_X6_asks D G h [.ref a0, .int x1] (some (.int r)) h := by
  refine xC_of (by decide) (by first | decide | exact Nat.le_of_ble_eq_true rfl) ?_
  intro p e s m args below meth c ls hx hb hr hlk hml hown hnm hts hR hS hl
  have hl : lv_has ls 5 [(0, va_rf (some a0)), (1, .int x1)] := hl
  unfold F_X6_asks at hF
  refine lv_iconst (v := 0) hx hb dX6_asks_0 (by decide) ?_
  refine lv_istore_n (lv' := [(2, .int 0), (0, va_rf (some a0)), (1, .int x1)]) hx hb dX6_asks_1 rfl hl (by decide) (by first | rfl | simp [xrf_cat]) (fun ls hl => ?_)
  refine x_aload_n (o := (some a0)) hx hb dX6_asks_2 rfl (lv_at hl 1 rfl) ?_
  refine lv_iload_n hx hb dX6_asks_3 rfl (lv_at hl 2 rfl) ?_
  replace hF := xbind hF; obtain ⟨b2, eb2, hF⟩ := hF
  replace hF := xbind hF; obtain ⟨v1, ev1, hF⟩ := hF
  refine x_callV (o := (some a0)) (ci := 6) (As := [.int x1]) (rest := []) (v := (some (.int v1))) (k := 1) hx hb hml hown hts hR hS eb2 rfl rfl (t_X6_lastOfSpan l D G h b2 x1 v1 ev1) f_X6_lastOfSpan mm_491 mm_493 mm_8 rfl hl.1 rfl (by first | exact Nat.le_of_ble_eq_true rfl | simp [xrf_cat, xcI, xcJ, xcA]) dX6_asks_4 (by decide) (by decide) rfl (fun H locs hR hS => ?_)
  refine lv_istore_n (lv' := [(3, .int v1), (2, .int 0), (0, va_rf (some a0)), (1, .int x1)]) hx hb dX6_asks_7 rfl hl (by decide) (by first | rfl | simp [xrf_cat]) (fun ls hl => ?_)
  refine x_aload_n (o := (some a0)) hx hb dX6_asks_8 rfl (lv_at hl 2 rfl) ?_
  refine lv_iload_n hx hb dX6_asks_9 rfl (lv_at hl 3 rfl) ?_
  replace hF := xbind hF; obtain ⟨b4, eb4, hF⟩ := hF
  replace hF := xbind hF; obtain ⟨v3, ev3, hF⟩ := hF
  refine x_callV (o := (some a0)) (ci := 6) (As := [.int x1]) (rest := []) (v := (some (.int v3))) (k := 1) hx hb hml hown hts hR hS eb4 rfl rfl (t_X6_firstOfSpan l D G h b4 x1 v3 ev3) f_X6_firstOfSpan mm_487 mm_489 mm_7 rfl hl.1 rfl (by first | exact Nat.le_of_ble_eq_true rfl | simp [xrf_cat, xcI, xcJ, xcA]) dX6_asks_10 (by decide) (by decide) rfl (fun H locs hR hS => ?_)
  refine lv_istore (lv' := [(4, .int v3), (3, .int v1), (2, .int 0), (0, va_rf (some a0)), (1, .int x1)]) hx hb dX6_asks_13 hl (by decide) (by first | rfl | simp [xrf_cat]) (fun ls hl => ?_)
  refine W.widen (k := 0) (n := 0) (by decide) (by decide) ?_
  exact tl_X6_asks_15 hx hb hr hlk hml hown hnm hts G h a0 v1 _ 0 v3 _ _ _ hF hR hS (lv_sub hl [3, 2, 1, 0] rfl)
def rm_X6_bad : Room := { frames := 3, cells := 0, slots := 0, locals := 65 }
theorem f_X6_bad : xM yX6_bad cX6_bad 5 (some .int) 1 := ⟨mm_772, mm_71, by decide +kernel, by decide +kernel⟩
theorem dX6_bad_0 : decode cX6_bad 0 = .ok (.iconst 0, 1) := by decide +kernel
theorem dX6_bad_1 : decode cX6_bad 1 = .ok (.istore_n 2, 1) := by decide +kernel
theorem dX6_bad_2 : decode cX6_bad 2 = .ok (.aload_n 0, 1) := by decide +kernel
theorem dX6_bad_3 : decode cX6_bad 3 = .ok (.iload_n 1, 1) := by decide +kernel
theorem dX6_bad_4 : decode cX6_bad 4 = .ok (.invokevirtual 39, 3) := by decide +kernel
theorem dX6_bad_7 : decode cX6_bad 7 = .ok (.istore_n 3, 1) := by decide +kernel
theorem dX6_bad_8 : decode cX6_bad 8 = .ok (.aload_n 0, 1) := by decide +kernel
theorem dX6_bad_9 : decode cX6_bad 9 = .ok (.iload_n 1, 1) := by decide +kernel
theorem dX6_bad_10 : decode cX6_bad 10 = .ok (.invokevirtual 43, 3) := by decide +kernel
theorem dX6_bad_13 : decode cX6_bad 13 = .ok (.istore 4, 2) := by decide +kernel
theorem dX6_bad_15 : decode cX6_bad 15 = .ok (.iload 4, 2) := by decide +kernel
theorem dX6_bad_17 : decode cX6_bad 17 = .ok (.iload_n 3, 1) := by decide +kernel
theorem dX6_bad_18 : decode cX6_bad 18 = .ok (.if_icmp .gt 18, 3) := by decide +kernel
theorem dX6_bad_21 : decode cX6_bad 21 = .ok (.iload_n 2, 1) := by decide +kernel
theorem dX6_bad_22 : decode cX6_bad 22 = .ok (.aload_n 0, 1) := by decide +kernel
theorem dX6_bad_23 : decode cX6_bad 23 = .ok (.iload 4, 2) := by decide +kernel
theorem dX6_bad_25 : decode cX6_bad 25 = .ok (.invokevirtual 49, 3) := by decide +kernel
theorem dX6_bad_28 : decode cX6_bad 28 = .ok (.iadd, 1) := by decide +kernel
theorem dX6_bad_29 : decode cX6_bad 29 = .ok (.istore_n 2, 1) := by decide +kernel
theorem dX6_bad_30 : decode cX6_bad 30 = .ok (.iinc 4 1, 3) := by decide +kernel
theorem dX6_bad_33 : decode cX6_bad 33 = .ok (.goto (-18), 3) := by decide +kernel
theorem dX6_bad_36 : decode cX6_bad 36 = .ok (.iload_n 2, 1) := by decide +kernel
theorem dX6_bad_37 : decode cX6_bad 37 = .ok (.ireturn, 1) := by decide +kernel
def F_X6_bad_15 (G : Nat → Nat) (h : xH) (a0 : Nat) (x3 : Int32) : Nat → Int32 → Int32 → Option Int32
  | 0, _, _ => none
  | n + 1, x2, x4 =>
    if x3 < x4 then
      some x2
    else
    (xc h (some a0) 6).bind fun b7 =>
    (F_X6_badAt G h b7 x4).bind fun v6 =>
    xl (x2 + v6) fun v8 =>
    xl (x4 + 1) fun v9 =>
    F_X6_bad_15 G h a0 x3 n v8 v9
set_option maxHeartbeats 4000000 in
set_option maxRecDepth 100000 in
theorem tl_X6_bad_15 {p : Program} {l : Launch} {e : Env} {s : State} {m : MethodId} {args : Array Value} {below : List Frame} {meth : Method} {c : Code} {D : va_G} {r : Int32} (hx : p.tables.exec = Jvm.exec) (hb : c.code = cX6_bad) (hr : meth.sig.returnType = (some .int)) (hlk : meth.locks = false) (hml : c.maxLocals = 5) (hown : s.vm.findClass RX6 = some m.cls) (hnm : meth.name = "bad") (hts : ∀ w ∈ xt, w.before args s = true) (G : Nat → Nat) (h : xH) (a0 : Nat) (x3 : Int32) : ∀ (n : Nat) (x2 : Int32) (x4 : Int32) (H : Heap) (locs : List Loc) (ls : Array Slot), F_X6_bad_15 G h a0 x3 n x2 x4 = some r → xR D G h s H → va_S (xA G) s.heap H locs → lv_has ls 5 [(0, va_rf (some a0)), (2, .int x2), (3, .int x3), (4, .int x4)] → W p l e rm_X6_bad s m args below meth c H locs 0 0 (MQ below (xQ D G (some (.int r)) h) args s rm_X6_bad.cells rm_X6_bad.slots (xA G)) (F0 m 15 ls []) := by
  intro n
  induction n with
  | zero =>
    intro x2 x4 H locs ls hF
    rw [F_X6_bad_15.eq_1] at hF
    cases hF
  | succ n ih =>
    intro x2 x4 H locs ls hF hR hS hl
    rw [F_X6_bad_15.eq_2] at hF
    refine lv_iload hx hb dX6_bad_15 (lv_at hl 3 rfl) ?_
    refine lv_iload_n hx hb dX6_bad_17 rfl (lv_at hl 2 rfl) ?_
    refine lv_icmp_gt (tgt := 36) hx hb dX6_bad_18 (by decide) (fun c5 => ?_) (fun c5 => ?_)
    · replace hF := xift c5 hF
      refine lv_iload_n hx hb dX6_bad_36 rfl (lv_at hl 1 rfl) ?_
      cases hF
      exact x_iret hx hb hr rfl hlk hR hS (by decide) (by decide) dX6_bad_37
    · replace hF := xiff c5 hF
      refine lv_iload_n hx hb dX6_bad_21 rfl (lv_at hl 1 rfl) ?_
      refine x_aload_n (o := (some a0)) hx hb dX6_bad_22 rfl (lv_at hl 0 rfl) ?_
      refine lv_iload hx hb dX6_bad_23 (lv_at hl 3 rfl) ?_
      replace hF := xbind hF; obtain ⟨b7, eb7, hF⟩ := hF
      replace hF := xbind hF; obtain ⟨v6, ev6, hF⟩ := hF
      refine x_callV (o := (some a0)) (ci := 6) (As := [.int x4]) (rest := [.int x2]) (v := (some (.int v6))) (k := 1) hx hb hml hown hts hR hS eb7 rfl rfl (t_X6_badAt l D G h b7 x4 v6 ev6) f_X6_badAt mm_508 mm_510 mm_11 rfl hl.1 rfl (by first | exact Nat.le_of_ble_eq_true rfl | simp [xrf_cat, xcI, xcJ, xcA]) dX6_bad_25 (by decide) (by decide) rfl (fun H locs hR hS => ?_)
      refine lv_iadd hx hb dX6_bad_28 ?_
      refine lv_topi (fun v8 ev8 => ?_)
      replace hF := xlet ev8 hF
      refine lv_istore_n (lv' := [(2, .int v8), (0, va_rf (some a0)), (3, .int x3), (4, .int x4)]) hx hb dX6_bad_29 rfl hl (by decide) (by first | rfl | simp [xrf_cat]) (fun ls hl => ?_)
      obtain ⟨v9, ev9⟩ : ∃ z : Int32, z = (x4 + 1) := ⟨_, rfl⟩
      replace hF := xlet ev9 hF
      refine lv_iinc (v := v9) (lv' := [(4, .int v9), (2, .int v8), (0, va_rf (some a0)), (3, .int x3)]) hx hb dX6_bad_30 hl (k := 3) rfl (by rw [ev9]; rfl) (by decide) (by first | rfl | simp [xrf_cat]) (fun ls hl => ?_)
      refine lv_goto (tgt := 15) hx hb dX6_bad_33 (by decide) ?_
      exact ih v8 v9 _ _ _ hF hR hS (lv_sub hl [2, 1, 3, 0] rfl)
def F_X6_bad (G : Nat → Nat) (h : xH) (a0 : Nat) (x1 : Int32) : Option Int32 :=
  (xc h (some a0) 6).bind fun b2 =>
  (F_X6_lastOfSpan G h b2 x1).bind fun v1 =>
  (xc h (some a0) 6).bind fun b4 =>
  (F_X6_firstOfSpan G h b4 x1).bind fun v3 =>
  F_X6_bad_15 G h a0 v1 xN 0 v3
set_option maxHeartbeats 4000000 in
set_option maxRecDepth 100000 in
theorem t_X6_bad (l : Launch) (D : va_G) (G : Nat → Nat) (h : xH) (a0 : Nat) (x1 : Int32) (r : Int32) (hF : F_X6_bad G h a0 x1 = some r) : xC l yX6_bad cX6_bad 5 (some .int) rm_X6_bad D G h [.ref a0, .int x1] (some (.int r)) h := by
  refine xC_of (by decide) (by first | decide | exact Nat.le_of_ble_eq_true rfl) ?_
  intro p e s m args below meth c ls hx hb hr hlk hml hown hnm hts hR hS hl
  have hl : lv_has ls 5 [(0, va_rf (some a0)), (1, .int x1)] := hl
  unfold F_X6_bad at hF
  refine lv_iconst (v := 0) hx hb dX6_bad_0 (by decide) ?_
  refine lv_istore_n (lv' := [(2, .int 0), (0, va_rf (some a0)), (1, .int x1)]) hx hb dX6_bad_1 rfl hl (by decide) (by first | rfl | simp [xrf_cat]) (fun ls hl => ?_)
  refine x_aload_n (o := (some a0)) hx hb dX6_bad_2 rfl (lv_at hl 1 rfl) ?_
  refine lv_iload_n hx hb dX6_bad_3 rfl (lv_at hl 2 rfl) ?_
  replace hF := xbind hF; obtain ⟨b2, eb2, hF⟩ := hF
  replace hF := xbind hF; obtain ⟨v1, ev1, hF⟩ := hF
  refine x_callV (o := (some a0)) (ci := 6) (As := [.int x1]) (rest := []) (v := (some (.int v1))) (k := 1) hx hb hml hown hts hR hS eb2 rfl rfl (t_X6_lastOfSpan l D G h b2 x1 v1 ev1) f_X6_lastOfSpan mm_491 mm_493 mm_8 rfl hl.1 rfl (by first | exact Nat.le_of_ble_eq_true rfl | simp [xrf_cat, xcI, xcJ, xcA]) dX6_bad_4 (by decide) (by decide) rfl (fun H locs hR hS => ?_)
  refine lv_istore_n (lv' := [(3, .int v1), (2, .int 0), (0, va_rf (some a0)), (1, .int x1)]) hx hb dX6_bad_7 rfl hl (by decide) (by first | rfl | simp [xrf_cat]) (fun ls hl => ?_)
  refine x_aload_n (o := (some a0)) hx hb dX6_bad_8 rfl (lv_at hl 2 rfl) ?_
  refine lv_iload_n hx hb dX6_bad_9 rfl (lv_at hl 3 rfl) ?_
  replace hF := xbind hF; obtain ⟨b4, eb4, hF⟩ := hF
  replace hF := xbind hF; obtain ⟨v3, ev3, hF⟩ := hF
  refine x_callV (o := (some a0)) (ci := 6) (As := [.int x1]) (rest := []) (v := (some (.int v3))) (k := 1) hx hb hml hown hts hR hS eb4 rfl rfl (t_X6_firstOfSpan l D G h b4 x1 v3 ev3) f_X6_firstOfSpan mm_487 mm_489 mm_7 rfl hl.1 rfl (by first | exact Nat.le_of_ble_eq_true rfl | simp [xrf_cat, xcI, xcJ, xcA]) dX6_bad_10 (by decide) (by decide) rfl (fun H locs hR hS => ?_)
  refine lv_istore (lv' := [(4, .int v3), (3, .int v1), (2, .int 0), (0, va_rf (some a0)), (1, .int x1)]) hx hb dX6_bad_13 hl (by decide) (by first | rfl | simp [xrf_cat]) (fun ls hl => ?_)
  refine W.widen (k := 0) (n := 0) (by decide) (by decide) ?_
  exact tl_X6_bad_15 hx hb hr hlk hml hown hnm hts G h a0 v1 _ 0 v3 _ _ _ hF hR hS (lv_sub hl [3, 2, 1, 0] rfl)
def rm_X6_toCome : Room := { frames := 4, cells := 0, slots := 0, locals := 88 }
theorem f_X6_toCome : xM yX6_toCome cX6_toCome 6 (some .int) 2 := ⟨mm_763, mm_71, by decide +kernel, by decide +kernel⟩
theorem dX6_toCome_0 : decode cX6_toCome 0 = .ok (.iconst 0, 1) := by decide +kernel
theorem dX6_toCome_1 : decode cX6_toCome 1 = .ok (.istore_n 3, 1) := by decide +kernel
theorem dX6_toCome_2 : decode cX6_toCome 2 = .ok (.aload_n 0, 1) := by decide +kernel
theorem dX6_toCome_3 : decode cX6_toCome 3 = .ok (.iload_n 1, 1) := by decide +kernel
theorem dX6_toCome_4 : decode cX6_toCome 4 = .ok (.invokevirtual 39, 3) := by decide +kernel
theorem dX6_toCome_7 : decode cX6_toCome 7 = .ok (.istore 4, 2) := by decide +kernel
theorem dX6_toCome_9 : decode cX6_toCome 9 = .ok (.aload_n 0, 1) := by decide +kernel
theorem dX6_toCome_10 : decode cX6_toCome 10 = .ok (.iload_n 1, 1) := by decide +kernel
theorem dX6_toCome_11 : decode cX6_toCome 11 = .ok (.invokevirtual 43, 3) := by decide +kernel
theorem dX6_toCome_14 : decode cX6_toCome 14 = .ok (.istore 5, 2) := by decide +kernel
theorem dX6_toCome_16 : decode cX6_toCome 16 = .ok (.iload 5, 2) := by decide +kernel
theorem dX6_toCome_18 : decode cX6_toCome 18 = .ok (.iload 4, 2) := by decide +kernel
theorem dX6_toCome_20 : decode cX6_toCome 20 = .ok (.if_icmp .gt 31, 3) := by decide +kernel
theorem dX6_toCome_23 : decode cX6_toCome 23 = .ok (.aload_n 0, 1) := by decide +kernel
theorem dX6_toCome_24 : decode cX6_toCome 24 = .ok (.iload 5, 2) := by decide +kernel
theorem dX6_toCome_26 : decode cX6_toCome 26 = .ok (.invokevirtual 82, 3) := by decide +kernel
theorem dX6_toCome_29 : decode cX6_toCome 29 = .ok (.ifCond .eq 16, 3) := by decide +kernel
theorem dX6_toCome_32 : decode cX6_toCome 32 = .ok (.iload_n 3, 1) := by decide +kernel
theorem dX6_toCome_33 : decode cX6_toCome 33 = .ok (.aload_n 0, 1) := by decide +kernel
theorem dX6_toCome_34 : decode cX6_toCome 34 = .ok (.getfield 15, 3) := by decide +kernel
theorem dX6_toCome_37 : decode cX6_toCome 37 = .ok (.iload 5, 2) := by decide +kernel
theorem dX6_toCome_39 : decode cX6_toCome 39 = .ok (.iload_n 2, 1) := by decide +kernel
theorem dX6_toCome_40 : decode cX6_toCome 40 = .ok (.invokevirtual 95, 3) := by decide +kernel
theorem dX6_toCome_43 : decode cX6_toCome 43 = .ok (.iadd, 1) := by decide +kernel
theorem dX6_toCome_44 : decode cX6_toCome 44 = .ok (.istore_n 3, 1) := by decide +kernel
theorem dX6_toCome_45 : decode cX6_toCome 45 = .ok (.iinc 5 1, 3) := by decide +kernel
theorem dX6_toCome_48 : decode cX6_toCome 48 = .ok (.goto (-32), 3) := by decide +kernel
theorem dX6_toCome_51 : decode cX6_toCome 51 = .ok (.iload_n 3, 1) := by decide +kernel
theorem dX6_toCome_52 : decode cX6_toCome 52 = .ok (.ireturn, 1) := by decide +kernel
def F_X6_toCome_16 (G : Nat → Nat) (h : xH) (a0 : Nat) (x2 : Int32) (x4 : Int32) : Nat → Int32 → Int32 → Option Int32
  | 0, _, _ => none
  | n + 1, x3, x5 =>
    if x4 < x5 then
      some x3
    else
    (xc h (some a0) 6).bind fun b7 =>
    (F_X6_isIn G h b7 x5).bind fun v6 =>
    if v6 = 0 then
      xl (x5 + 1) fun v9 =>
      F_X6_toCome_16 G h a0 x2 x4 n x3 v9
    else
    (gR h (some a0) 6 0).bind fun w10 =>
    (xc h w10 7).bind fun b12 =>
    (F_X7_toComeAt G h b12 x5 x2).bind fun v11 =>
    xl (x3 + v11) fun v13 =>
    xl (x5 + 1) fun v14 =>
    F_X6_toCome_16 G h a0 x2 x4 n v13 v14
set_option maxHeartbeats 4000000 in
set_option maxRecDepth 100000 in
theorem tl_X6_toCome_16 {p : Program} {l : Launch} {e : Env} {s : State} {m : MethodId} {args : Array Value} {below : List Frame} {meth : Method} {c : Code} {D : va_G} {r : Int32} (hx : p.tables.exec = Jvm.exec) (hb : c.code = cX6_toCome) (hr : meth.sig.returnType = (some .int)) (hlk : meth.locks = false) (hml : c.maxLocals = 6) (hown : s.vm.findClass RX6 = some m.cls) (hnm : meth.name = "toCome") (hts : ∀ w ∈ xt, w.before args s = true) (G : Nat → Nat) (h : xH) (a0 : Nat) (x2 : Int32) (x4 : Int32) : ∀ (n : Nat) (x3 : Int32) (x5 : Int32) (H : Heap) (locs : List Loc) (ls : Array Slot), F_X6_toCome_16 G h a0 x2 x4 n x3 x5 = some r → xR D G h s H → va_S (xA G) s.heap H locs → lv_has ls 6 [(0, va_rf (some a0)), (2, .int x2), (3, .int x3), (4, .int x4), (5, .int x5)] → W p l e rm_X6_toCome s m args below meth c H locs 0 0 (MQ below (xQ D G (some (.int r)) h) args s rm_X6_toCome.cells rm_X6_toCome.slots (xA G)) (F0 m 16 ls []) := by
  intro n
  induction n with
  | zero =>
    intro x3 x5 H locs ls hF
    rw [F_X6_toCome_16.eq_1] at hF
    cases hF
  | succ n ih =>
    intro x3 x5 H locs ls hF hR hS hl
    rw [F_X6_toCome_16.eq_2] at hF
    refine lv_iload hx hb dX6_toCome_16 (lv_at hl 4 rfl) ?_
    refine lv_iload hx hb dX6_toCome_18 (lv_at hl 3 rfl) ?_
    refine lv_icmp_gt (tgt := 51) hx hb dX6_toCome_20 (by decide) (fun c5 => ?_) (fun c5 => ?_)
    · replace hF := xift c5 hF
      refine lv_iload_n hx hb dX6_toCome_51 rfl (lv_at hl 2 rfl) ?_
      cases hF
      exact x_iret hx hb hr rfl hlk hR hS (by decide) (by decide) dX6_toCome_52
    · replace hF := xiff c5 hF
      refine x_aload_n (o := (some a0)) hx hb dX6_toCome_23 rfl (lv_at hl 0 rfl) ?_
      refine lv_iload hx hb dX6_toCome_24 (lv_at hl 4 rfl) ?_
      replace hF := xbind hF; obtain ⟨b7, eb7, hF⟩ := hF
      replace hF := xbind hF; obtain ⟨v6, ev6, hF⟩ := hF
      refine x_callV (o := (some a0)) (ci := 6) (As := [.int x5]) (rest := []) (v := (some (.int v6))) (k := 1) hx hb hml hown hts hR hS eb7 rfl rfl (t_X6_isIn l D G h b7 x5 v6 ev6) f_X6_isIn mm_500 mm_502 mm_10 rfl hl.1 rfl (by first | exact Nat.le_of_ble_eq_true rfl | simp [xrf_cat, xcI, xcJ, xcA]) dX6_toCome_26 (by decide) (by decide) rfl (fun H locs hR hS => ?_)
      refine lv_if_eq (tgt := 45) hx hb dX6_toCome_29 (by decide) (fun c8 => ?_) (fun c8 => ?_)
      · replace hF := xift c8 hF
        obtain ⟨v9, ev9⟩ : ∃ z : Int32, z = (x5 + 1) := ⟨_, rfl⟩
        replace hF := xlet ev9 hF
        refine lv_iinc (v := v9) (lv' := [(5, .int v9), (0, va_rf (some a0)), (2, .int x2), (3, .int x3), (4, .int x4)]) hx hb dX6_toCome_45 hl (k := 4) rfl (by rw [ev9]; rfl) (by decide) (by first | rfl | simp [xrf_cat]) (fun ls hl => ?_)
        refine lv_goto (tgt := 16) hx hb dX6_toCome_48 (by decide) ?_
        exact ih x3 v9 _ _ _ hF hR hS (lv_sub hl [1, 2, 3, 4, 0] rfl)
      · replace hF := xiff c8 hF
        refine lv_iload_n hx hb dX6_toCome_32 rfl (lv_at hl 2 rfl) ?_
        refine x_aload_n (o := (some a0)) hx hb dX6_toCome_33 rfl (lv_at hl 0 rfl) ?_
        replace hF := xbind hF; obtain ⟨w10, ew10, hF⟩ := hF
        refine x_getR (o := (some a0)) (ci := 6) (C := RX6) (T := TX6) (N := 6) hx hb hts iw_X6 hown hR rfl 0 (by decide) mm_412 (Or.inl rfl) ew10 dX6_toCome_34 ?_
        refine lv_iload hx hb dX6_toCome_37 (lv_at hl 4 rfl) ?_
        refine lv_iload_n hx hb dX6_toCome_39 rfl (lv_at hl 1 rfl) ?_
        replace hF := xbind hF; obtain ⟨b12, eb12, hF⟩ := hF
        replace hF := xbind hF; obtain ⟨v11, ev11, hF⟩ := hF
        refine x_callV (o := w10) (ci := 7) (As := [.int x5, .int x2]) (rest := [.int x3]) (v := (some (.int v11))) (k := 2) hx hb hml hown hts hR hS eb12 rfl rfl (t_X7_toComeAt l D G h b12 x5 x2 v11 ev11) f_X7_toComeAt mm_764 mm_467 mm_468 rfl hl.1 rfl (by first | exact Nat.le_of_ble_eq_true rfl | simp [xrf_cat, xcI, xcJ, xcA]) dX6_toCome_40 (by decide) (by decide) rfl (fun H locs hR hS => ?_)
        refine lv_iadd hx hb dX6_toCome_43 ?_
        refine lv_topi (fun v13 ev13 => ?_)
        replace hF := xlet ev13 hF
        refine lv_istore_n (lv' := [(3, .int v13), (0, va_rf (some a0)), (2, .int x2), (4, .int x4), (5, .int x5)]) hx hb dX6_toCome_44 rfl hl (by decide) (by first | rfl | simp [xrf_cat]) (fun ls hl => ?_)
        obtain ⟨v14, ev14⟩ : ∃ z : Int32, z = (x5 + 1) := ⟨_, rfl⟩
        replace hF := xlet ev14 hF
        refine lv_iinc (v := v14) (lv' := [(5, .int v14), (3, .int v13), (0, va_rf (some a0)), (2, .int x2), (4, .int x4)]) hx hb dX6_toCome_45 hl (k := 4) rfl (by rw [ev14]; rfl) (by decide) (by first | rfl | simp [xrf_cat]) (fun ls hl => ?_)
        refine lv_goto (tgt := 16) hx hb dX6_toCome_48 (by decide) ?_
        exact ih v13 v14 _ _ _ hF hR hS (lv_sub hl [2, 3, 1, 4, 0] rfl)
def F_X6_toCome (G : Nat → Nat) (h : xH) (a0 : Nat) (x1 : Int32) (x2 : Int32) : Option Int32 :=
  (xc h (some a0) 6).bind fun b2 =>
  (F_X6_lastOfSpan G h b2 x1).bind fun v1 =>
  (xc h (some a0) 6).bind fun b4 =>
  (F_X6_firstOfSpan G h b4 x1).bind fun v3 =>
  F_X6_toCome_16 G h a0 x2 v1 xN 0 v3
set_option maxHeartbeats 4000000 in
set_option maxRecDepth 100000 in
theorem t_X6_toCome (l : Launch) (D : va_G) (G : Nat → Nat) (h : xH) (a0 : Nat) (x1 : Int32) (x2 : Int32) (r : Int32) (hF : F_X6_toCome G h a0 x1 x2 = some r) : xC l yX6_toCome cX6_toCome 6 (some .int) rm_X6_toCome D G h [.ref a0, .int x1, .int x2] (some (.int r)) h := by
  refine xC_of (by decide) (by first | decide | exact Nat.le_of_ble_eq_true rfl) ?_
  intro p e s m args below meth c ls hx hb hr hlk hml hown hnm hts hR hS hl
  have hl : lv_has ls 6 [(0, va_rf (some a0)), (1, .int x1), (2, .int x2)] := hl
  unfold F_X6_toCome at hF
  refine lv_iconst (v := 0) hx hb dX6_toCome_0 (by decide) ?_
  refine lv_istore_n (lv' := [(3, .int 0), (0, va_rf (some a0)), (1, .int x1), (2, .int x2)]) hx hb dX6_toCome_1 rfl hl (by decide) (by first | rfl | simp [xrf_cat]) (fun ls hl => ?_)
  refine x_aload_n (o := (some a0)) hx hb dX6_toCome_2 rfl (lv_at hl 1 rfl) ?_
  refine lv_iload_n hx hb dX6_toCome_3 rfl (lv_at hl 2 rfl) ?_
  replace hF := xbind hF; obtain ⟨b2, eb2, hF⟩ := hF
  replace hF := xbind hF; obtain ⟨v1, ev1, hF⟩ := hF
  refine x_callV (o := (some a0)) (ci := 6) (As := [.int x1]) (rest := []) (v := (some (.int v1))) (k := 1) hx hb hml hown hts hR hS eb2 rfl rfl (t_X6_lastOfSpan l D G h b2 x1 v1 ev1) f_X6_lastOfSpan mm_491 mm_493 mm_8 rfl hl.1 rfl (by first | exact Nat.le_of_ble_eq_true rfl | simp [xrf_cat, xcI, xcJ, xcA]) dX6_toCome_4 (by decide) (by decide) rfl (fun H locs hR hS => ?_)
  refine lv_istore (lv' := [(4, .int v1), (3, .int 0), (0, va_rf (some a0)), (1, .int x1), (2, .int x2)]) hx hb dX6_toCome_7 hl (by decide) (by first | rfl | simp [xrf_cat]) (fun ls hl => ?_)
  refine x_aload_n (o := (some a0)) hx hb dX6_toCome_9 rfl (lv_at hl 2 rfl) ?_
  refine lv_iload_n hx hb dX6_toCome_10 rfl (lv_at hl 3 rfl) ?_
  replace hF := xbind hF; obtain ⟨b4, eb4, hF⟩ := hF
  replace hF := xbind hF; obtain ⟨v3, ev3, hF⟩ := hF
  refine x_callV (o := (some a0)) (ci := 6) (As := [.int x1]) (rest := []) (v := (some (.int v3))) (k := 1) hx hb hml hown hts hR hS eb4 rfl rfl (t_X6_firstOfSpan l D G h b4 x1 v3 ev3) f_X6_firstOfSpan mm_487 mm_489 mm_7 rfl hl.1 rfl (by first | exact Nat.le_of_ble_eq_true rfl | simp [xrf_cat, xcI, xcJ, xcA]) dX6_toCome_11 (by decide) (by decide) rfl (fun H locs hR hS => ?_)
  refine lv_istore (lv' := [(5, .int v3), (4, .int v1), (3, .int 0), (0, va_rf (some a0)), (1, .int x1), (2, .int x2)]) hx hb dX6_toCome_14 hl (by decide) (by first | rfl | simp [xrf_cat]) (fun ls hl => ?_)
  refine W.widen (k := 0) (n := 0) (by decide) (by decide) ?_
  exact tl_X6_toCome_16 hx hb hr hlk hml hown hnm hts G h a0 x2 v1 _ 0 v3 _ _ _ hF hR hS (lv_sub hl [3, 5, 2, 1, 0] rfl)
def rm_X6_left : Room := { frames := 4, cells := 0, slots := 0, locals := 89 }
theorem f_X6_left : xM yX6_left cX6_left 2 (some .int) 1 := ⟨mm_907, mm_71, by decide +kernel, by decide +kernel⟩
theorem dX6_left_0 : decode cX6_left 0 = .ok (.aload_n 0, 1) := by decide +kernel
theorem dX6_left_1 : decode cX6_left 1 = .ok (.aload_n 0, 1) := by decide +kernel
theorem dX6_left_2 : decode cX6_left 2 = .ok (.iload_n 1, 1) := by decide +kernel
theorem dX6_left_3 : decode cX6_left 3 = .ok (.invokevirtual 52, 3) := by decide +kernel
theorem dX6_left_6 : decode cX6_left 6 = .ok (.aload_n 0, 1) := by decide +kernel
theorem dX6_left_7 : decode cX6_left 7 = .ok (.iload_n 1, 1) := by decide +kernel
theorem dX6_left_8 : decode cX6_left 8 = .ok (.invokevirtual 55, 3) := by decide +kernel
theorem dX6_left_11 : decode cX6_left 11 = .ok (.invokevirtual 58, 3) := by decide +kernel
theorem dX6_left_14 : decode cX6_left 14 = .ok (.ireturn, 1) := by decide +kernel
def F_X6_left (G : Nat → Nat) (h : xH) (a0 : Nat) (x1 : Int32) : Option Int32 :=
  (xc h (some a0) 6).bind fun b2 =>
  (F_X6_asks G h b2 x1).bind fun v1 =>
  (xc h (some a0) 6).bind fun b4 =>
  (F_X6_bad G h b4 x1).bind fun v3 =>
  (xc h (some a0) 6).bind fun b6 =>
  (F_X6_leftOf G h b6 v1 v3).bind fun v5 =>
  some v5
set_option maxHeartbeats 4000000 in
set_option maxRecDepth 100000 in
theorem t_X6_left (l : Launch) (D : va_G) (G : Nat → Nat) (h : xH) (a0 : Nat) (x1 : Int32) (r : Int32) (hF : F_X6_left G h a0 x1 = some r) : xC l yX6_left cX6_left 2 (some .int) rm_X6_left D G h [.ref a0, .int x1] (some (.int r)) h := by
  refine xC_of (by decide) (by first | decide | exact Nat.le_of_ble_eq_true rfl) ?_
  intro p e s m args below meth c ls hx hb hr hlk hml hown hnm hts hR hS hl
  have hl : lv_has ls 2 [(0, va_rf (some a0)), (1, .int x1)] := hl
  unfold F_X6_left at hF
  refine x_aload_n (o := (some a0)) hx hb dX6_left_0 rfl (lv_at hl 0 rfl) ?_
  refine x_aload_n (o := (some a0)) hx hb dX6_left_1 rfl (lv_at hl 0 rfl) ?_
  refine lv_iload_n hx hb dX6_left_2 rfl (lv_at hl 1 rfl) ?_
  replace hF := xbind hF; obtain ⟨b2, eb2, hF⟩ := hF
  replace hF := xbind hF; obtain ⟨v1, ev1, hF⟩ := hF
  refine x_callV (o := (some a0)) (ci := 6) (As := [.int x1]) (rest := [va_rf (some a0)]) (v := (some (.int v1))) (k := 1) hx hb hml hown hts hR hS eb2 rfl rfl (t_X6_asks l D G h b2 x1 v1 ev1) f_X6_asks mm_765 mm_766 mm_767 rfl hl.1 rfl (by first | exact Nat.le_of_ble_eq_true rfl | simp [xrf_cat, xcI, xcJ, xcA]) dX6_left_3 (by decide) (by decide) rfl (fun H locs hR hS => ?_)
  refine x_aload_n (o := (some a0)) hx hb dX6_left_6 rfl (lv_at hl 0 rfl) ?_
  refine lv_iload_n hx hb dX6_left_7 rfl (lv_at hl 1 rfl) ?_
  replace hF := xbind hF; obtain ⟨b4, eb4, hF⟩ := hF
  replace hF := xbind hF; obtain ⟨v3, ev3, hF⟩ := hF
  refine x_callV (o := (some a0)) (ci := 6) (As := [.int x1]) (rest := [.int v1, va_rf (some a0)]) (v := (some (.int v3))) (k := 1) hx hb hml hown hts hR hS eb4 rfl rfl (t_X6_bad l D G h b4 x1 v3 ev3) f_X6_bad mm_769 mm_770 mm_771 rfl hl.1 rfl (by first | exact Nat.le_of_ble_eq_true rfl | simp [xrf_cat, xcI, xcJ, xcA]) dX6_left_8 (by decide) (by decide) rfl (fun H locs hR hS => ?_)
  replace hF := xbind hF; obtain ⟨b6, eb6, hF⟩ := hF
  replace hF := xbind hF; obtain ⟨v5, ev5, hF⟩ := hF
  refine x_callV (o := (some a0)) (ci := 6) (As := [.int v1, .int v3]) (rest := []) (v := (some (.int v5))) (k := 2) hx hb hml hown hts hR hS eb6 rfl rfl (t_X6_leftOf l D G h b6 v1 v3 v5 ev5) f_X6_leftOf mm_516 mm_518 mm_12 rfl hl.1 rfl (by first | exact Nat.le_of_ble_eq_true rfl | simp [xrf_cat, xcI, xcJ, xcA]) dX6_left_11 (by decide) (by decide) rfl (fun H locs hR hS => ?_)
  cases hF
  exact x_iret hx hb hr rfl hlk hR hS (by decide) (by decide) dX6_left_14
def rm_X6_leastLeft : Room := { frames := 5, cells := 0, slots := 0, locals := 113 }
theorem f_X6_leastLeft : xM yX6_leastLeft cX6_leastLeft 4 (some .int) 2 := ⟨mm_759, mm_71, by decide +kernel, by decide +kernel⟩
theorem dX6_leastLeft_0 : decode cX6_leastLeft 0 = .ok (.aload_n 0, 1) := by decide +kernel
theorem dX6_leastLeft_1 : decode cX6_leastLeft 1 = .ok (.iload_n 1, 1) := by decide +kernel
theorem dX6_leastLeft_2 : decode cX6_leastLeft 2 = .ok (.iload_n 2, 1) := by decide +kernel
theorem dX6_leastLeft_3 : decode cX6_leastLeft 3 = .ok (.invokevirtual 61, 3) := by decide +kernel
theorem dX6_leastLeft_6 : decode cX6_leastLeft 6 = .ok (.istore_n 3, 1) := by decide +kernel
theorem dX6_leastLeft_7 : decode cX6_leastLeft 7 = .ok (.aload_n 0, 1) := by decide +kernel
theorem dX6_leastLeft_8 : decode cX6_leastLeft 8 = .ok (.aload_n 0, 1) := by decide +kernel
theorem dX6_leastLeft_9 : decode cX6_leastLeft 9 = .ok (.iload_n 1, 1) := by decide +kernel
theorem dX6_leastLeft_10 : decode cX6_leastLeft 10 = .ok (.invokevirtual 52, 3) := by decide +kernel
theorem dX6_leastLeft_13 : decode cX6_leastLeft 13 = .ok (.iload_n 3, 1) := by decide +kernel
theorem dX6_leastLeft_14 : decode cX6_leastLeft 14 = .ok (.iadd, 1) := by decide +kernel
theorem dX6_leastLeft_15 : decode cX6_leastLeft 15 = .ok (.aload_n 0, 1) := by decide +kernel
theorem dX6_leastLeft_16 : decode cX6_leastLeft 16 = .ok (.iload_n 1, 1) := by decide +kernel
theorem dX6_leastLeft_17 : decode cX6_leastLeft 17 = .ok (.invokevirtual 55, 3) := by decide +kernel
theorem dX6_leastLeft_20 : decode cX6_leastLeft 20 = .ok (.iload_n 3, 1) := by decide +kernel
theorem dX6_leastLeft_21 : decode cX6_leastLeft 21 = .ok (.iadd, 1) := by decide +kernel
theorem dX6_leastLeft_22 : decode cX6_leastLeft 22 = .ok (.invokevirtual 58, 3) := by decide +kernel
theorem dX6_leastLeft_25 : decode cX6_leastLeft 25 = .ok (.ireturn, 1) := by decide +kernel
def F_X6_leastLeft (G : Nat → Nat) (h : xH) (a0 : Nat) (x1 : Int32) (x2 : Int32) : Option Int32 :=
  (xc h (some a0) 6).bind fun b2 =>
  (F_X6_toCome G h b2 x1 x2).bind fun v1 =>
  (xc h (some a0) 6).bind fun b4 =>
  (F_X6_asks G h b4 x1).bind fun v3 =>
  (xc h (some a0) 6).bind fun b6 =>
  (F_X6_bad G h b6 x1).bind fun v5 =>
  (xc h (some a0) 6).bind fun b8 =>
  (F_X6_leftOf G h b8 (v3 + v1) (v5 + v1)).bind fun v7 =>
  some v7
set_option maxHeartbeats 4000000 in
set_option maxRecDepth 100000 in
theorem t_X6_leastLeft (l : Launch) (D : va_G) (G : Nat → Nat) (h : xH) (a0 : Nat) (x1 : Int32) (x2 : Int32) (r : Int32) (hF : F_X6_leastLeft G h a0 x1 x2 = some r) : xC l yX6_leastLeft cX6_leastLeft 4 (some .int) rm_X6_leastLeft D G h [.ref a0, .int x1, .int x2] (some (.int r)) h := by
  refine xC_of (by decide) (by first | decide | exact Nat.le_of_ble_eq_true rfl) ?_
  intro p e s m args below meth c ls hx hb hr hlk hml hown hnm hts hR hS hl
  have hl : lv_has ls 4 [(0, va_rf (some a0)), (1, .int x1), (2, .int x2)] := hl
  unfold F_X6_leastLeft at hF
  refine x_aload_n (o := (some a0)) hx hb dX6_leastLeft_0 rfl (lv_at hl 0 rfl) ?_
  refine lv_iload_n hx hb dX6_leastLeft_1 rfl (lv_at hl 1 rfl) ?_
  refine lv_iload_n hx hb dX6_leastLeft_2 rfl (lv_at hl 2 rfl) ?_
  replace hF := xbind hF; obtain ⟨b2, eb2, hF⟩ := hF
  replace hF := xbind hF; obtain ⟨v1, ev1, hF⟩ := hF
  refine x_callV (o := (some a0)) (ci := 6) (As := [.int x1, .int x2]) (rest := []) (v := (some (.int v1))) (k := 2) hx hb hml hown hts hR hS eb2 rfl rfl (t_X6_toCome l D G h b2 x1 x2 v1 ev1) f_X6_toCome mm_760 mm_762 mm_25 rfl hl.1 rfl (by first | exact Nat.le_of_ble_eq_true rfl | simp [xrf_cat, xcI, xcJ, xcA]) dX6_leastLeft_3 (by decide) (by decide) rfl (fun H locs hR hS => ?_)
  refine lv_istore_n (lv' := [(3, .int v1), (0, va_rf (some a0)), (1, .int x1), (2, .int x2)]) hx hb dX6_leastLeft_6 rfl hl (by decide) (by first | rfl | simp [xrf_cat]) (fun ls hl => ?_)
  refine x_aload_n (o := (some a0)) hx hb dX6_leastLeft_7 rfl (lv_at hl 1 rfl) ?_
  refine x_aload_n (o := (some a0)) hx hb dX6_leastLeft_8 rfl (lv_at hl 1 rfl) ?_
  refine lv_iload_n hx hb dX6_leastLeft_9 rfl (lv_at hl 2 rfl) ?_
  replace hF := xbind hF; obtain ⟨b4, eb4, hF⟩ := hF
  replace hF := xbind hF; obtain ⟨v3, ev3, hF⟩ := hF
  refine x_callV (o := (some a0)) (ci := 6) (As := [.int x1]) (rest := [va_rf (some a0)]) (v := (some (.int v3))) (k := 1) hx hb hml hown hts hR hS eb4 rfl rfl (t_X6_asks l D G h b4 x1 v3 ev3) f_X6_asks mm_765 mm_766 mm_767 rfl hl.1 rfl (by first | exact Nat.le_of_ble_eq_true rfl | simp [xrf_cat, xcI, xcJ, xcA]) dX6_leastLeft_10 (by decide) (by decide) rfl (fun H locs hR hS => ?_)
  refine lv_iload_n hx hb dX6_leastLeft_13 rfl (lv_at hl 0 rfl) ?_
  refine lv_iadd hx hb dX6_leastLeft_14 ?_
  refine x_aload_n (o := (some a0)) hx hb dX6_leastLeft_15 rfl (lv_at hl 1 rfl) ?_
  refine lv_iload_n hx hb dX6_leastLeft_16 rfl (lv_at hl 2 rfl) ?_
  replace hF := xbind hF; obtain ⟨b6, eb6, hF⟩ := hF
  replace hF := xbind hF; obtain ⟨v5, ev5, hF⟩ := hF
  refine x_callV (o := (some a0)) (ci := 6) (As := [.int x1]) (rest := [.int (v3 + v1), va_rf (some a0)]) (v := (some (.int v5))) (k := 1) hx hb hml hown hts hR hS eb6 rfl rfl (t_X6_bad l D G h b6 x1 v5 ev5) f_X6_bad mm_769 mm_770 mm_771 rfl hl.1 rfl (by first | exact Nat.le_of_ble_eq_true rfl | simp [xrf_cat, xcI, xcJ, xcA]) dX6_leastLeft_17 (by decide) (by decide) rfl (fun H locs hR hS => ?_)
  refine lv_iload_n hx hb dX6_leastLeft_20 rfl (lv_at hl 0 rfl) ?_
  refine lv_iadd hx hb dX6_leastLeft_21 ?_
  replace hF := xbind hF; obtain ⟨b8, eb8, hF⟩ := hF
  replace hF := xbind hF; obtain ⟨v7, ev7, hF⟩ := hF
  refine x_callV (o := (some a0)) (ci := 6) (As := [.int (v3 + v1), .int (v5 + v1)]) (rest := []) (v := (some (.int v7))) (k := 2) hx hb hml hown hts hR hS eb8 rfl rfl (t_X6_leftOf l D G h b8 (v3 + v1) (v5 + v1) v7 ev7) f_X6_leftOf mm_516 mm_518 mm_12 rfl hl.1 rfl (by first | exact Nat.le_of_ble_eq_true rfl | simp [xrf_cat, xcI, xcJ, xcA]) dX6_leastLeft_22 (by decide) (by decide) rfl (fun H locs hR hS => ?_)
  cases hF
  exact x_iret hx hb hr rfl hlk hR hS (by decide) (by decide) dX6_leastLeft_25
def rm_X6_mostLeft : Room := { frames := 5, cells := 0, slots := 0, locals := 113 }
theorem f_X6_mostLeft : xM yX6_mostLeft cX6_mostLeft 3 (some .int) 2 := ⟨mm_911, mm_71, by decide +kernel, by decide +kernel⟩
theorem dX6_mostLeft_0 : decode cX6_mostLeft 0 = .ok (.aload_n 0, 1) := by decide +kernel
theorem dX6_mostLeft_1 : decode cX6_mostLeft 1 = .ok (.aload_n 0, 1) := by decide +kernel
theorem dX6_mostLeft_2 : decode cX6_mostLeft 2 = .ok (.iload_n 1, 1) := by decide +kernel
theorem dX6_mostLeft_3 : decode cX6_mostLeft 3 = .ok (.invokevirtual 52, 3) := by decide +kernel
theorem dX6_mostLeft_6 : decode cX6_mostLeft 6 = .ok (.aload_n 0, 1) := by decide +kernel
theorem dX6_mostLeft_7 : decode cX6_mostLeft 7 = .ok (.iload_n 1, 1) := by decide +kernel
theorem dX6_mostLeft_8 : decode cX6_mostLeft 8 = .ok (.iload_n 2, 1) := by decide +kernel
theorem dX6_mostLeft_9 : decode cX6_mostLeft 9 = .ok (.invokevirtual 61, 3) := by decide +kernel
theorem dX6_mostLeft_12 : decode cX6_mostLeft 12 = .ok (.iadd, 1) := by decide +kernel
theorem dX6_mostLeft_13 : decode cX6_mostLeft 13 = .ok (.aload_n 0, 1) := by decide +kernel
theorem dX6_mostLeft_14 : decode cX6_mostLeft 14 = .ok (.iload_n 1, 1) := by decide +kernel
theorem dX6_mostLeft_15 : decode cX6_mostLeft 15 = .ok (.invokevirtual 55, 3) := by decide +kernel
theorem dX6_mostLeft_18 : decode cX6_mostLeft 18 = .ok (.invokevirtual 58, 3) := by decide +kernel
theorem dX6_mostLeft_21 : decode cX6_mostLeft 21 = .ok (.ireturn, 1) := by decide +kernel
def F_X6_mostLeft (G : Nat → Nat) (h : xH) (a0 : Nat) (x1 : Int32) (x2 : Int32) : Option Int32 :=
  (xc h (some a0) 6).bind fun b2 =>
  (F_X6_asks G h b2 x1).bind fun v1 =>
  (xc h (some a0) 6).bind fun b4 =>
  (F_X6_toCome G h b4 x1 x2).bind fun v3 =>
  (xc h (some a0) 6).bind fun b6 =>
  (F_X6_bad G h b6 x1).bind fun v5 =>
  (xc h (some a0) 6).bind fun b8 =>
  (F_X6_leftOf G h b8 (v1 + v3) v5).bind fun v7 =>
  some v7
set_option maxHeartbeats 4000000 in
set_option maxRecDepth 100000 in
theorem t_X6_mostLeft (l : Launch) (D : va_G) (G : Nat → Nat) (h : xH) (a0 : Nat) (x1 : Int32) (x2 : Int32) (r : Int32) (hF : F_X6_mostLeft G h a0 x1 x2 = some r) : xC l yX6_mostLeft cX6_mostLeft 3 (some .int) rm_X6_mostLeft D G h [.ref a0, .int x1, .int x2] (some (.int r)) h := by
  refine xC_of (by decide) (by first | decide | exact Nat.le_of_ble_eq_true rfl) ?_
  intro p e s m args below meth c ls hx hb hr hlk hml hown hnm hts hR hS hl
  have hl : lv_has ls 3 [(0, va_rf (some a0)), (1, .int x1), (2, .int x2)] := hl
  unfold F_X6_mostLeft at hF
  refine x_aload_n (o := (some a0)) hx hb dX6_mostLeft_0 rfl (lv_at hl 0 rfl) ?_
  refine x_aload_n (o := (some a0)) hx hb dX6_mostLeft_1 rfl (lv_at hl 0 rfl) ?_
  refine lv_iload_n hx hb dX6_mostLeft_2 rfl (lv_at hl 1 rfl) ?_
  replace hF := xbind hF; obtain ⟨b2, eb2, hF⟩ := hF
  replace hF := xbind hF; obtain ⟨v1, ev1, hF⟩ := hF
  refine x_callV (o := (some a0)) (ci := 6) (As := [.int x1]) (rest := [va_rf (some a0)]) (v := (some (.int v1))) (k := 1) hx hb hml hown hts hR hS eb2 rfl rfl (t_X6_asks l D G h b2 x1 v1 ev1) f_X6_asks mm_765 mm_766 mm_767 rfl hl.1 rfl (by first | exact Nat.le_of_ble_eq_true rfl | simp [xrf_cat, xcI, xcJ, xcA]) dX6_mostLeft_3 (by decide) (by decide) rfl (fun H locs hR hS => ?_)
  refine x_aload_n (o := (some a0)) hx hb dX6_mostLeft_6 rfl (lv_at hl 0 rfl) ?_
  refine lv_iload_n hx hb dX6_mostLeft_7 rfl (lv_at hl 1 rfl) ?_
  refine lv_iload_n hx hb dX6_mostLeft_8 rfl (lv_at hl 2 rfl) ?_
  replace hF := xbind hF; obtain ⟨b4, eb4, hF⟩ := hF
  replace hF := xbind hF; obtain ⟨v3, ev3, hF⟩ := hF
  refine x_callV (o := (some a0)) (ci := 6) (As := [.int x1, .int x2]) (rest := [.int v1, va_rf (some a0)]) (v := (some (.int v3))) (k := 2) hx hb hml hown hts hR hS eb4 rfl rfl (t_X6_toCome l D G h b4 x1 x2 v3 ev3) f_X6_toCome mm_760 mm_762 mm_25 rfl hl.1 rfl (by first | exact Nat.le_of_ble_eq_true rfl | simp [xrf_cat, xcI, xcJ, xcA]) dX6_mostLeft_9 (by decide) (by decide) rfl (fun H locs hR hS => ?_)
  refine lv_iadd hx hb dX6_mostLeft_12 ?_
  refine x_aload_n (o := (some a0)) hx hb dX6_mostLeft_13 rfl (lv_at hl 0 rfl) ?_
  refine lv_iload_n hx hb dX6_mostLeft_14 rfl (lv_at hl 1 rfl) ?_
  replace hF := xbind hF; obtain ⟨b6, eb6, hF⟩ := hF
  replace hF := xbind hF; obtain ⟨v5, ev5, hF⟩ := hF
  refine x_callV (o := (some a0)) (ci := 6) (As := [.int x1]) (rest := [.int (v1 + v3), va_rf (some a0)]) (v := (some (.int v5))) (k := 1) hx hb hml hown hts hR hS eb6 rfl rfl (t_X6_bad l D G h b6 x1 v5 ev5) f_X6_bad mm_769 mm_770 mm_771 rfl hl.1 rfl (by first | exact Nat.le_of_ble_eq_true rfl | simp [xrf_cat, xcI, xcJ, xcA]) dX6_mostLeft_15 (by decide) (by decide) rfl (fun H locs hR hS => ?_)
  replace hF := xbind hF; obtain ⟨b8, eb8, hF⟩ := hF
  replace hF := xbind hF; obtain ⟨v7, ev7, hF⟩ := hF
  refine x_callV (o := (some a0)) (ci := 6) (As := [.int (v1 + v3), .int v5]) (rest := []) (v := (some (.int v7))) (k := 2) hx hb hml hown hts hR hS eb8 rfl rfl (t_X6_leftOf l D G h b8 (v1 + v3) v5 v7 ev7) f_X6_leftOf mm_516 mm_518 mm_12 rfl hl.1 rfl (by first | exact Nat.le_of_ble_eq_true rfl | simp [xrf_cat, xcI, xcJ, xcA]) dX6_mostLeft_18 (by decide) (by decide) rfl (fun H locs hR hS => ?_)
  cases hF
  exact x_iret hx hb hr rfl hlk hR hS (by decide) (by decide) dX6_mostLeft_21
def rm_X6_verdict : Room := { frames := 6, cells := 0, slots := 0, locals := 136 }
theorem f_X6_verdict : xM yX6_verdict cX6_verdict 3 (some .int) 2 := ⟨mm_915, mm_71, by decide +kernel, by decide +kernel⟩
theorem dX6_verdict_0 : decode cX6_verdict 0 = .ok (.aload_n 0, 1) := by decide +kernel
theorem dX6_verdict_1 : decode cX6_verdict 1 = .ok (.iload_n 1, 1) := by decide +kernel
theorem dX6_verdict_2 : decode cX6_verdict 2 = .ok (.iload_n 2, 1) := by decide +kernel
theorem dX6_verdict_3 : decode cX6_verdict 3 = .ok (.invokevirtual 64, 3) := by decide +kernel
theorem dX6_verdict_6 : decode cX6_verdict 6 = .ok (.ifCond .lt 5, 3) := by decide +kernel
theorem dX6_verdict_9 : decode cX6_verdict 9 = .ok (.iconst 1, 1) := by decide +kernel
theorem dX6_verdict_10 : decode cX6_verdict 10 = .ok (.ireturn, 1) := by decide +kernel
theorem dX6_verdict_11 : decode cX6_verdict 11 = .ok (.aload_n 0, 1) := by decide +kernel
theorem dX6_verdict_12 : decode cX6_verdict 12 = .ok (.iload_n 1, 1) := by decide +kernel
theorem dX6_verdict_13 : decode cX6_verdict 13 = .ok (.iload_n 2, 1) := by decide +kernel
theorem dX6_verdict_14 : decode cX6_verdict 14 = .ok (.invokevirtual 67, 3) := by decide +kernel
theorem dX6_verdict_17 : decode cX6_verdict 17 = .ok (.ifCond .ge 7, 3) := by decide +kernel
theorem dX6_verdict_20 : decode cX6_verdict 20 = .ok (.iconst 2, 1) := by decide +kernel
theorem dX6_verdict_21 : decode cX6_verdict 21 = .ok (.goto 4, 3) := by decide +kernel
theorem dX6_verdict_24 : decode cX6_verdict 24 = .ok (.iconst 0, 1) := by decide +kernel
theorem dX6_verdict_25 : decode cX6_verdict 25 = .ok (.ireturn, 1) := by decide +kernel
def F_X6_verdict (G : Nat → Nat) (h : xH) (a0 : Nat) (x1 : Int32) (x2 : Int32) : Option Int32 :=
  (xc h (some a0) 6).bind fun b2 =>
  (F_X6_leastLeft G h b2 x1 x2).bind fun v1 =>
  if v1 < 0 then
    (xc h (some a0) 6).bind fun b5 =>
    (F_X6_mostLeft G h b5 x1 x2).bind fun v4 =>
    if 0 ≤ v4 then
      some 0
    else
    some 2
  else
  some 1
set_option maxHeartbeats 4000000 in
set_option maxRecDepth 100000 in
theorem t_X6_verdict (l : Launch) (D : va_G) (G : Nat → Nat) (h : xH) (a0 : Nat) (x1 : Int32) (x2 : Int32) (r : Int32) (hF : F_X6_verdict G h a0 x1 x2 = some r) : xC l yX6_verdict cX6_verdict 3 (some .int) rm_X6_verdict D G h [.ref a0, .int x1, .int x2] (some (.int r)) h := by
  refine xC_of (by decide) (by first | decide | exact Nat.le_of_ble_eq_true rfl) ?_
  intro p e s m args below meth c ls hx hb hr hlk hml hown hnm hts hR hS hl
  have hl : lv_has ls 3 [(0, va_rf (some a0)), (1, .int x1), (2, .int x2)] := hl
  unfold F_X6_verdict at hF
  refine x_aload_n (o := (some a0)) hx hb dX6_verdict_0 rfl (lv_at hl 0 rfl) ?_
  refine lv_iload_n hx hb dX6_verdict_1 rfl (lv_at hl 1 rfl) ?_
  refine lv_iload_n hx hb dX6_verdict_2 rfl (lv_at hl 2 rfl) ?_
  replace hF := xbind hF; obtain ⟨b2, eb2, hF⟩ := hF
  replace hF := xbind hF; obtain ⟨v1, ev1, hF⟩ := hF
  refine x_callV (o := (some a0)) (ci := 6) (As := [.int x1, .int x2]) (rest := []) (v := (some (.int v1))) (k := 2) hx hb hml hown hts hR hS eb2 rfl rfl (t_X6_leastLeft l D G h b2 x1 x2 v1 ev1) f_X6_leastLeft mm_916 mm_757 mm_758 rfl hl.1 rfl (by first | exact Nat.le_of_ble_eq_true rfl | simp [xrf_cat, xcI, xcJ, xcA]) dX6_verdict_3 (by decide) (by decide) rfl (fun H locs hR hS => ?_)
  refine lv_if_lt (tgt := 11) hx hb dX6_verdict_6 (by decide) (fun c3 => ?_) (fun c3 => ?_)
  · replace hF := xift c3 hF
    refine x_aload_n (o := (some a0)) hx hb dX6_verdict_11 rfl (lv_at hl 0 rfl) ?_
    refine lv_iload_n hx hb dX6_verdict_12 rfl (lv_at hl 1 rfl) ?_
    refine lv_iload_n hx hb dX6_verdict_13 rfl (lv_at hl 2 rfl) ?_
    replace hF := xbind hF; obtain ⟨b5, eb5, hF⟩ := hF
    replace hF := xbind hF; obtain ⟨v4, ev4, hF⟩ := hF
    refine x_callV (o := (some a0)) (ci := 6) (As := [.int x1, .int x2]) (rest := []) (v := (some (.int v4))) (k := 2) hx hb hml hown hts hR hS eb5 rfl rfl (t_X6_mostLeft l D G h b5 x1 x2 v4 ev4) f_X6_mostLeft mm_917 mm_909 mm_910 rfl hl.1 rfl (by first | exact Nat.le_of_ble_eq_true rfl | simp [xrf_cat, xcI, xcJ, xcA]) dX6_verdict_14 (by decide) (by decide) rfl (fun H locs hR hS => ?_)
    refine lv_if_ge (tgt := 24) hx hb dX6_verdict_17 (by decide) (fun c6 => ?_) (fun c6 => ?_)
    · replace hF := xift c6 hF
      refine lv_iconst (v := 0) hx hb dX6_verdict_24 (by decide) ?_
      cases hF
      exact x_iret hx hb hr rfl hlk hR hS (by decide) (by decide) dX6_verdict_25
    · replace hF := xiff c6 hF
      refine lv_iconst (v := 2) hx hb dX6_verdict_20 (by decide) ?_
      refine lv_goto (tgt := 25) hx hb dX6_verdict_21 (by decide) ?_
      cases hF
      exact x_iret hx hb hr rfl hlk hR hS (by decide) (by decide) dX6_verdict_25
  · replace hF := xiff c3 hF
    refine lv_iconst (v := 1) hx hb dX6_verdict_9 (by decide) ?_
    cases hF
    exact x_iret hx hb hr rfl hlk hR hS (by decide) (by decide) dX6_verdict_10
def rm_X6_settledFrom : Room := { frames := 4, cells := 0, slots := 0, locals := 86 }
theorem f_X6_settledFrom : xM yX6_settledFrom cX6_settledFrom 4 (some .int) 1 := ⟨mm_921, mm_71, by decide +kernel, by decide +kernel⟩
theorem dX6_settledFrom_0 : decode cX6_settledFrom 0 = .ok (.aload_n 0, 1) := by decide +kernel
theorem dX6_settledFrom_1 : decode cX6_settledFrom 1 = .ok (.getfield 15, 3) := by decide +kernel
theorem dX6_settledFrom_4 : decode cX6_settledFrom 4 = .ok (.getfield 70, 3) := by decide +kernel
theorem dX6_settledFrom_7 : decode cX6_settledFrom 7 = .ok (.invokeinterface 76 1, 5) := by decide +kernel
theorem dX6_settledFrom_12 : decode cX6_settledFrom 12 = .ok (.ifCond .eq 5, 3) := by decide +kernel
theorem dX6_settledFrom_15 : decode cX6_settledFrom 15 = .ok (.iconst 0, 1) := by decide +kernel
theorem dX6_settledFrom_16 : decode cX6_settledFrom 16 = .ok (.ireturn, 1) := by decide +kernel
theorem dX6_settledFrom_17 : decode cX6_settledFrom 17 = .ok (.aload_n 0, 1) := by decide +kernel
theorem dX6_settledFrom_18 : decode cX6_settledFrom 18 = .ok (.iload_n 1, 1) := by decide +kernel
theorem dX6_settledFrom_19 : decode cX6_settledFrom 19 = .ok (.invokevirtual 43, 3) := by decide +kernel
theorem dX6_settledFrom_22 : decode cX6_settledFrom 22 = .ok (.istore_n 2, 1) := by decide +kernel
theorem dX6_settledFrom_23 : decode cX6_settledFrom 23 = .ok (.aload_n 0, 1) := by decide +kernel
theorem dX6_settledFrom_24 : decode cX6_settledFrom 24 = .ok (.iload_n 1, 1) := by decide +kernel
theorem dX6_settledFrom_25 : decode cX6_settledFrom 25 = .ok (.invokevirtual 39, 3) := by decide +kernel
theorem dX6_settledFrom_28 : decode cX6_settledFrom 28 = .ok (.istore_n 3, 1) := by decide +kernel
theorem dX6_settledFrom_29 : decode cX6_settledFrom 29 = .ok (.iload_n 3, 1) := by decide +kernel
theorem dX6_settledFrom_30 : decode cX6_settledFrom 30 = .ok (.iload_n 2, 1) := by decide +kernel
theorem dX6_settledFrom_31 : decode cX6_settledFrom 31 = .ok (.if_icmp .lt 29, 3) := by decide +kernel
theorem dX6_settledFrom_34 : decode cX6_settledFrom 34 = .ok (.aload_n 0, 1) := by decide +kernel
theorem dX6_settledFrom_35 : decode cX6_settledFrom 35 = .ok (.iload_n 3, 1) := by decide +kernel
theorem dX6_settledFrom_36 : decode cX6_settledFrom 36 = .ok (.invokevirtual 82, 3) := by decide +kernel
theorem dX6_settledFrom_39 : decode cX6_settledFrom 39 = .ok (.ifCond .eq 15, 3) := by decide +kernel
theorem dX6_settledFrom_42 : decode cX6_settledFrom 42 = .ok (.iload_n 3, 1) := by decide +kernel
theorem dX6_settledFrom_43 : decode cX6_settledFrom 43 = .ok (.aload_n 0, 1) := by decide +kernel
theorem dX6_settledFrom_44 : decode cX6_settledFrom 44 = .ok (.getfield 15, 3) := by decide +kernel
theorem dX6_settledFrom_47 : decode cX6_settledFrom 47 = .ok (.invokevirtual 86, 3) := by decide +kernel
theorem dX6_settledFrom_50 : decode cX6_settledFrom 50 = .ok (.iadd, 1) := by decide +kernel
theorem dX6_settledFrom_51 : decode cX6_settledFrom 51 = .ok (.iconst 1, 1) := by decide +kernel
theorem dX6_settledFrom_52 : decode cX6_settledFrom 52 = .ok (.iadd, 1) := by decide +kernel
theorem dX6_settledFrom_53 : decode cX6_settledFrom 53 = .ok (.ireturn, 1) := by decide +kernel
theorem dX6_settledFrom_54 : decode cX6_settledFrom 54 = .ok (.iinc 3 (-1), 3) := by decide +kernel
theorem dX6_settledFrom_57 : decode cX6_settledFrom 57 = .ok (.goto (-28), 3) := by decide +kernel
theorem dX6_settledFrom_60 : decode cX6_settledFrom 60 = .ok (.iconst 0, 1) := by decide +kernel
theorem dX6_settledFrom_61 : decode cX6_settledFrom 61 = .ok (.ireturn, 1) := by decide +kernel
def F_X6_settledFrom_29 (G : Nat → Nat) (h : xH) (a0 : Nat) (x2 : Int32) : Nat → Int32 → Option Int32
  | 0, _ => none
  | n + 1, x3 =>
    if x3 < x2 then
      some 0
    else
    (xc h (some a0) 6).bind fun b12 =>
    (F_X6_isIn G h b12 x3).bind fun v11 =>
    if v11 = 0 then
      xl (x3 + (-1)) fun v14 =>
      F_X6_settledFrom_29 G h a0 x2 n v14
    else
    (gR h (some a0) 6 0).bind fun w15 =>
    (xc h w15 7).bind fun b17 =>
    (F_X7_latest G h b17).bind fun v16 =>
    some ((x3 + v16) + 1)
set_option maxHeartbeats 4000000 in
set_option maxRecDepth 100000 in
theorem tl_X6_settledFrom_29 {p : Program} {l : Launch} {e : Env} {s : State} {m : MethodId} {args : Array Value} {below : List Frame} {meth : Method} {c : Code} {D : va_G} {r : Int32} (hx : p.tables.exec = Jvm.exec) (hb : c.code = cX6_settledFrom) (hr : meth.sig.returnType = (some .int)) (hlk : meth.locks = false) (hml : c.maxLocals = 4) (hown : s.vm.findClass RX6 = some m.cls) (hnm : meth.name = "settledFrom") (hts : ∀ w ∈ xt, w.before args s = true) (G : Nat → Nat) (h : xH) (a0 : Nat) (x2 : Int32) : ∀ (n : Nat) (x3 : Int32) (H : Heap) (locs : List Loc) (ls : Array Slot), F_X6_settledFrom_29 G h a0 x2 n x3 = some r → xR D G h s H → va_S (xA G) s.heap H locs → lv_has ls 4 [(0, va_rf (some a0)), (2, .int x2), (3, .int x3)] → W p l e rm_X6_settledFrom s m args below meth c H locs 0 0 (MQ below (xQ D G (some (.int r)) h) args s rm_X6_settledFrom.cells rm_X6_settledFrom.slots (xA G)) (F0 m 29 ls []) := by
  intro n
  induction n with
  | zero =>
    intro x3 H locs ls hF
    rw [F_X6_settledFrom_29.eq_1] at hF
    cases hF
  | succ n ih =>
    intro x3 H locs ls hF hR hS hl
    rw [F_X6_settledFrom_29.eq_2] at hF
    refine lv_iload_n hx hb dX6_settledFrom_29 rfl (lv_at hl 2 rfl) ?_
    refine lv_iload_n hx hb dX6_settledFrom_30 rfl (lv_at hl 1 rfl) ?_
    refine lv_icmp_lt (tgt := 60) hx hb dX6_settledFrom_31 (by decide) (fun c10 => ?_) (fun c10 => ?_)
    · replace hF := xift c10 hF
      refine lv_iconst (v := 0) hx hb dX6_settledFrom_60 (by decide) ?_
      cases hF
      exact x_iret hx hb hr rfl hlk hR hS (by decide) (by decide) dX6_settledFrom_61
    · replace hF := xiff c10 hF
      refine x_aload_n (o := (some a0)) hx hb dX6_settledFrom_34 rfl (lv_at hl 0 rfl) ?_
      refine lv_iload_n hx hb dX6_settledFrom_35 rfl (lv_at hl 2 rfl) ?_
      replace hF := xbind hF; obtain ⟨b12, eb12, hF⟩ := hF
      replace hF := xbind hF; obtain ⟨v11, ev11, hF⟩ := hF
      refine x_callV (o := (some a0)) (ci := 6) (As := [.int x3]) (rest := []) (v := (some (.int v11))) (k := 1) hx hb hml hown hts hR hS eb12 rfl rfl (t_X6_isIn l D G h b12 x3 v11 ev11) f_X6_isIn mm_500 mm_502 mm_10 rfl hl.1 rfl (by first | exact Nat.le_of_ble_eq_true rfl | simp [xrf_cat, xcI, xcJ, xcA]) dX6_settledFrom_36 (by decide) (by decide) rfl (fun H locs hR hS => ?_)
      refine lv_if_eq (tgt := 54) hx hb dX6_settledFrom_39 (by decide) (fun c13 => ?_) (fun c13 => ?_)
      · replace hF := xift c13 hF
        obtain ⟨v14, ev14⟩ : ∃ z : Int32, z = (x3 + (-1)) := ⟨_, rfl⟩
        replace hF := xlet ev14 hF
        refine lv_iinc (v := v14) (lv' := [(3, .int v14), (0, va_rf (some a0)), (2, .int x2)]) hx hb dX6_settledFrom_54 hl (k := 2) rfl (by rw [ev14]; rfl) (by decide) (by first | rfl | simp [xrf_cat]) (fun ls hl => ?_)
        refine lv_goto (tgt := 29) hx hb dX6_settledFrom_57 (by decide) ?_
        exact ih v14 _ _ _ hF hR hS (lv_sub hl [1, 2, 0] rfl)
      · replace hF := xiff c13 hF
        refine lv_iload_n hx hb dX6_settledFrom_42 rfl (lv_at hl 2 rfl) ?_
        refine x_aload_n (o := (some a0)) hx hb dX6_settledFrom_43 rfl (lv_at hl 0 rfl) ?_
        replace hF := xbind hF; obtain ⟨w15, ew15, hF⟩ := hF
        refine x_getR (o := (some a0)) (ci := 6) (C := RX6) (T := TX6) (N := 6) hx hb hts iw_X6 hown hR rfl 0 (by decide) mm_412 (Or.inl rfl) ew15 dX6_settledFrom_44 ?_
        replace hF := xbind hF; obtain ⟨b17, eb17, hF⟩ := hF
        replace hF := xbind hF; obtain ⟨v16, ev16, hF⟩ := hF
        refine x_callV (o := w15) (ci := 7) (As := []) (rest := [.int x3]) (v := (some (.int v16))) (k := 0) hx hb hml hown hts hR hS eb17 rfl rfl (t_X7_latest l D G h b17 v16 ev16) f_X7_latest mm_931 mm_932 mm_933 rfl hl.1 rfl (by first | exact Nat.le_of_ble_eq_true rfl | simp [xrf_cat, xcI, xcJ, xcA]) dX6_settledFrom_47 (by decide) (by decide) rfl (fun H locs hR hS => ?_)
        refine lv_iadd hx hb dX6_settledFrom_50 ?_
        refine lv_iconst (v := 1) hx hb dX6_settledFrom_51 (by decide) ?_
        refine lv_iadd hx hb dX6_settledFrom_52 ?_
        cases hF
        exact x_iret hx hb hr rfl hlk hR hS (by decide) (by decide) dX6_settledFrom_53
def F_X6_settledFrom (G : Nat → Nat) (h : xH) (a0 : Nat) (x1 : Int32) : Option Int32 :=
  (gR h (some a0) 6 0).bind fun w1 =>
  (gR h w1 7 0).bind fun w2 =>
  (xc h w2 0).bind fun b4 =>
  (F_Jx4a65c_isEmpty_aae02 G h b4).bind fun v3 =>
  if v3 = 0 then
    (xc h (some a0) 6).bind fun b7 =>
    (F_X6_firstOfSpan G h b7 x1).bind fun v6 =>
    (xc h (some a0) 6).bind fun b9 =>
    (F_X6_lastOfSpan G h b9 x1).bind fun v8 =>
    F_X6_settledFrom_29 G h a0 v6 xN v8
  else
  some 0
set_option maxHeartbeats 4000000 in
set_option maxRecDepth 100000 in
theorem t_X6_settledFrom (l : Launch) (D : va_G) (G : Nat → Nat) (h : xH) (a0 : Nat) (x1 : Int32) (r : Int32) (hF : F_X6_settledFrom G h a0 x1 = some r) : xC l yX6_settledFrom cX6_settledFrom 4 (some .int) rm_X6_settledFrom D G h [.ref a0, .int x1] (some (.int r)) h := by
  refine xC_of (by decide) (by first | decide | exact Nat.le_of_ble_eq_true rfl) ?_
  intro p e s m args below meth c ls hx hb hr hlk hml hown hnm hts hR hS hl
  have hl : lv_has ls 4 [(0, va_rf (some a0)), (1, .int x1)] := hl
  unfold F_X6_settledFrom at hF
  refine x_aload_n (o := (some a0)) hx hb dX6_settledFrom_0 rfl (lv_at hl 0 rfl) ?_
  replace hF := xbind hF; obtain ⟨w1, ew1, hF⟩ := hF
  refine x_getR (o := (some a0)) (ci := 6) (C := RX6) (T := TX6) (N := 6) hx hb hts iw_X6 hown hR rfl 0 (by decide) mm_412 (Or.inl rfl) ew1 dX6_settledFrom_1 ?_
  replace hF := xbind hF; obtain ⟨w2, ew2, hF⟩ := hF
  refine x_getR (o := w1) (ci := 7) (C := RX7) (T := TX7) (N := 3) hx hb hts iw_X7 hown hR rfl 0 (by decide) mm_245 (Or.inl rfl) ew2 dX6_settledFrom_4 ?_
  replace hF := xbind hF; obtain ⟨b4, eb4, hF⟩ := hF
  replace hF := xbind hF; obtain ⟨v3, ev3, hF⟩ := hF
  refine x_callF (o := w2) (ci := 0) (As := []) (rest := []) (v := (some (.int v3))) (k := 0) hx hb hml hown hts hR hS eb4 rfl (by decide +kernel) (t_Jx4a65c_isEmpty_aae02 l D G h b4 v3 ev3) f_Jx4a65c_isEmpty_aae02 mm_923 mm_928 mm_926 (by decide +kernel) rfl hl.1 rfl (by first | exact Nat.le_of_ble_eq_true rfl | simp [xrf_cat, xcI, xcJ, xcA]) dX6_settledFrom_7 (by decide) (by decide) rfl (fun H locs hR hS => ?_)
  refine lv_if_eq (tgt := 17) hx hb dX6_settledFrom_12 (by decide) (fun c5 => ?_) (fun c5 => ?_)
  · replace hF := xift c5 hF
    refine x_aload_n (o := (some a0)) hx hb dX6_settledFrom_17 rfl (lv_at hl 0 rfl) ?_
    refine lv_iload_n hx hb dX6_settledFrom_18 rfl (lv_at hl 1 rfl) ?_
    replace hF := xbind hF; obtain ⟨b7, eb7, hF⟩ := hF
    replace hF := xbind hF; obtain ⟨v6, ev6, hF⟩ := hF
    refine x_callV (o := (some a0)) (ci := 6) (As := [.int x1]) (rest := []) (v := (some (.int v6))) (k := 1) hx hb hml hown hts hR hS eb7 rfl rfl (t_X6_firstOfSpan l D G h b7 x1 v6 ev6) f_X6_firstOfSpan mm_487 mm_489 mm_7 rfl hl.1 rfl (by first | exact Nat.le_of_ble_eq_true rfl | simp [xrf_cat, xcI, xcJ, xcA]) dX6_settledFrom_19 (by decide) (by decide) rfl (fun H locs hR hS => ?_)
    refine lv_istore_n (lv' := [(2, .int v6), (0, va_rf (some a0)), (1, .int x1)]) hx hb dX6_settledFrom_22 rfl hl (by decide) (by first | rfl | simp [xrf_cat]) (fun ls hl => ?_)
    refine x_aload_n (o := (some a0)) hx hb dX6_settledFrom_23 rfl (lv_at hl 1 rfl) ?_
    refine lv_iload_n hx hb dX6_settledFrom_24 rfl (lv_at hl 2 rfl) ?_
    replace hF := xbind hF; obtain ⟨b9, eb9, hF⟩ := hF
    replace hF := xbind hF; obtain ⟨v8, ev8, hF⟩ := hF
    refine x_callV (o := (some a0)) (ci := 6) (As := [.int x1]) (rest := []) (v := (some (.int v8))) (k := 1) hx hb hml hown hts hR hS eb9 rfl rfl (t_X6_lastOfSpan l D G h b9 x1 v8 ev8) f_X6_lastOfSpan mm_491 mm_493 mm_8 rfl hl.1 rfl (by first | exact Nat.le_of_ble_eq_true rfl | simp [xrf_cat, xcI, xcJ, xcA]) dX6_settledFrom_25 (by decide) (by decide) rfl (fun H locs hR hS => ?_)
    refine lv_istore_n (lv' := [(3, .int v8), (2, .int v6), (0, va_rf (some a0)), (1, .int x1)]) hx hb dX6_settledFrom_28 rfl hl (by decide) (by first | rfl | simp [xrf_cat]) (fun ls hl => ?_)
    refine W.widen (k := 0) (n := 0) (by decide) (by decide) ?_
    exact tl_X6_settledFrom_29 hx hb hr hlk hml hown hnm hts G h a0 v6 _ v8 _ _ _ hF hR hS (lv_sub hl [2, 1, 0] rfl)
  · replace hF := xiff c5 hF
    refine lv_iconst (v := 0) hx hb dX6_settledFrom_15 (by decide) ?_
    cases hF
    exact x_iret hx hb hr rfl hlk hR hS (by decide) (by decide) dX6_settledFrom_16
def rm_X6_firstBroken : Room := { frames := 3, cells := 0, slots := 0, locals := 65 }
theorem f_X6_firstBroken : xM yX6_firstBroken cX6_firstBroken 9 (some .int) 1 := ⟨mm_486, mm_71, by decide +kernel, by decide +kernel⟩
theorem dX6_firstBroken_0 : decode cX6_firstBroken 0 = .ok (.iconst 0, 1) := by decide +kernel
theorem dX6_firstBroken_1 : decode cX6_firstBroken 1 = .ok (.istore_n 2, 1) := by decide +kernel
theorem dX6_firstBroken_2 : decode cX6_firstBroken 2 = .ok (.iconst 0, 1) := by decide +kernel
theorem dX6_firstBroken_3 : decode cX6_firstBroken 3 = .ok (.istore_n 3, 1) := by decide +kernel
theorem dX6_firstBroken_4 : decode cX6_firstBroken 4 = .ok (.aload_n 0, 1) := by decide +kernel
theorem dX6_firstBroken_5 : decode cX6_firstBroken 5 = .ok (.iload_n 1, 1) := by decide +kernel
theorem dX6_firstBroken_6 : decode cX6_firstBroken 6 = .ok (.invokevirtual 43, 3) := by decide +kernel
theorem dX6_firstBroken_9 : decode cX6_firstBroken 9 = .ok (.istore 4, 2) := by decide +kernel
theorem dX6_firstBroken_11 : decode cX6_firstBroken 11 = .ok (.iload 4, 2) := by decide +kernel
theorem dX6_firstBroken_13 : decode cX6_firstBroken 13 = .ok (.istore 5, 2) := by decide +kernel
theorem dX6_firstBroken_15 : decode cX6_firstBroken 15 = .ok (.iload_n 1, 1) := by decide +kernel
theorem dX6_firstBroken_16 : decode cX6_firstBroken 16 = .ok (.istore 6, 2) := by decide +kernel
theorem dX6_firstBroken_18 : decode cX6_firstBroken 18 = .ok (.iload 6, 2) := by decide +kernel
theorem dX6_firstBroken_20 : decode cX6_firstBroken 20 = .ok (.sipush 600, 3) := by decide +kernel
theorem dX6_firstBroken_23 : decode cX6_firstBroken 23 = .ok (.if_icmp .gt 99, 3) := by decide +kernel
theorem dX6_firstBroken_26 : decode cX6_firstBroken 26 = .ok (.aload_n 0, 1) := by decide +kernel
theorem dX6_firstBroken_27 : decode cX6_firstBroken 27 = .ok (.iload 6, 2) := by decide +kernel
theorem dX6_firstBroken_29 : decode cX6_firstBroken 29 = .ok (.invokevirtual 43, 3) := by decide +kernel
theorem dX6_firstBroken_32 : decode cX6_firstBroken 32 = .ok (.istore 7, 2) := by decide +kernel
theorem dX6_firstBroken_34 : decode cX6_firstBroken 34 = .ok (.aload_n 0, 1) := by decide +kernel
theorem dX6_firstBroken_35 : decode cX6_firstBroken 35 = .ok (.iload 6, 2) := by decide +kernel
theorem dX6_firstBroken_37 : decode cX6_firstBroken 37 = .ok (.invokevirtual 39, 3) := by decide +kernel
theorem dX6_firstBroken_40 : decode cX6_firstBroken 40 = .ok (.istore 8, 2) := by decide +kernel
theorem dX6_firstBroken_42 : decode cX6_firstBroken 42 = .ok (.iload 5, 2) := by decide +kernel
theorem dX6_firstBroken_44 : decode cX6_firstBroken 44 = .ok (.iload 8, 2) := by decide +kernel
theorem dX6_firstBroken_46 : decode cX6_firstBroken 46 = .ok (.if_icmp .gt 27, 3) := by decide +kernel
theorem dX6_firstBroken_49 : decode cX6_firstBroken 49 = .ok (.iload_n 2, 1) := by decide +kernel
theorem dX6_firstBroken_50 : decode cX6_firstBroken 50 = .ok (.aload_n 0, 1) := by decide +kernel
theorem dX6_firstBroken_51 : decode cX6_firstBroken 51 = .ok (.iload 5, 2) := by decide +kernel
theorem dX6_firstBroken_53 : decode cX6_firstBroken 53 = .ok (.invokevirtual 46, 3) := by decide +kernel
theorem dX6_firstBroken_56 : decode cX6_firstBroken 56 = .ok (.iadd, 1) := by decide +kernel
theorem dX6_firstBroken_57 : decode cX6_firstBroken 57 = .ok (.istore_n 2, 1) := by decide +kernel
theorem dX6_firstBroken_58 : decode cX6_firstBroken 58 = .ok (.iload_n 3, 1) := by decide +kernel
theorem dX6_firstBroken_59 : decode cX6_firstBroken 59 = .ok (.aload_n 0, 1) := by decide +kernel
theorem dX6_firstBroken_60 : decode cX6_firstBroken 60 = .ok (.iload 5, 2) := by decide +kernel
theorem dX6_firstBroken_62 : decode cX6_firstBroken 62 = .ok (.invokevirtual 49, 3) := by decide +kernel
theorem dX6_firstBroken_65 : decode cX6_firstBroken 65 = .ok (.iadd, 1) := by decide +kernel
theorem dX6_firstBroken_66 : decode cX6_firstBroken 66 = .ok (.istore_n 3, 1) := by decide +kernel
theorem dX6_firstBroken_67 : decode cX6_firstBroken 67 = .ok (.iinc 5 1, 3) := by decide +kernel
theorem dX6_firstBroken_70 : decode cX6_firstBroken 70 = .ok (.goto (-28), 3) := by decide +kernel
theorem dX6_firstBroken_73 : decode cX6_firstBroken 73 = .ok (.iload 4, 2) := by decide +kernel
theorem dX6_firstBroken_75 : decode cX6_firstBroken 75 = .ok (.iload 7, 2) := by decide +kernel
theorem dX6_firstBroken_77 : decode cX6_firstBroken 77 = .ok (.if_icmp .ge 27, 3) := by decide +kernel
theorem dX6_firstBroken_80 : decode cX6_firstBroken 80 = .ok (.iload_n 2, 1) := by decide +kernel
theorem dX6_firstBroken_81 : decode cX6_firstBroken 81 = .ok (.aload_n 0, 1) := by decide +kernel
theorem dX6_firstBroken_82 : decode cX6_firstBroken 82 = .ok (.iload 4, 2) := by decide +kernel
theorem dX6_firstBroken_84 : decode cX6_firstBroken 84 = .ok (.invokevirtual 46, 3) := by decide +kernel
theorem dX6_firstBroken_87 : decode cX6_firstBroken 87 = .ok (.isub, 1) := by decide +kernel
theorem dX6_firstBroken_88 : decode cX6_firstBroken 88 = .ok (.istore_n 2, 1) := by decide +kernel
theorem dX6_firstBroken_89 : decode cX6_firstBroken 89 = .ok (.iload_n 3, 1) := by decide +kernel
theorem dX6_firstBroken_90 : decode cX6_firstBroken 90 = .ok (.aload_n 0, 1) := by decide +kernel
theorem dX6_firstBroken_91 : decode cX6_firstBroken 91 = .ok (.iload 4, 2) := by decide +kernel
theorem dX6_firstBroken_93 : decode cX6_firstBroken 93 = .ok (.invokevirtual 49, 3) := by decide +kernel
theorem dX6_firstBroken_96 : decode cX6_firstBroken 96 = .ok (.isub, 1) := by decide +kernel
theorem dX6_firstBroken_97 : decode cX6_firstBroken 97 = .ok (.istore_n 3, 1) := by decide +kernel
theorem dX6_firstBroken_98 : decode cX6_firstBroken 98 = .ok (.iinc 4 1, 3) := by decide +kernel
theorem dX6_firstBroken_101 : decode cX6_firstBroken 101 = .ok (.goto (-28), 3) := by decide +kernel
theorem dX6_firstBroken_104 : decode cX6_firstBroken 104 = .ok (.aload_n 0, 1) := by decide +kernel
theorem dX6_firstBroken_105 : decode cX6_firstBroken 105 = .ok (.iload_n 2, 1) := by decide +kernel
theorem dX6_firstBroken_106 : decode cX6_firstBroken 106 = .ok (.iload_n 3, 1) := by decide +kernel
theorem dX6_firstBroken_107 : decode cX6_firstBroken 107 = .ok (.invokevirtual 58, 3) := by decide +kernel
theorem dX6_firstBroken_110 : decode cX6_firstBroken 110 = .ok (.ifCond .ge 6, 3) := by decide +kernel
theorem dX6_firstBroken_113 : decode cX6_firstBroken 113 = .ok (.iload 6, 2) := by decide +kernel
theorem dX6_firstBroken_115 : decode cX6_firstBroken 115 = .ok (.ireturn, 1) := by decide +kernel
theorem dX6_firstBroken_116 : decode cX6_firstBroken 116 = .ok (.iinc 6 1, 3) := by decide +kernel
theorem dX6_firstBroken_119 : decode cX6_firstBroken 119 = .ok (.goto (-101), 3) := by decide +kernel
theorem dX6_firstBroken_122 : decode cX6_firstBroken 122 = .ok (.iconst (-1), 1) := by decide +kernel
theorem dX6_firstBroken_123 : decode cX6_firstBroken 123 = .ok (.ireturn, 1) := by decide +kernel
def F_X6_firstBroken_73 (G : Nat → Nat) (h : xH) (a0 : Nat) (x5 : Int32) (x6 : Int32) (x7 : Int32) (k18 : Int32 → Int32 → Int32 → Int32 → Int32 → Option Int32) : Nat → Int32 → Int32 → Int32 → Option Int32
  | 0, _, _, _ => none
  | n + 1, x2, x3, x4 =>
    if x7 ≤ x4 then
      (xc h (some a0) 6).bind fun b11 =>
      (F_X6_leftOf G h b11 x2 x3).bind fun v10 =>
      if 0 ≤ v10 then
        xl (x6 + 1) fun v13 =>
        k18 x2 x3 x4 x5 v13
      else
      some x6
    else
    (xc h (some a0) 6).bind fun b15 =>
    (F_X6_asksAt G h b15 x4).bind fun v14 =>
    xl (x2 - v14) fun v16 =>
    (xc h (some a0) 6).bind fun b18 =>
    (F_X6_badAt G h b18 x4).bind fun v17 =>
    xl (x3 - v17) fun v19 =>
    xl (x4 + 1) fun v20 =>
    F_X6_firstBroken_73 G h a0 x5 x6 x7 k18 n v16 v19 v20
set_option maxHeartbeats 4000000 in
set_option maxRecDepth 100000 in
theorem tl_X6_firstBroken_73 {p : Program} {l : Launch} {e : Env} {s : State} {m : MethodId} {args : Array Value} {below : List Frame} {meth : Method} {c : Code} {D : va_G} {r : Int32} (hx : p.tables.exec = Jvm.exec) (hb : c.code = cX6_firstBroken) (hr : meth.sig.returnType = (some .int)) (hlk : meth.locks = false) (hml : c.maxLocals = 9) (hown : s.vm.findClass RX6 = some m.cls) (hnm : meth.name = "firstBroken") (hts : ∀ w ∈ xt, w.before args s = true) (G : Nat → Nat) (h : xH) (a0 : Nat) (x5 : Int32) (x6 : Int32) (x7 : Int32) (k18 : Int32 → Int32 → Int32 → Int32 → Int32 → Option Int32) (hk18 : ∀ (x2' : Int32) (x3' : Int32) (x4' : Int32) (x5' : Int32) (x6' : Int32) (H : Heap) (locs : List Loc) (ls : Array Slot), k18 x2' x3' x4' x5' x6' = some r → xR D G h s H → va_S (xA G) s.heap H locs → lv_has ls 9 [(0, va_rf (some a0)), (2, .int x2'), (3, .int x3'), (4, .int x4'), (5, .int x5'), (6, .int x6')] → W p l e rm_X6_firstBroken s m args below meth c H locs 0 0 (MQ below (xQ D G (some (.int r)) h) args s rm_X6_firstBroken.cells rm_X6_firstBroken.slots (xA G)) (F0 m 18 ls [])) : ∀ (n : Nat) (x2 : Int32) (x3 : Int32) (x4 : Int32) (H : Heap) (locs : List Loc) (ls : Array Slot), F_X6_firstBroken_73 G h a0 x5 x6 x7 k18 n x2 x3 x4 = some r → xR D G h s H → va_S (xA G) s.heap H locs → lv_has ls 9 [(0, va_rf (some a0)), (2, .int x2), (3, .int x3), (4, .int x4), (5, .int x5), (6, .int x6), (7, .int x7)] → W p l e rm_X6_firstBroken s m args below meth c H locs 0 0 (MQ below (xQ D G (some (.int r)) h) args s rm_X6_firstBroken.cells rm_X6_firstBroken.slots (xA G)) (F0 m 73 ls []) := by
  intro n
  induction n with
  | zero =>
    intro x2 x3 x4 H locs ls hF
    rw [F_X6_firstBroken_73.eq_1] at hF
    cases hF
  | succ n ih =>
    intro x2 x3 x4 H locs ls hF hR hS hl
    rw [F_X6_firstBroken_73.eq_2] at hF
    refine lv_iload hx hb dX6_firstBroken_73 (lv_at hl 3 rfl) ?_
    refine lv_iload hx hb dX6_firstBroken_75 (lv_at hl 6 rfl) ?_
    refine lv_icmp_ge (tgt := 104) hx hb dX6_firstBroken_77 (by decide) (fun c9 => ?_) (fun c9 => ?_)
    · replace hF := xift c9 hF
      refine x_aload_n (o := (some a0)) hx hb dX6_firstBroken_104 rfl (lv_at hl 0 rfl) ?_
      refine lv_iload_n hx hb dX6_firstBroken_105 rfl (lv_at hl 1 rfl) ?_
      refine lv_iload_n hx hb dX6_firstBroken_106 rfl (lv_at hl 2 rfl) ?_
      replace hF := xbind hF; obtain ⟨b11, eb11, hF⟩ := hF
      replace hF := xbind hF; obtain ⟨v10, ev10, hF⟩ := hF
      refine x_callV (o := (some a0)) (ci := 6) (As := [.int x2, .int x3]) (rest := []) (v := (some (.int v10))) (k := 2) hx hb hml hown hts hR hS eb11 rfl rfl (t_X6_leftOf l D G h b11 x2 x3 v10 ev10) f_X6_leftOf mm_516 mm_518 mm_12 rfl hl.1 rfl (by first | exact Nat.le_of_ble_eq_true rfl | simp [xrf_cat, xcI, xcJ, xcA]) dX6_firstBroken_107 (by decide) (by decide) rfl (fun H locs hR hS => ?_)
      refine lv_if_ge (tgt := 116) hx hb dX6_firstBroken_110 (by decide) (fun c12 => ?_) (fun c12 => ?_)
      · replace hF := xift c12 hF
        obtain ⟨v13, ev13⟩ : ∃ z : Int32, z = (x6 + 1) := ⟨_, rfl⟩
        replace hF := xlet ev13 hF
        refine lv_iinc (v := v13) (lv' := [(6, .int v13), (0, va_rf (some a0)), (2, .int x2), (3, .int x3), (4, .int x4), (5, .int x5), (7, .int x7)]) hx hb dX6_firstBroken_116 hl (k := 5) rfl (by rw [ev13]; rfl) (by decide) (by first | rfl | simp [xrf_cat]) (fun ls hl => ?_)
        refine lv_goto (tgt := 18) hx hb dX6_firstBroken_119 (by decide) ?_
        exact hk18 x2 x3 x4 x5 v13 _ _ _ hF hR hS (lv_sub hl [1, 2, 3, 4, 5, 0] rfl)
      · replace hF := xiff c12 hF
        refine lv_iload hx hb dX6_firstBroken_113 (lv_at hl 5 rfl) ?_
        cases hF
        exact x_iret hx hb hr rfl hlk hR hS (by decide) (by decide) dX6_firstBroken_115
    · replace hF := xiff c9 hF
      refine lv_iload_n hx hb dX6_firstBroken_80 rfl (lv_at hl 1 rfl) ?_
      refine x_aload_n (o := (some a0)) hx hb dX6_firstBroken_81 rfl (lv_at hl 0 rfl) ?_
      refine lv_iload hx hb dX6_firstBroken_82 (lv_at hl 3 rfl) ?_
      replace hF := xbind hF; obtain ⟨b15, eb15, hF⟩ := hF
      replace hF := xbind hF; obtain ⟨v14, ev14, hF⟩ := hF
      refine x_callV (o := (some a0)) (ci := 6) (As := [.int x4]) (rest := [.int x2]) (v := (some (.int v14))) (k := 1) hx hb hml hown hts hR hS eb15 rfl rfl (t_X6_asksAt l D G h b15 x4 v14 ev14) f_X6_asksAt mm_496 mm_498 mm_9 rfl hl.1 rfl (by first | exact Nat.le_of_ble_eq_true rfl | simp [xrf_cat, xcI, xcJ, xcA]) dX6_firstBroken_84 (by decide) (by decide) rfl (fun H locs hR hS => ?_)
      refine lv_isub hx hb dX6_firstBroken_87 ?_
      refine lv_topi (fun v16 ev16 => ?_)
      replace hF := xlet ev16 hF
      refine lv_istore_n (lv' := [(2, .int v16), (0, va_rf (some a0)), (3, .int x3), (4, .int x4), (5, .int x5), (6, .int x6), (7, .int x7)]) hx hb dX6_firstBroken_88 rfl hl (by decide) (by first | rfl | simp [xrf_cat]) (fun ls hl => ?_)
      refine lv_iload_n hx hb dX6_firstBroken_89 rfl (lv_at hl 2 rfl) ?_
      refine x_aload_n (o := (some a0)) hx hb dX6_firstBroken_90 rfl (lv_at hl 1 rfl) ?_
      refine lv_iload hx hb dX6_firstBroken_91 (lv_at hl 3 rfl) ?_
      replace hF := xbind hF; obtain ⟨b18, eb18, hF⟩ := hF
      replace hF := xbind hF; obtain ⟨v17, ev17, hF⟩ := hF
      refine x_callV (o := (some a0)) (ci := 6) (As := [.int x4]) (rest := [.int x3]) (v := (some (.int v17))) (k := 1) hx hb hml hown hts hR hS eb18 rfl rfl (t_X6_badAt l D G h b18 x4 v17 ev17) f_X6_badAt mm_508 mm_510 mm_11 rfl hl.1 rfl (by first | exact Nat.le_of_ble_eq_true rfl | simp [xrf_cat, xcI, xcJ, xcA]) dX6_firstBroken_93 (by decide) (by decide) rfl (fun H locs hR hS => ?_)
      refine lv_isub hx hb dX6_firstBroken_96 ?_
      refine lv_topi (fun v19 ev19 => ?_)
      replace hF := xlet ev19 hF
      refine lv_istore_n (lv' := [(3, .int v19), (2, .int v16), (0, va_rf (some a0)), (4, .int x4), (5, .int x5), (6, .int x6), (7, .int x7)]) hx hb dX6_firstBroken_97 rfl hl (by decide) (by first | rfl | simp [xrf_cat]) (fun ls hl => ?_)
      obtain ⟨v20, ev20⟩ : ∃ z : Int32, z = (x4 + 1) := ⟨_, rfl⟩
      replace hF := xlet ev20 hF
      refine lv_iinc (v := v20) (lv' := [(4, .int v20), (3, .int v19), (2, .int v16), (0, va_rf (some a0)), (5, .int x5), (6, .int x6), (7, .int x7)]) hx hb dX6_firstBroken_98 hl (k := 3) rfl (by rw [ev20]; rfl) (by decide) (by first | rfl | simp [xrf_cat]) (fun ls hl => ?_)
      refine lv_goto (tgt := 73) hx hb dX6_firstBroken_101 (by decide) ?_
      exact ih v16 v19 v20 _ _ _ hF hR hS (lv_sub hl [3, 2, 1, 0, 4, 5, 6] rfl)
def F_X6_firstBroken_42 (G : Nat → Nat) (h : xH) (a0 : Nat) (x4 : Int32) (x6 : Int32) (x7 : Int32) (x8 : Int32) (k18 : Int32 → Int32 → Int32 → Int32 → Int32 → Option Int32) : Nat → Int32 → Int32 → Int32 → Option Int32
  | 0, _, _, _ => none
  | n + 1, x2, x3, x5 =>
    if x8 < x5 then
      F_X6_firstBroken_73 G h a0 x5 x6 x7 k18 xN x2 x3 x4
    else
    (xc h (some a0) 6).bind fun b22 =>
    (F_X6_asksAt G h b22 x5).bind fun v21 =>
    xl (x2 + v21) fun v23 =>
    (xc h (some a0) 6).bind fun b25 =>
    (F_X6_badAt G h b25 x5).bind fun v24 =>
    xl (x3 + v24) fun v26 =>
    xl (x5 + 1) fun v27 =>
    F_X6_firstBroken_42 G h a0 x4 x6 x7 x8 k18 n v23 v26 v27
set_option maxHeartbeats 4000000 in
set_option maxRecDepth 100000 in
theorem tl_X6_firstBroken_42 {p : Program} {l : Launch} {e : Env} {s : State} {m : MethodId} {args : Array Value} {below : List Frame} {meth : Method} {c : Code} {D : va_G} {r : Int32} (hx : p.tables.exec = Jvm.exec) (hb : c.code = cX6_firstBroken) (hr : meth.sig.returnType = (some .int)) (hlk : meth.locks = false) (hml : c.maxLocals = 9) (hown : s.vm.findClass RX6 = some m.cls) (hnm : meth.name = "firstBroken") (hts : ∀ w ∈ xt, w.before args s = true) (G : Nat → Nat) (h : xH) (a0 : Nat) (x4 : Int32) (x6 : Int32) (x7 : Int32) (x8 : Int32) (k18 : Int32 → Int32 → Int32 → Int32 → Int32 → Option Int32) (hk18 : ∀ (x2' : Int32) (x3' : Int32) (x4' : Int32) (x5' : Int32) (x6' : Int32) (H : Heap) (locs : List Loc) (ls : Array Slot), k18 x2' x3' x4' x5' x6' = some r → xR D G h s H → va_S (xA G) s.heap H locs → lv_has ls 9 [(0, va_rf (some a0)), (2, .int x2'), (3, .int x3'), (4, .int x4'), (5, .int x5'), (6, .int x6')] → W p l e rm_X6_firstBroken s m args below meth c H locs 0 0 (MQ below (xQ D G (some (.int r)) h) args s rm_X6_firstBroken.cells rm_X6_firstBroken.slots (xA G)) (F0 m 18 ls [])) : ∀ (n : Nat) (x2 : Int32) (x3 : Int32) (x5 : Int32) (H : Heap) (locs : List Loc) (ls : Array Slot), F_X6_firstBroken_42 G h a0 x4 x6 x7 x8 k18 n x2 x3 x5 = some r → xR D G h s H → va_S (xA G) s.heap H locs → lv_has ls 9 [(0, va_rf (some a0)), (2, .int x2), (3, .int x3), (4, .int x4), (5, .int x5), (6, .int x6), (7, .int x7), (8, .int x8)] → W p l e rm_X6_firstBroken s m args below meth c H locs 0 0 (MQ below (xQ D G (some (.int r)) h) args s rm_X6_firstBroken.cells rm_X6_firstBroken.slots (xA G)) (F0 m 42 ls []) := by
  intro n
  induction n with
  | zero =>
    intro x2 x3 x5 H locs ls hF
    rw [F_X6_firstBroken_42.eq_1] at hF
    cases hF
  | succ n ih =>
    intro x2 x3 x5 H locs ls hF hR hS hl
    rw [F_X6_firstBroken_42.eq_2] at hF
    refine lv_iload hx hb dX6_firstBroken_42 (lv_at hl 4 rfl) ?_
    refine lv_iload hx hb dX6_firstBroken_44 (lv_at hl 7 rfl) ?_
    refine lv_icmp_gt (tgt := 73) hx hb dX6_firstBroken_46 (by decide) (fun c8 => ?_) (fun c8 => ?_)
    · replace hF := xift c8 hF
      refine W.widen (k := 0) (n := 0) (by decide) (by decide) ?_
      exact tl_X6_firstBroken_73 hx hb hr hlk hml hown hnm hts G h a0 x5 x6 x7 k18 hk18 _ x2 x3 x4 _ _ _ hF hR hS (lv_sub hl [0, 1, 2, 3, 4, 5, 6] rfl)
    · replace hF := xiff c8 hF
      refine lv_iload_n hx hb dX6_firstBroken_49 rfl (lv_at hl 1 rfl) ?_
      refine x_aload_n (o := (some a0)) hx hb dX6_firstBroken_50 rfl (lv_at hl 0 rfl) ?_
      refine lv_iload hx hb dX6_firstBroken_51 (lv_at hl 4 rfl) ?_
      replace hF := xbind hF; obtain ⟨b22, eb22, hF⟩ := hF
      replace hF := xbind hF; obtain ⟨v21, ev21, hF⟩ := hF
      refine x_callV (o := (some a0)) (ci := 6) (As := [.int x5]) (rest := [.int x2]) (v := (some (.int v21))) (k := 1) hx hb hml hown hts hR hS eb22 rfl rfl (t_X6_asksAt l D G h b22 x5 v21 ev21) f_X6_asksAt mm_496 mm_498 mm_9 rfl hl.1 rfl (by first | exact Nat.le_of_ble_eq_true rfl | simp [xrf_cat, xcI, xcJ, xcA]) dX6_firstBroken_53 (by decide) (by decide) rfl (fun H locs hR hS => ?_)
      refine lv_iadd hx hb dX6_firstBroken_56 ?_
      refine lv_topi (fun v23 ev23 => ?_)
      replace hF := xlet ev23 hF
      refine lv_istore_n (lv' := [(2, .int v23), (0, va_rf (some a0)), (3, .int x3), (4, .int x4), (5, .int x5), (6, .int x6), (7, .int x7), (8, .int x8)]) hx hb dX6_firstBroken_57 rfl hl (by decide) (by first | rfl | simp [xrf_cat]) (fun ls hl => ?_)
      refine lv_iload_n hx hb dX6_firstBroken_58 rfl (lv_at hl 2 rfl) ?_
      refine x_aload_n (o := (some a0)) hx hb dX6_firstBroken_59 rfl (lv_at hl 1 rfl) ?_
      refine lv_iload hx hb dX6_firstBroken_60 (lv_at hl 4 rfl) ?_
      replace hF := xbind hF; obtain ⟨b25, eb25, hF⟩ := hF
      replace hF := xbind hF; obtain ⟨v24, ev24, hF⟩ := hF
      refine x_callV (o := (some a0)) (ci := 6) (As := [.int x5]) (rest := [.int x3]) (v := (some (.int v24))) (k := 1) hx hb hml hown hts hR hS eb25 rfl rfl (t_X6_badAt l D G h b25 x5 v24 ev24) f_X6_badAt mm_508 mm_510 mm_11 rfl hl.1 rfl (by first | exact Nat.le_of_ble_eq_true rfl | simp [xrf_cat, xcI, xcJ, xcA]) dX6_firstBroken_62 (by decide) (by decide) rfl (fun H locs hR hS => ?_)
      refine lv_iadd hx hb dX6_firstBroken_65 ?_
      refine lv_topi (fun v26 ev26 => ?_)
      replace hF := xlet ev26 hF
      refine lv_istore_n (lv' := [(3, .int v26), (2, .int v23), (0, va_rf (some a0)), (4, .int x4), (5, .int x5), (6, .int x6), (7, .int x7), (8, .int x8)]) hx hb dX6_firstBroken_66 rfl hl (by decide) (by first | rfl | simp [xrf_cat]) (fun ls hl => ?_)
      obtain ⟨v27, ev27⟩ : ∃ z : Int32, z = (x5 + 1) := ⟨_, rfl⟩
      replace hF := xlet ev27 hF
      refine lv_iinc (v := v27) (lv' := [(5, .int v27), (3, .int v26), (2, .int v23), (0, va_rf (some a0)), (4, .int x4), (6, .int x6), (7, .int x7), (8, .int x8)]) hx hb dX6_firstBroken_67 hl (k := 4) rfl (by rw [ev27]; rfl) (by decide) (by first | rfl | simp [xrf_cat]) (fun ls hl => ?_)
      refine lv_goto (tgt := 42) hx hb dX6_firstBroken_70 (by decide) ?_
      exact ih v23 v26 v27 _ _ _ hF hR hS (lv_sub hl [3, 2, 1, 4, 0, 5, 6, 7] rfl)
def F_X6_firstBroken_18 (G : Nat → Nat) (h : xH) (a0 : Nat) : Nat → Int32 → Int32 → Int32 → Int32 → Int32 → Option Int32
  | 0, _, _, _, _, _ => none
  | n + 1, x2, x3, x4, x5, x6 =>
    if 600 < x6 then
      some (-1)
    else
    (xc h (some a0) 6).bind fun b5 =>
    (F_X6_firstOfSpan G h b5 x6).bind fun v4 =>
    (xc h (some a0) 6).bind fun b7 =>
    (F_X6_lastOfSpan G h b7 x6).bind fun v6 =>
    F_X6_firstBroken_42 G h a0 x4 x6 v4 v6 (fun x2' x3' x4' x5' x6' => F_X6_firstBroken_18 G h a0 n x2' x3' x4' x5' x6') xN x2 x3 x5
set_option maxHeartbeats 4000000 in
set_option maxRecDepth 100000 in
theorem tl_X6_firstBroken_18 {p : Program} {l : Launch} {e : Env} {s : State} {m : MethodId} {args : Array Value} {below : List Frame} {meth : Method} {c : Code} {D : va_G} {r : Int32} (hx : p.tables.exec = Jvm.exec) (hb : c.code = cX6_firstBroken) (hr : meth.sig.returnType = (some .int)) (hlk : meth.locks = false) (hml : c.maxLocals = 9) (hown : s.vm.findClass RX6 = some m.cls) (hnm : meth.name = "firstBroken") (hts : ∀ w ∈ xt, w.before args s = true) (G : Nat → Nat) (h : xH) (a0 : Nat) : ∀ (n : Nat) (x2 : Int32) (x3 : Int32) (x4 : Int32) (x5 : Int32) (x6 : Int32) (H : Heap) (locs : List Loc) (ls : Array Slot), F_X6_firstBroken_18 G h a0 n x2 x3 x4 x5 x6 = some r → xR D G h s H → va_S (xA G) s.heap H locs → lv_has ls 9 [(0, va_rf (some a0)), (2, .int x2), (3, .int x3), (4, .int x4), (5, .int x5), (6, .int x6)] → W p l e rm_X6_firstBroken s m args below meth c H locs 0 0 (MQ below (xQ D G (some (.int r)) h) args s rm_X6_firstBroken.cells rm_X6_firstBroken.slots (xA G)) (F0 m 18 ls []) := by
  intro n
  induction n with
  | zero =>
    intro x2 x3 x4 x5 x6 H locs ls hF
    rw [F_X6_firstBroken_18.eq_1] at hF
    cases hF
  | succ n ih =>
    intro x2 x3 x4 x5 x6 H locs ls hF hR hS hl
    rw [F_X6_firstBroken_18.eq_2] at hF
    refine lv_iload hx hb dX6_firstBroken_18 (lv_at hl 5 rfl) ?_
    refine lv_sipush (v := 600) hx hb dX6_firstBroken_20 (by decide) ?_
    refine lv_icmp_gt (tgt := 122) hx hb dX6_firstBroken_23 (by decide) (fun c3 => ?_) (fun c3 => ?_)
    · replace hF := xift c3 hF
      refine lv_iconst (v := (-1)) hx hb dX6_firstBroken_122 (by decide) ?_
      cases hF
      exact x_iret hx hb hr rfl hlk hR hS (by decide) (by decide) dX6_firstBroken_123
    · replace hF := xiff c3 hF
      refine x_aload_n (o := (some a0)) hx hb dX6_firstBroken_26 rfl (lv_at hl 0 rfl) ?_
      refine lv_iload hx hb dX6_firstBroken_27 (lv_at hl 5 rfl) ?_
      replace hF := xbind hF; obtain ⟨b5, eb5, hF⟩ := hF
      replace hF := xbind hF; obtain ⟨v4, ev4, hF⟩ := hF
      refine x_callV (o := (some a0)) (ci := 6) (As := [.int x6]) (rest := []) (v := (some (.int v4))) (k := 1) hx hb hml hown hts hR hS eb5 rfl rfl (t_X6_firstOfSpan l D G h b5 x6 v4 ev4) f_X6_firstOfSpan mm_487 mm_489 mm_7 rfl hl.1 rfl (by first | exact Nat.le_of_ble_eq_true rfl | simp [xrf_cat, xcI, xcJ, xcA]) dX6_firstBroken_29 (by decide) (by decide) rfl (fun H locs hR hS => ?_)
      refine lv_istore (lv' := [(7, .int v4), (0, va_rf (some a0)), (2, .int x2), (3, .int x3), (4, .int x4), (5, .int x5), (6, .int x6)]) hx hb dX6_firstBroken_32 hl (by decide) (by first | rfl | simp [xrf_cat]) (fun ls hl => ?_)
      refine x_aload_n (o := (some a0)) hx hb dX6_firstBroken_34 rfl (lv_at hl 1 rfl) ?_
      refine lv_iload hx hb dX6_firstBroken_35 (lv_at hl 6 rfl) ?_
      replace hF := xbind hF; obtain ⟨b7, eb7, hF⟩ := hF
      replace hF := xbind hF; obtain ⟨v6, ev6, hF⟩ := hF
      refine x_callV (o := (some a0)) (ci := 6) (As := [.int x6]) (rest := []) (v := (some (.int v6))) (k := 1) hx hb hml hown hts hR hS eb7 rfl rfl (t_X6_lastOfSpan l D G h b7 x6 v6 ev6) f_X6_lastOfSpan mm_491 mm_493 mm_8 rfl hl.1 rfl (by first | exact Nat.le_of_ble_eq_true rfl | simp [xrf_cat, xcI, xcJ, xcA]) dX6_firstBroken_37 (by decide) (by decide) rfl (fun H locs hR hS => ?_)
      refine lv_istore (lv' := [(8, .int v6), (7, .int v4), (0, va_rf (some a0)), (2, .int x2), (3, .int x3), (4, .int x4), (5, .int x5), (6, .int x6)]) hx hb dX6_firstBroken_40 hl (by decide) (by first | rfl | simp [xrf_cat]) (fun ls hl => ?_)
      refine W.widen (k := 0) (n := 0) (by decide) (by decide) ?_
      exact tl_X6_firstBroken_42 hx hb hr hlk hml hown hnm hts G h a0 x4 x6 v4 v6 (fun x2' x3' x4' x5' x6' => F_X6_firstBroken_18 G h a0 n x2' x3' x4' x5' x6') (fun x2' x3' x4' x5' x6' H locs ls => ih x2' x3' x4' x5' x6' H locs ls) _ x2 x3 x5 _ _ _ hF hR hS (lv_sub hl [2, 3, 4, 5, 6, 7, 1, 0] rfl)
def F_X6_firstBroken (G : Nat → Nat) (h : xH) (a0 : Nat) (x1 : Int32) : Option Int32 :=
  (xc h (some a0) 6).bind fun b2 =>
  (F_X6_firstOfSpan G h b2 x1).bind fun v1 =>
  F_X6_firstBroken_18 G h a0 xN 0 0 v1 v1 x1
set_option maxHeartbeats 4000000 in
set_option maxRecDepth 100000 in
theorem t_X6_firstBroken (l : Launch) (D : va_G) (G : Nat → Nat) (h : xH) (a0 : Nat) (x1 : Int32) (r : Int32) (hF : F_X6_firstBroken G h a0 x1 = some r) : xC l yX6_firstBroken cX6_firstBroken 9 (some .int) rm_X6_firstBroken D G h [.ref a0, .int x1] (some (.int r)) h := by
  refine xC_of (by decide) (by first | decide | exact Nat.le_of_ble_eq_true rfl) ?_
  intro p e s m args below meth c ls hx hb hr hlk hml hown hnm hts hR hS hl
  have hl : lv_has ls 9 [(0, va_rf (some a0)), (1, .int x1)] := hl
  unfold F_X6_firstBroken at hF
  refine lv_iconst (v := 0) hx hb dX6_firstBroken_0 (by decide) ?_
  refine lv_istore_n (lv' := [(2, .int 0), (0, va_rf (some a0)), (1, .int x1)]) hx hb dX6_firstBroken_1 rfl hl (by decide) (by first | rfl | simp [xrf_cat]) (fun ls hl => ?_)
  refine lv_iconst (v := 0) hx hb dX6_firstBroken_2 (by decide) ?_
  refine lv_istore_n (lv' := [(3, .int 0), (2, .int 0), (0, va_rf (some a0)), (1, .int x1)]) hx hb dX6_firstBroken_3 rfl hl (by decide) (by first | rfl | simp [xrf_cat]) (fun ls hl => ?_)
  refine x_aload_n (o := (some a0)) hx hb dX6_firstBroken_4 rfl (lv_at hl 2 rfl) ?_
  refine lv_iload_n hx hb dX6_firstBroken_5 rfl (lv_at hl 3 rfl) ?_
  replace hF := xbind hF; obtain ⟨b2, eb2, hF⟩ := hF
  replace hF := xbind hF; obtain ⟨v1, ev1, hF⟩ := hF
  refine x_callV (o := (some a0)) (ci := 6) (As := [.int x1]) (rest := []) (v := (some (.int v1))) (k := 1) hx hb hml hown hts hR hS eb2 rfl rfl (t_X6_firstOfSpan l D G h b2 x1 v1 ev1) f_X6_firstOfSpan mm_487 mm_489 mm_7 rfl hl.1 rfl (by first | exact Nat.le_of_ble_eq_true rfl | simp [xrf_cat, xcI, xcJ, xcA]) dX6_firstBroken_6 (by decide) (by decide) rfl (fun H locs hR hS => ?_)
  refine lv_istore (lv' := [(4, .int v1), (3, .int 0), (2, .int 0), (0, va_rf (some a0)), (1, .int x1)]) hx hb dX6_firstBroken_9 hl (by decide) (by first | rfl | simp [xrf_cat]) (fun ls hl => ?_)
  refine lv_iload hx hb dX6_firstBroken_11 (lv_at hl 0 rfl) ?_
  refine lv_istore (lv' := [(5, .int v1), (4, .int v1), (3, .int 0), (2, .int 0), (0, va_rf (some a0)), (1, .int x1)]) hx hb dX6_firstBroken_13 hl (by decide) (by first | rfl | simp [xrf_cat]) (fun ls hl => ?_)
  refine lv_iload_n hx hb dX6_firstBroken_15 rfl (lv_at hl 5 rfl) ?_
  refine lv_istore (lv' := [(6, .int x1), (5, .int v1), (4, .int v1), (3, .int 0), (2, .int 0), (0, va_rf (some a0)), (1, .int x1)]) hx hb dX6_firstBroken_16 hl (by decide) (by first | rfl | simp [xrf_cat]) (fun ls hl => ?_)
  refine W.widen (k := 0) (n := 0) (by decide) (by decide) ?_
  exact tl_X6_firstBroken_18 hx hb hr hlk hml hown hnm hts G h a0 _ 0 0 v1 v1 x1 _ _ _ hF hR hS (lv_sub hl [5, 4, 3, 2, 1, 0] rfl)
end
section
def rm_X4_init : Room := { frames := 1, cells := 1, slots := 10, locals := 20 }
theorem f_X4_init : xM yX4_init cX4_init 1 none 0 := ⟨mm_118, mm_59, by decide +kernel, by decide +kernel⟩
theorem dX4_init_0 : decode cX4_init 0 = .ok (.aload_n 0, 1) := by decide +kernel
theorem dX4_init_1 : decode cX4_init 1 = .ok (.invokespecial 3, 3) := by decide +kernel
theorem dX4_init_4 : decode cX4_init 4 = .ok (.aload_n 0, 1) := by decide +kernel
theorem dX4_init_5 : decode cX4_init 5 = .ok (.bipush 10, 2) := by decide +kernel
theorem dX4_init_7 : decode cX4_init 7 = .ok (.newarray .int, 2) := by decide +kernel
theorem dX4_init_9 : decode cX4_init 9 = .ok (.putfield 9, 3) := by decide +kernel
theorem dX4_init_12 : decode cX4_init 12 = .ok (.return_, 1) := by decide +kernel
def F_X4_init (G : Nat → Nat) (h : xH) (a0 : Nat) : Option xH :=
  (nAI G h 10).bind fun (q1, h2) =>
  (xp G h2 (some a0) 4 0 (va_rf (some q1))).bind fun h3 =>
  some h3
set_option maxHeartbeats 4000000 in
set_option maxRecDepth 100000 in
theorem t_X4_init (l : Launch) (D : va_G) (G : Nat → Nat) (h : xH) (a0 : Nat) (h' : xH) (hF : F_X4_init G h a0 = some h') : xC l yX4_init cX4_init 1 none rm_X4_init D G h [.ref a0] none h' := by
  refine xC_of (by decide) (by first | decide | exact Nat.le_of_ble_eq_true rfl) ?_
  intro p e s m args below meth c ls hx hb hr hlk hml hown hnm hts hR hS hl
  have hl : lv_has ls 1 [(0, va_rf (some a0))] := hl
  unfold F_X4_init at hF
  refine x_aload_n (o := (some a0)) hx hb dX4_init_0 rfl (lv_at hl 0 rfl) ?_
  refine x_oinit (o := (some a0)) hx hb hown (hml.trans hl.1.symm) hts mm_119 mm_86 mm_87 rfl dX4_init_1 (by decide) (by decide) (by decide) ?_
  refine x_aload_n (o := (some a0)) hx hb dX4_init_4 rfl (lv_at hl 0 rfl) ?_
  refine lv_bipush (v := 10) hx hb dX4_init_5 (by decide) ?_
  replace hF := xbind hF; obtain ⟨⟨q1, h2⟩, eq1, hF⟩ := hF
  refine x_nAI hx hb hts mm_127 hR hS (by decide) (by decide) (by decide) (by decide) (by decide) eq1 dX4_init_7 (fun H hR hS => ?_)
  replace hF := xbind hF; obtain ⟨h3, eh3, hF⟩ := hF
  refine x_putF (o := (some a0)) (ci := 4) (C := RX4) (T := TX4) (N := 2) hx hb hts iw_X4 tyX4_ok nmX4 hown hR hS rfl 0 (by decide) mm_120 (Or.inl rfl) rfl hnm rfl xnarRA xfitRA eh3 dX4_init_9 (fun H locs hR hS => ?_)
  cases hF
  exact x_vret hx hb hr hlk hR hS (by decide) (by decide) dX4_init_12
def rm_X4_size : Room := { frames := 0, cells := 0, slots := 0, locals := 0 }
theorem f_X4_size : xM yX4_size cX4_size 1 (some .int) 0 := ⟨mm_541, mm_59, by decide +kernel, by decide +kernel⟩
theorem dX4_size_0 : decode cX4_size 0 = .ok (.aload_n 0, 1) := by decide +kernel
theorem dX4_size_1 : decode cX4_size 1 = .ok (.getfield 15, 3) := by decide +kernel
theorem dX4_size_4 : decode cX4_size 4 = .ok (.ireturn, 1) := by decide +kernel
def F_X4_size (G : Nat → Nat) (h : xH) (a0 : Nat) : Option Int32 :=
  (gI h (some a0) 4 1).bind fun v1 =>
  some v1
set_option maxHeartbeats 4000000 in
set_option maxRecDepth 100000 in
theorem t_X4_size (l : Launch) (D : va_G) (G : Nat → Nat) (h : xH) (a0 : Nat) (r : Int32) (hF : F_X4_size G h a0 = some r) : xC l yX4_size cX4_size 1 (some .int) rm_X4_size D G h [.ref a0] (some (.int r)) h := by
  refine xC_of (by decide) (by first | decide | exact Nat.le_of_ble_eq_true rfl) ?_
  intro p e s m args below meth c ls hx hb hr hlk hml hown hnm hts hR hS hl
  have hl : lv_has ls 1 [(0, va_rf (some a0))] := hl
  unfold F_X4_size at hF
  refine x_aload_n (o := (some a0)) hx hb dX4_size_0 rfl (lv_at hl 0 rfl) ?_
  replace hF := xbind hF; obtain ⟨v1, ev1, hF⟩ := hF
  refine x_getI (o := (some a0)) (ci := 4) (C := RX4) (T := TX4) (N := 2) hx hb hts iw_X4 hown hR rfl 1 (by decide) mm_121 (Or.inl rfl) ev1 dX4_size_1 ?_
  cases hF
  exact x_iret hx hb hr rfl hlk hR hS (by decide) (by decide) dX4_size_4
def rm_X4_clear : Room := { frames := 0, cells := 0, slots := 0, locals := 0 }
theorem f_X4_clear : xM yX4_clear cX4_clear 1 none 0 := ⟨mm_567, mm_59, by decide +kernel, by decide +kernel⟩
theorem dX4_clear_0 : decode cX4_clear 0 = .ok (.aload_n 0, 1) := by decide +kernel
theorem dX4_clear_1 : decode cX4_clear 1 = .ok (.iconst 0, 1) := by decide +kernel
theorem dX4_clear_2 : decode cX4_clear 2 = .ok (.putfield 15, 3) := by decide +kernel
theorem dX4_clear_5 : decode cX4_clear 5 = .ok (.return_, 1) := by decide +kernel
def F_X4_clear (G : Nat → Nat) (h : xH) (a0 : Nat) : Option xH :=
  (xp G h (some a0) 4 1 (.int 0)).bind fun h1 =>
  some h1
set_option maxHeartbeats 4000000 in
set_option maxRecDepth 100000 in
theorem t_X4_clear (l : Launch) (D : va_G) (G : Nat → Nat) (h : xH) (a0 : Nat) (h' : xH) (hF : F_X4_clear G h a0 = some h') : xC l yX4_clear cX4_clear 1 none rm_X4_clear D G h [.ref a0] none h' := by
  refine xC_of (by decide) (by first | decide | exact Nat.le_of_ble_eq_true rfl) ?_
  intro p e s m args below meth c ls hx hb hr hlk hml hown hnm hts hR hS hl
  have hl : lv_has ls 1 [(0, va_rf (some a0))] := hl
  unfold F_X4_clear at hF
  refine x_aload_n (o := (some a0)) hx hb dX4_clear_0 rfl (lv_at hl 0 rfl) ?_
  refine lv_iconst (v := 0) hx hb dX4_clear_1 (by decide) ?_
  replace hF := xbind hF; obtain ⟨h1, eh1, hF⟩ := hF
  refine x_put (o := (some a0)) (ci := 4) (C := RX4) (T := TX4) (N := 2) hx hb hts iw_X4 tyX4_ok nmX4 hown hR hS rfl 1 (by decide) mm_121 (Or.inl rfl) rfl rfl rfl eh1 dX4_clear_2 (fun H locs hR hS => ?_)
  cases hF
  exact x_vret hx hb hr hlk hR hS (by decide) (by decide) dX4_clear_5
def rm_X4_add : Room := { frames := 0, cells := 0, slots := 0, locals := 0 }
theorem f_X4_add : xM yX4_add cX4_add 2 (some .int) 1 := ⟨mm_533, mm_59, by decide +kernel, by decide +kernel⟩
theorem dX4_add_0 : decode cX4_add 0 = .ok (.aload_n 0, 1) := by decide +kernel
theorem dX4_add_1 : decode cX4_add 1 = .ok (.getfield 15, 3) := by decide +kernel
theorem dX4_add_4 : decode cX4_add 4 = .ok (.ifCond .lt 12, 3) := by decide +kernel
theorem dX4_add_7 : decode cX4_add 7 = .ok (.aload_n 0, 1) := by decide +kernel
theorem dX4_add_8 : decode cX4_add 8 = .ok (.getfield 15, 3) := by decide +kernel
theorem dX4_add_11 : decode cX4_add 11 = .ok (.bipush 10, 2) := by decide +kernel
theorem dX4_add_13 : decode cX4_add 13 = .ok (.if_icmp .lt 5, 3) := by decide +kernel
theorem dX4_add_16 : decode cX4_add 16 = .ok (.iconst (-1), 1) := by decide +kernel
theorem dX4_add_17 : decode cX4_add 17 = .ok (.ireturn, 1) := by decide +kernel
theorem dX4_add_18 : decode cX4_add 18 = .ok (.aload_n 0, 1) := by decide +kernel
theorem dX4_add_19 : decode cX4_add 19 = .ok (.getfield 9, 3) := by decide +kernel
theorem dX4_add_22 : decode cX4_add 22 = .ok (.aload_n 0, 1) := by decide +kernel
theorem dX4_add_23 : decode cX4_add 23 = .ok (.getfield 15, 3) := by decide +kernel
theorem dX4_add_26 : decode cX4_add 26 = .ok (.iload_n 1, 1) := by decide +kernel
theorem dX4_add_27 : decode cX4_add 27 = .ok (.iastore, 1) := by decide +kernel
theorem dX4_add_28 : decode cX4_add 28 = .ok (.aload_n 0, 1) := by decide +kernel
theorem dX4_add_29 : decode cX4_add 29 = .ok (.dup, 1) := by decide +kernel
theorem dX4_add_30 : decode cX4_add 30 = .ok (.getfield 15, 3) := by decide +kernel
theorem dX4_add_33 : decode cX4_add 33 = .ok (.iconst 1, 1) := by decide +kernel
theorem dX4_add_34 : decode cX4_add 34 = .ok (.iadd, 1) := by decide +kernel
theorem dX4_add_35 : decode cX4_add 35 = .ok (.putfield 15, 3) := by decide +kernel
theorem dX4_add_38 : decode cX4_add 38 = .ok (.aload_n 0, 1) := by decide +kernel
theorem dX4_add_39 : decode cX4_add 39 = .ok (.getfield 15, 3) := by decide +kernel
theorem dX4_add_42 : decode cX4_add 42 = .ok (.ireturn, 1) := by decide +kernel
def F_X4_add (G : Nat → Nat) (h : xH) (a0 : Nat) (x1 : Int32) : Option (Int32 × xH) :=
  (gI h (some a0) 4 1).bind fun v1 =>
  if v1 < 0 then
    some ((-1), h)
  else
  (gI h (some a0) 4 1).bind fun v3 =>
  if v3 < 10 then
    (gR h (some a0) 4 0).bind fun w5 =>
    (gI h (some a0) 4 1).bind fun v6 =>
    (stI 2 G h w5 v6 x1).bind fun h7 =>
    (gI h7 (some a0) 4 1).bind fun v8 =>
    (xp G h7 (some a0) 4 1 (.int (v8 + 1))).bind fun h9 =>
    (gI h9 (some a0) 4 1).bind fun v10 =>
    some (v10, h9)
  else
  some ((-1), h)
set_option maxHeartbeats 4000000 in
set_option maxRecDepth 100000 in
theorem t_X4_add (l : Launch) (D : va_G) (G : Nat → Nat) (h : xH) (a0 : Nat) (x1 : Int32) (r : Int32) (h' : xH) (hF : F_X4_add G h a0 x1 = some (r, h')) : xC l yX4_add cX4_add 2 (some .int) rm_X4_add D G h [.ref a0, .int x1] (some (.int r)) h' := by
  refine xC_of (by decide) (by first | decide | exact Nat.le_of_ble_eq_true rfl) ?_
  intro p e s m args below meth c ls hx hb hr hlk hml hown hnm hts hR hS hl
  have hl : lv_has ls 2 [(0, va_rf (some a0)), (1, .int x1)] := hl
  unfold F_X4_add at hF
  refine x_aload_n (o := (some a0)) hx hb dX4_add_0 rfl (lv_at hl 0 rfl) ?_
  replace hF := xbind hF; obtain ⟨v1, ev1, hF⟩ := hF
  refine x_getI (o := (some a0)) (ci := 4) (C := RX4) (T := TX4) (N := 2) hx hb hts iw_X4 hown hR rfl 1 (by decide) mm_121 (Or.inl rfl) ev1 dX4_add_1 ?_
  refine lv_if_lt (tgt := 16) hx hb dX4_add_4 (by decide) (fun c2 => ?_) (fun c2 => ?_)
  · replace hF := xift c2 hF
    refine lv_iconst (v := (-1)) hx hb dX4_add_16 (by decide) ?_
    cases hF
    exact x_iret hx hb hr rfl hlk hR hS (by decide) (by decide) dX4_add_17
  · replace hF := xiff c2 hF
    refine x_aload_n (o := (some a0)) hx hb dX4_add_7 rfl (lv_at hl 0 rfl) ?_
    replace hF := xbind hF; obtain ⟨v3, ev3, hF⟩ := hF
    refine x_getI (o := (some a0)) (ci := 4) (C := RX4) (T := TX4) (N := 2) hx hb hts iw_X4 hown hR rfl 1 (by decide) mm_121 (Or.inl rfl) ev3 dX4_add_8 ?_
    refine lv_bipush (v := 10) hx hb dX4_add_11 (by decide) ?_
    refine lv_icmp_lt (tgt := 18) hx hb dX4_add_13 (by decide) (fun c4 => ?_) (fun c4 => ?_)
    · replace hF := xift c4 hF
      refine x_aload_n (o := (some a0)) hx hb dX4_add_18 rfl (lv_at hl 0 rfl) ?_
      replace hF := xbind hF; obtain ⟨w5, ew5, hF⟩ := hF
      refine x_getR (o := (some a0)) (ci := 4) (C := RX4) (T := TX4) (N := 2) hx hb hts iw_X4 hown hR rfl 0 (by decide) mm_120 (Or.inl rfl) ew5 dX4_add_19 ?_
      refine x_aload_n (o := (some a0)) hx hb dX4_add_22 rfl (lv_at hl 0 rfl) ?_
      replace hF := xbind hF; obtain ⟨v6, ev6, hF⟩ := hF
      refine x_getI (o := (some a0)) (ci := 4) (C := RX4) (T := TX4) (N := 2) hx hb hts iw_X4 hown hR rfl 1 (by decide) mm_121 (Or.inl rfl) ev6 dX4_add_23 ?_
      refine lv_iload_n hx hb dX4_add_26 rfl (lv_at hl 1 rfl) ?_
      replace hF := xbind hF; obtain ⟨h7, eh7, hF⟩ := hF
      refine x_ist (o := w5) hx hb hR hS eh7 dX4_add_27 (fun H locs hR hS => ?_)
      refine x_aload_n (o := (some a0)) hx hb dX4_add_28 rfl (lv_at hl 0 rfl) ?_
      refine lv_dup hx hb dX4_add_29 xrf_cat ?_
      replace hF := xbind hF; obtain ⟨v8, ev8, hF⟩ := hF
      refine x_getI (o := (some a0)) (ci := 4) (C := RX4) (T := TX4) (N := 2) hx hb hts iw_X4 hown hR rfl 1 (by decide) mm_121 (Or.inl rfl) ev8 dX4_add_30 ?_
      refine lv_iconst (v := 1) hx hb dX4_add_33 (by decide) ?_
      refine lv_iadd hx hb dX4_add_34 ?_
      replace hF := xbind hF; obtain ⟨h9, eh9, hF⟩ := hF
      refine x_put (o := (some a0)) (ci := 4) (C := RX4) (T := TX4) (N := 2) hx hb hts iw_X4 tyX4_ok nmX4 hown hR hS rfl 1 (by decide) mm_121 (Or.inl rfl) rfl rfl rfl eh9 dX4_add_35 (fun H locs hR hS => ?_)
      refine x_aload_n (o := (some a0)) hx hb dX4_add_38 rfl (lv_at hl 0 rfl) ?_
      replace hF := xbind hF; obtain ⟨v10, ev10, hF⟩ := hF
      refine x_getI (o := (some a0)) (ci := 4) (C := RX4) (T := TX4) (N := 2) hx hb hts iw_X4 hown hR rfl 1 (by decide) mm_121 (Or.inl rfl) ev10 dX4_add_39 ?_
      cases hF
      exact x_iret hx hb hr rfl hlk hR hS (by decide) (by decide) dX4_add_42
    · replace hF := xiff c4 hF
      refine lv_iconst (v := (-1)) hx hb dX4_add_16 (by decide) ?_
      cases hF
      exact x_iret hx hb hr rfl hlk hR hS (by decide) (by decide) dX4_add_17
def rm_X4_fitInto : Room := { frames := 0, cells := 0, slots := 0, locals := 0 }
theorem f_X4_fitInto : xM yX4_fitInto cX4_fitInto 3 (some .boolean) 1 := ⟨mm_545, mm_59, by decide +kernel, by decide +kernel⟩
theorem dX4_fitInto_0 : decode cX4_fitInto 0 = .ok (.iconst 0, 1) := by decide +kernel
theorem dX4_fitInto_1 : decode cX4_fitInto 1 = .ok (.istore_n 2, 1) := by decide +kernel
theorem dX4_fitInto_2 : decode cX4_fitInto 2 = .ok (.iload_n 2, 1) := by decide +kernel
theorem dX4_fitInto_3 : decode cX4_fitInto 3 = .ok (.aload_n 0, 1) := by decide +kernel
theorem dX4_fitInto_4 : decode cX4_fitInto 4 = .ok (.getfield 15, 3) := by decide +kernel
theorem dX4_fitInto_7 : decode cX4_fitInto 7 = .ok (.if_icmp .ge 27, 3) := by decide +kernel
theorem dX4_fitInto_10 : decode cX4_fitInto 10 = .ok (.iload_n 2, 1) := by decide +kernel
theorem dX4_fitInto_11 : decode cX4_fitInto 11 = .ok (.bipush 10, 2) := by decide +kernel
theorem dX4_fitInto_13 : decode cX4_fitInto 13 = .ok (.if_icmp .ge 21, 3) := by decide +kernel
theorem dX4_fitInto_16 : decode cX4_fitInto 16 = .ok (.aload_n 0, 1) := by decide +kernel
theorem dX4_fitInto_17 : decode cX4_fitInto 17 = .ok (.getfield 9, 3) := by decide +kernel
theorem dX4_fitInto_20 : decode cX4_fitInto 20 = .ok (.iload_n 2, 1) := by decide +kernel
theorem dX4_fitInto_21 : decode cX4_fitInto 21 = .ok (.iaload, 1) := by decide +kernel
theorem dX4_fitInto_22 : decode cX4_fitInto 22 = .ok (.iload_n 1, 1) := by decide +kernel
theorem dX4_fitInto_23 : decode cX4_fitInto 23 = .ok (.if_icmp .le 5, 3) := by decide +kernel
theorem dX4_fitInto_26 : decode cX4_fitInto 26 = .ok (.iconst 0, 1) := by decide +kernel
theorem dX4_fitInto_27 : decode cX4_fitInto 27 = .ok (.ireturn, 1) := by decide +kernel
theorem dX4_fitInto_28 : decode cX4_fitInto 28 = .ok (.iinc 2 1, 3) := by decide +kernel
theorem dX4_fitInto_31 : decode cX4_fitInto 31 = .ok (.goto (-29), 3) := by decide +kernel
theorem dX4_fitInto_34 : decode cX4_fitInto 34 = .ok (.iconst 1, 1) := by decide +kernel
theorem dX4_fitInto_35 : decode cX4_fitInto 35 = .ok (.ireturn, 1) := by decide +kernel
def F_X4_fitInto_2 (G : Nat → Nat) (h : xH) (a0 : Nat) (x1 : Int32) : Nat → Int32 → Option Int32
  | 0, _ => none
  | n + 1, x2 =>
    (gI h (some a0) 4 1).bind fun v1 =>
    if v1 ≤ x2 then
      some 1
    else
    if 10 ≤ x2 then
      some 1
    else
    (gR h (some a0) 4 0).bind fun w4 =>
    (ldI 2 G h w4 x2).bind fun v5 =>
    if v5 ≤ x1 then
      xl (x2 + 1) fun v7 =>
      F_X4_fitInto_2 G h a0 x1 n v7
    else
    some 0
set_option maxHeartbeats 4000000 in
set_option maxRecDepth 100000 in
theorem tl_X4_fitInto_2 {p : Program} {l : Launch} {e : Env} {s : State} {m : MethodId} {args : Array Value} {below : List Frame} {meth : Method} {c : Code} {D : va_G} {r : Int32} (hx : p.tables.exec = Jvm.exec) (hb : c.code = cX4_fitInto) (hr : meth.sig.returnType = (some .boolean)) (hlk : meth.locks = false) (hml : c.maxLocals = 3) (hown : s.vm.findClass RX4 = some m.cls) (hnm : meth.name = "fitInto") (hts : ∀ w ∈ xt, w.before args s = true) (G : Nat → Nat) (h : xH) (a0 : Nat) (x1 : Int32) : ∀ (n : Nat) (x2 : Int32) (H : Heap) (locs : List Loc) (ls : Array Slot), F_X4_fitInto_2 G h a0 x1 n x2 = some r → xR D G h s H → va_S (xA G) s.heap H locs → lv_has ls 3 [(0, va_rf (some a0)), (1, .int x1), (2, .int x2)] → W p l e rm_X4_fitInto s m args below meth c H locs 0 0 (MQ below (xQ D G (some (.int r)) h) args s rm_X4_fitInto.cells rm_X4_fitInto.slots (xA G)) (F0 m 2 ls []) := by
  intro n
  induction n with
  | zero =>
    intro x2 H locs ls hF
    rw [F_X4_fitInto_2.eq_1] at hF
    cases hF
  | succ n ih =>
    intro x2 H locs ls hF hR hS hl
    rw [F_X4_fitInto_2.eq_2] at hF
    refine lv_iload_n hx hb dX4_fitInto_2 rfl (lv_at hl 2 rfl) ?_
    refine x_aload_n (o := (some a0)) hx hb dX4_fitInto_3 rfl (lv_at hl 0 rfl) ?_
    replace hF := xbind hF; obtain ⟨v1, ev1, hF⟩ := hF
    refine x_getI (o := (some a0)) (ci := 4) (C := RX4) (T := TX4) (N := 2) hx hb hts iw_X4 hown hR rfl 1 (by decide) mm_121 (Or.inl rfl) ev1 dX4_fitInto_4 ?_
    refine lv_icmp_ge (tgt := 34) hx hb dX4_fitInto_7 (by decide) (fun c2 => ?_) (fun c2 => ?_)
    · replace hF := xift c2 hF
      refine lv_iconst (v := 1) hx hb dX4_fitInto_34 (by decide) ?_
      cases hF
      exact x_iret hx hb hr rfl hlk hR hS (by decide) (by decide) dX4_fitInto_35
    · replace hF := xiff c2 hF
      refine lv_iload_n hx hb dX4_fitInto_10 rfl (lv_at hl 2 rfl) ?_
      refine lv_bipush (v := 10) hx hb dX4_fitInto_11 (by decide) ?_
      refine lv_icmp_ge (tgt := 34) hx hb dX4_fitInto_13 (by decide) (fun c3 => ?_) (fun c3 => ?_)
      · replace hF := xift c3 hF
        refine lv_iconst (v := 1) hx hb dX4_fitInto_34 (by decide) ?_
        cases hF
        exact x_iret hx hb hr rfl hlk hR hS (by decide) (by decide) dX4_fitInto_35
      · replace hF := xiff c3 hF
        refine x_aload_n (o := (some a0)) hx hb dX4_fitInto_16 rfl (lv_at hl 0 rfl) ?_
        replace hF := xbind hF; obtain ⟨w4, ew4, hF⟩ := hF
        refine x_getR (o := (some a0)) (ci := 4) (C := RX4) (T := TX4) (N := 2) hx hb hts iw_X4 hown hR rfl 0 (by decide) mm_120 (Or.inl rfl) ew4 dX4_fitInto_17 ?_
        refine lv_iload_n hx hb dX4_fitInto_20 rfl (lv_at hl 2 rfl) ?_
        replace hF := xbind hF; obtain ⟨v5, ev5, hF⟩ := hF
        refine x_ild (o := w4) hx hb hR ev5 dX4_fitInto_21 ?_
        refine lv_iload_n hx hb dX4_fitInto_22 rfl (lv_at hl 1 rfl) ?_
        refine lv_icmp_le (tgt := 28) hx hb dX4_fitInto_23 (by decide) (fun c6 => ?_) (fun c6 => ?_)
        · replace hF := xift c6 hF
          obtain ⟨v7, ev7⟩ : ∃ z : Int32, z = (x2 + 1) := ⟨_, rfl⟩
          replace hF := xlet ev7 hF
          refine lv_iinc (v := v7) (lv' := [(2, .int v7), (0, va_rf (some a0)), (1, .int x1)]) hx hb dX4_fitInto_28 hl (k := 2) rfl (by rw [ev7]; rfl) (by decide) (by first | rfl | simp [xrf_cat]) (fun ls hl => ?_)
          refine lv_goto (tgt := 2) hx hb dX4_fitInto_31 (by decide) ?_
          exact ih v7 _ _ _ hF hR hS (lv_sub hl [1, 2, 0] rfl)
        · replace hF := xiff c6 hF
          refine lv_iconst (v := 0) hx hb dX4_fitInto_26 (by decide) ?_
          cases hF
          exact x_iret hx hb hr rfl hlk hR hS (by decide) (by decide) dX4_fitInto_27
def F_X4_fitInto (G : Nat → Nat) (h : xH) (a0 : Nat) (x1 : Int32) : Option Int32 :=
  F_X4_fitInto_2 G h a0 x1 xN 0
set_option maxHeartbeats 4000000 in
set_option maxRecDepth 100000 in
theorem t_X4_fitInto (l : Launch) (D : va_G) (G : Nat → Nat) (h : xH) (a0 : Nat) (x1 : Int32) (r : Int32) (hF : F_X4_fitInto G h a0 x1 = some r) : xC l yX4_fitInto cX4_fitInto 3 (some .boolean) rm_X4_fitInto D G h [.ref a0, .int x1] (some (.int r)) h := by
  refine xC_of (by decide) (by first | decide | exact Nat.le_of_ble_eq_true rfl) ?_
  intro p e s m args below meth c ls hx hb hr hlk hml hown hnm hts hR hS hl
  have hl : lv_has ls 3 [(0, va_rf (some a0)), (1, .int x1)] := hl
  unfold F_X4_fitInto at hF
  refine lv_iconst (v := 0) hx hb dX4_fitInto_0 (by decide) ?_
  refine lv_istore_n (lv' := [(2, .int 0), (0, va_rf (some a0)), (1, .int x1)]) hx hb dX4_fitInto_1 rfl hl (by decide) (by first | rfl | simp [xrf_cat]) (fun ls hl => ?_)
  refine W.widen (k := 0) (n := 0) (by decide) (by decide) ?_
  exact tl_X4_fitInto_2 hx hb hr hlk hml hown hnm hts G h a0 x1 _ 0 _ _ _ hF hR hS (lv_sub hl [1, 2, 0] rfl)
def rm_X4_canMeet : Room := { frames := 1, cells := 0, slots := 0, locals := 23 }
theorem f_X4_canMeet : xM yX4_canMeet cX4_canMeet 7 (some .boolean) 4 := ⟨mm_558, mm_59, by decide +kernel, by decide +kernel⟩
theorem dX4_canMeet_0 : decode cX4_canMeet 0 = .ok (.iconst 0, 1) := by decide +kernel
theorem dX4_canMeet_1 : decode cX4_canMeet 1 = .ok (.istore 5, 2) := by decide +kernel
theorem dX4_canMeet_3 : decode cX4_canMeet 3 = .ok (.iconst 0, 1) := by decide +kernel
theorem dX4_canMeet_4 : decode cX4_canMeet 4 = .ok (.istore 6, 2) := by decide +kernel
theorem dX4_canMeet_6 : decode cX4_canMeet 6 = .ok (.iload 6, 2) := by decide +kernel
theorem dX4_canMeet_8 : decode cX4_canMeet 8 = .ok (.aload_n 0, 1) := by decide +kernel
theorem dX4_canMeet_9 : decode cX4_canMeet 9 = .ok (.getfield 15, 3) := by decide +kernel
theorem dX4_canMeet_12 : decode cX4_canMeet 12 = .ok (.if_icmp .ge 49, 3) := by decide +kernel
theorem dX4_canMeet_15 : decode cX4_canMeet 15 = .ok (.iload 6, 2) := by decide +kernel
theorem dX4_canMeet_17 : decode cX4_canMeet 17 = .ok (.bipush 10, 2) := by decide +kernel
theorem dX4_canMeet_19 : decode cX4_canMeet 19 = .ok (.if_icmp .ge 42, 3) := by decide +kernel
theorem dX4_canMeet_22 : decode cX4_canMeet 22 = .ok (.iload 5, 2) := by decide +kernel
theorem dX4_canMeet_24 : decode cX4_canMeet 24 = .ok (.iload 4, 2) := by decide +kernel
theorem dX4_canMeet_26 : decode cX4_canMeet 26 = .ok (.ifCond .eq 15, 3) := by decide +kernel
theorem dX4_canMeet_29 : decode cX4_canMeet 29 = .ok (.iload_n 1, 1) := by decide +kernel
theorem dX4_canMeet_30 : decode cX4_canMeet 30 = .ok (.aload_n 0, 1) := by decide +kernel
theorem dX4_canMeet_31 : decode cX4_canMeet 31 = .ok (.getfield 9, 3) := by decide +kernel
theorem dX4_canMeet_34 : decode cX4_canMeet 34 = .ok (.iload 6, 2) := by decide +kernel
theorem dX4_canMeet_36 : decode cX4_canMeet 36 = .ok (.iaload, 1) := by decide +kernel
theorem dX4_canMeet_37 : decode cX4_canMeet 37 = .ok (.isub, 1) := by decide +kernel
theorem dX4_canMeet_38 : decode cX4_canMeet 38 = .ok (.goto 10, 3) := by decide +kernel
theorem dX4_canMeet_41 : decode cX4_canMeet 41 = .ok (.aload_n 0, 1) := by decide +kernel
theorem dX4_canMeet_42 : decode cX4_canMeet 42 = .ok (.getfield 9, 3) := by decide +kernel
theorem dX4_canMeet_45 : decode cX4_canMeet 45 = .ok (.iload 6, 2) := by decide +kernel
theorem dX4_canMeet_47 : decode cX4_canMeet 47 = .ok (.iaload, 1) := by decide +kernel
theorem dX4_canMeet_48 : decode cX4_canMeet 48 = .ok (.iload_n 2, 1) := by decide +kernel
theorem dX4_canMeet_49 : decode cX4_canMeet 49 = .ok (.invokestatic 28, 3) := by decide +kernel
theorem dX4_canMeet_52 : decode cX4_canMeet 52 = .ok (.iadd, 1) := by decide +kernel
theorem dX4_canMeet_53 : decode cX4_canMeet 53 = .ok (.istore 5, 2) := by decide +kernel
theorem dX4_canMeet_55 : decode cX4_canMeet 55 = .ok (.iinc 6 1, 3) := by decide +kernel
theorem dX4_canMeet_58 : decode cX4_canMeet 58 = .ok (.goto (-52), 3) := by decide +kernel
theorem dX4_canMeet_61 : decode cX4_canMeet 61 = .ok (.iload 5, 2) := by decide +kernel
theorem dX4_canMeet_63 : decode cX4_canMeet 63 = .ok (.iload_n 3, 1) := by decide +kernel
theorem dX4_canMeet_64 : decode cX4_canMeet 64 = .ok (.iload_n 2, 1) := by decide +kernel
theorem dX4_canMeet_65 : decode cX4_canMeet 65 = .ok (.imul, 1) := by decide +kernel
theorem dX4_canMeet_66 : decode cX4_canMeet 66 = .ok (.if_icmp .lt 7, 3) := by decide +kernel
theorem dX4_canMeet_69 : decode cX4_canMeet 69 = .ok (.iconst 1, 1) := by decide +kernel
theorem dX4_canMeet_70 : decode cX4_canMeet 70 = .ok (.goto 4, 3) := by decide +kernel
theorem dX4_canMeet_73 : decode cX4_canMeet 73 = .ok (.iconst 0, 1) := by decide +kernel
theorem dX4_canMeet_74 : decode cX4_canMeet 74 = .ok (.ireturn, 1) := by decide +kernel
def F_X4_canMeet_6 (G : Nat → Nat) (h : xH) (a0 : Nat) (x1 : Int32) (x2 : Int32) (x3 : Int32) (x4 : Int32) : Nat → Int32 → Int32 → Option Int32
  | 0, _, _ => none
  | n + 1, x5, x6 =>
    (gI h (some a0) 4 1).bind fun v1 =>
    if v1 ≤ x6 then
      if x5 < (x3 * x2) then
        some 0
      else
      some 1
    else
    if 10 ≤ x6 then
      if x5 < (x3 * x2) then
        some 0
      else
      some 1
    else
    if x4 = 0 then
      (gR h (some a0) 4 0).bind fun w7 =>
      (ldI 2 G h w7 x6).bind fun v8 =>
      xl (x5 + (xmin v8 x2)) fun v9 =>
      xl (x6 + 1) fun v10 =>
      F_X4_canMeet_6 G h a0 x1 x2 x3 x4 n v9 v10
    else
    (gR h (some a0) 4 0).bind fun w11 =>
    (ldI 2 G h w11 x6).bind fun v12 =>
    xl (x5 + (xmin (x1 - v12) x2)) fun v13 =>
    xl (x6 + 1) fun v14 =>
    F_X4_canMeet_6 G h a0 x1 x2 x3 x4 n v13 v14
set_option maxHeartbeats 4000000 in
set_option maxRecDepth 100000 in
theorem tl_X4_canMeet_6 {p : Program} {l : Launch} {e : Env} {s : State} {m : MethodId} {args : Array Value} {below : List Frame} {meth : Method} {c : Code} {D : va_G} {r : Int32} (hx : p.tables.exec = Jvm.exec) (hb : c.code = cX4_canMeet) (hr : meth.sig.returnType = (some .boolean)) (hlk : meth.locks = false) (hml : c.maxLocals = 7) (hown : s.vm.findClass RX4 = some m.cls) (hnm : meth.name = "canMeet") (hts : ∀ w ∈ xt, w.before args s = true) (G : Nat → Nat) (h : xH) (a0 : Nat) (x1 : Int32) (x2 : Int32) (x3 : Int32) (x4 : Int32) : ∀ (n : Nat) (x5 : Int32) (x6 : Int32) (H : Heap) (locs : List Loc) (ls : Array Slot), F_X4_canMeet_6 G h a0 x1 x2 x3 x4 n x5 x6 = some r → xR D G h s H → va_S (xA G) s.heap H locs → lv_has ls 7 [(0, va_rf (some a0)), (1, .int x1), (2, .int x2), (3, .int x3), (4, .int x4), (5, .int x5), (6, .int x6)] → W p l e rm_X4_canMeet s m args below meth c H locs 0 0 (MQ below (xQ D G (some (.int r)) h) args s rm_X4_canMeet.cells rm_X4_canMeet.slots (xA G)) (F0 m 6 ls []) := by
  intro n
  induction n with
  | zero =>
    intro x5 x6 H locs ls hF
    rw [F_X4_canMeet_6.eq_1] at hF
    cases hF
  | succ n ih =>
    intro x5 x6 H locs ls hF hR hS hl
    rw [F_X4_canMeet_6.eq_2] at hF
    refine lv_iload hx hb dX4_canMeet_6 (lv_at hl 6 rfl) ?_
    refine x_aload_n (o := (some a0)) hx hb dX4_canMeet_8 rfl (lv_at hl 0 rfl) ?_
    replace hF := xbind hF; obtain ⟨v1, ev1, hF⟩ := hF
    refine x_getI (o := (some a0)) (ci := 4) (C := RX4) (T := TX4) (N := 2) hx hb hts iw_X4 hown hR rfl 1 (by decide) mm_121 (Or.inl rfl) ev1 dX4_canMeet_9 ?_
    refine lv_icmp_ge (tgt := 61) hx hb dX4_canMeet_12 (by decide) (fun c2 => ?_) (fun c2 => ?_)
    · replace hF := xift c2 hF
      refine lv_iload hx hb dX4_canMeet_61 (lv_at hl 5 rfl) ?_
      refine lv_iload_n hx hb dX4_canMeet_63 rfl (lv_at hl 3 rfl) ?_
      refine lv_iload_n hx hb dX4_canMeet_64 rfl (lv_at hl 2 rfl) ?_
      refine lv_imul hx hb dX4_canMeet_65 ?_
      refine lv_icmp_lt (tgt := 73) hx hb dX4_canMeet_66 (by decide) (fun c3 => ?_) (fun c3 => ?_)
      · replace hF := xift c3 hF
        refine lv_iconst (v := 0) hx hb dX4_canMeet_73 (by decide) ?_
        cases hF
        exact x_iret hx hb hr rfl hlk hR hS (by decide) (by decide) dX4_canMeet_74
      · replace hF := xiff c3 hF
        refine lv_iconst (v := 1) hx hb dX4_canMeet_69 (by decide) ?_
        refine lv_goto (tgt := 74) hx hb dX4_canMeet_70 (by decide) ?_
        cases hF
        exact x_iret hx hb hr rfl hlk hR hS (by decide) (by decide) dX4_canMeet_74
    · replace hF := xiff c2 hF
      refine lv_iload hx hb dX4_canMeet_15 (lv_at hl 6 rfl) ?_
      refine lv_bipush (v := 10) hx hb dX4_canMeet_17 (by decide) ?_
      refine lv_icmp_ge (tgt := 61) hx hb dX4_canMeet_19 (by decide) (fun c4 => ?_) (fun c4 => ?_)
      · replace hF := xift c4 hF
        refine lv_iload hx hb dX4_canMeet_61 (lv_at hl 5 rfl) ?_
        refine lv_iload_n hx hb dX4_canMeet_63 rfl (lv_at hl 3 rfl) ?_
        refine lv_iload_n hx hb dX4_canMeet_64 rfl (lv_at hl 2 rfl) ?_
        refine lv_imul hx hb dX4_canMeet_65 ?_
        refine lv_icmp_lt (tgt := 73) hx hb dX4_canMeet_66 (by decide) (fun c5 => ?_) (fun c5 => ?_)
        · replace hF := xift c5 hF
          refine lv_iconst (v := 0) hx hb dX4_canMeet_73 (by decide) ?_
          cases hF
          exact x_iret hx hb hr rfl hlk hR hS (by decide) (by decide) dX4_canMeet_74
        · replace hF := xiff c5 hF
          refine lv_iconst (v := 1) hx hb dX4_canMeet_69 (by decide) ?_
          refine lv_goto (tgt := 74) hx hb dX4_canMeet_70 (by decide) ?_
          cases hF
          exact x_iret hx hb hr rfl hlk hR hS (by decide) (by decide) dX4_canMeet_74
      · replace hF := xiff c4 hF
        refine lv_iload hx hb dX4_canMeet_22 (lv_at hl 5 rfl) ?_
        refine lv_iload hx hb dX4_canMeet_24 (lv_at hl 4 rfl) ?_
        refine lv_if_eq (tgt := 41) hx hb dX4_canMeet_26 (by decide) (fun c6 => ?_) (fun c6 => ?_)
        · replace hF := xift c6 hF
          refine x_aload_n (o := (some a0)) hx hb dX4_canMeet_41 rfl (lv_at hl 0 rfl) ?_
          replace hF := xbind hF; obtain ⟨w7, ew7, hF⟩ := hF
          refine x_getR (o := (some a0)) (ci := 4) (C := RX4) (T := TX4) (N := 2) hx hb hts iw_X4 hown hR rfl 0 (by decide) mm_120 (Or.inl rfl) ew7 dX4_canMeet_42 ?_
          refine lv_iload hx hb dX4_canMeet_45 (lv_at hl 6 rfl) ?_
          replace hF := xbind hF; obtain ⟨v8, ev8, hF⟩ := hF
          refine x_ild (o := w7) hx hb hR ev8 dX4_canMeet_47 ?_
          refine lv_iload_n hx hb dX4_canMeet_48 rfl (lv_at hl 2 rfl) ?_
          refine x_min hx hb (hml.trans hl.1.symm) hown hts mm_559 mm_313 mm_65 mm_314 (by decide) (by first | exact Nat.le_of_ble_eq_true rfl | simp [xrf_cat, xcI, xcJ, xcA]) (by decide) (by decide) dX4_canMeet_49 ?_
          refine lv_iadd hx hb dX4_canMeet_52 ?_
          refine lv_topi (fun v9 ev9 => ?_)
          replace hF := xlet ev9 hF
          refine lv_istore (lv' := [(5, .int v9), (0, va_rf (some a0)), (1, .int x1), (2, .int x2), (3, .int x3), (4, .int x4), (6, .int x6)]) hx hb dX4_canMeet_53 hl (by decide) (by first | rfl | simp [xrf_cat]) (fun ls hl => ?_)
          obtain ⟨v10, ev10⟩ : ∃ z : Int32, z = (x6 + 1) := ⟨_, rfl⟩
          replace hF := xlet ev10 hF
          refine lv_iinc (v := v10) (lv' := [(6, .int v10), (5, .int v9), (0, va_rf (some a0)), (1, .int x1), (2, .int x2), (3, .int x3), (4, .int x4)]) hx hb dX4_canMeet_55 hl (k := 6) rfl (by rw [ev10]; rfl) (by decide) (by first | rfl | simp [xrf_cat]) (fun ls hl => ?_)
          refine lv_goto (tgt := 6) hx hb dX4_canMeet_58 (by decide) ?_
          exact ih v9 v10 _ _ _ hF hR hS (lv_sub hl [2, 3, 4, 5, 6, 1, 0] rfl)
        · replace hF := xiff c6 hF
          refine lv_iload_n hx hb dX4_canMeet_29 rfl (lv_at hl 1 rfl) ?_
          refine x_aload_n (o := (some a0)) hx hb dX4_canMeet_30 rfl (lv_at hl 0 rfl) ?_
          replace hF := xbind hF; obtain ⟨w11, ew11, hF⟩ := hF
          refine x_getR (o := (some a0)) (ci := 4) (C := RX4) (T := TX4) (N := 2) hx hb hts iw_X4 hown hR rfl 0 (by decide) mm_120 (Or.inl rfl) ew11 dX4_canMeet_31 ?_
          refine lv_iload hx hb dX4_canMeet_34 (lv_at hl 6 rfl) ?_
          replace hF := xbind hF; obtain ⟨v12, ev12, hF⟩ := hF
          refine x_ild (o := w11) hx hb hR ev12 dX4_canMeet_36 ?_
          refine lv_isub hx hb dX4_canMeet_37 ?_
          refine lv_goto (tgt := 48) hx hb dX4_canMeet_38 (by decide) ?_
          refine lv_iload_n hx hb dX4_canMeet_48 rfl (lv_at hl 2 rfl) ?_
          refine x_min hx hb (hml.trans hl.1.symm) hown hts mm_559 mm_313 mm_65 mm_314 (by decide) (by first | exact Nat.le_of_ble_eq_true rfl | simp [xrf_cat, xcI, xcJ, xcA]) (by decide) (by decide) dX4_canMeet_49 ?_
          refine lv_iadd hx hb dX4_canMeet_52 ?_
          refine lv_topi (fun v13 ev13 => ?_)
          replace hF := xlet ev13 hF
          refine lv_istore (lv' := [(5, .int v13), (0, va_rf (some a0)), (1, .int x1), (2, .int x2), (3, .int x3), (4, .int x4), (6, .int x6)]) hx hb dX4_canMeet_53 hl (by decide) (by first | rfl | simp [xrf_cat]) (fun ls hl => ?_)
          obtain ⟨v14, ev14⟩ : ∃ z : Int32, z = (x6 + 1) := ⟨_, rfl⟩
          replace hF := xlet ev14 hF
          refine lv_iinc (v := v14) (lv' := [(6, .int v14), (5, .int v13), (0, va_rf (some a0)), (1, .int x1), (2, .int x2), (3, .int x3), (4, .int x4)]) hx hb dX4_canMeet_55 hl (k := 6) rfl (by rw [ev14]; rfl) (by decide) (by first | rfl | simp [xrf_cat]) (fun ls hl => ?_)
          refine lv_goto (tgt := 6) hx hb dX4_canMeet_58 (by decide) ?_
          exact ih v13 v14 _ _ _ hF hR hS (lv_sub hl [2, 3, 4, 5, 6, 1, 0] rfl)
def F_X4_canMeet (G : Nat → Nat) (h : xH) (a0 : Nat) (x1 : Int32) (x2 : Int32) (x3 : Int32) (x4 : Int32) : Option Int32 :=
  F_X4_canMeet_6 G h a0 x1 x2 x3 x4 xN 0 0
set_option maxHeartbeats 4000000 in
set_option maxRecDepth 100000 in
theorem t_X4_canMeet (l : Launch) (D : va_G) (G : Nat → Nat) (h : xH) (a0 : Nat) (x1 : Int32) (x2 : Int32) (x3 : Int32) (x4 : Int32) (r : Int32) (hF : F_X4_canMeet G h a0 x1 x2 x3 x4 = some r) : xC l yX4_canMeet cX4_canMeet 7 (some .boolean) rm_X4_canMeet D G h [.ref a0, .int x1, .int x2, .int x3, .int x4] (some (.int r)) h := by
  refine xC_of (by decide) (by first | decide | exact Nat.le_of_ble_eq_true rfl) ?_
  intro p e s m args below meth c ls hx hb hr hlk hml hown hnm hts hR hS hl
  have hl : lv_has ls 7 [(0, va_rf (some a0)), (1, .int x1), (2, .int x2), (3, .int x3), (4, .int x4)] := hl
  unfold F_X4_canMeet at hF
  refine lv_iconst (v := 0) hx hb dX4_canMeet_0 (by decide) ?_
  refine lv_istore (lv' := [(5, .int 0), (0, va_rf (some a0)), (1, .int x1), (2, .int x2), (3, .int x3), (4, .int x4)]) hx hb dX4_canMeet_1 hl (by decide) (by first | rfl | simp [xrf_cat]) (fun ls hl => ?_)
  refine lv_iconst (v := 0) hx hb dX4_canMeet_3 (by decide) ?_
  refine lv_istore (lv' := [(6, .int 0), (5, .int 0), (0, va_rf (some a0)), (1, .int x1), (2, .int x2), (3, .int x3), (4, .int x4)]) hx hb dX4_canMeet_4 hl (by decide) (by first | rfl | simp [xrf_cat]) (fun ls hl => ?_)
  refine W.widen (k := 0) (n := 0) (by decide) (by decide) ?_
  exact tl_X4_canMeet_6 hx hb hr hlk hml hown hnm hts G h a0 x1 x2 x3 x4 _ 0 0 _ _ _ hF hR hS (lv_sub hl [2, 3, 4, 5, 6, 1, 0] rfl)
def rm_X4_mostMeeting : Room := { frames := 2, cells := 0, slots := 0, locals := 49 }
theorem f_X4_mostMeeting : xM yX4_mostMeeting cX4_mostMeeting 6 (some .int) 3 := ⟨mm_553, mm_59, by decide +kernel, by decide +kernel⟩
theorem dX4_mostMeeting_0 : decode cX4_mostMeeting 0 = .ok (.iconst 0, 1) := by decide +kernel
theorem dX4_mostMeeting_1 : decode cX4_mostMeeting 1 = .ok (.istore 4, 2) := by decide +kernel
theorem dX4_mostMeeting_3 : decode cX4_mostMeeting 3 = .ok (.ldc 23, 2) := by decide +kernel
theorem dX4_mostMeeting_5 : decode cX4_mostMeeting 5 = .ok (.istore 5, 2) := by decide +kernel
theorem dX4_mostMeeting_7 : decode cX4_mostMeeting 7 = .ok (.iload 5, 2) := by decide +kernel
theorem dX4_mostMeeting_9 : decode cX4_mostMeeting 9 = .ok (.ifCond .le 43, 3) := by decide +kernel
theorem dX4_mostMeeting_12 : decode cX4_mostMeeting 12 = .ok (.iload 4, 2) := by decide +kernel
theorem dX4_mostMeeting_14 : decode cX4_mostMeeting 14 = .ok (.iload 5, 2) := by decide +kernel
theorem dX4_mostMeeting_16 : decode cX4_mostMeeting 16 = .ok (.iadd, 1) := by decide +kernel
theorem dX4_mostMeeting_17 : decode cX4_mostMeeting 17 = .ok (.iload_n 1, 1) := by decide +kernel
theorem dX4_mostMeeting_18 : decode cX4_mostMeeting 18 = .ok (.if_icmp .gt 25, 3) := by decide +kernel
theorem dX4_mostMeeting_21 : decode cX4_mostMeeting 21 = .ok (.aload_n 0, 1) := by decide +kernel
theorem dX4_mostMeeting_22 : decode cX4_mostMeeting 22 = .ok (.iload_n 1, 1) := by decide +kernel
theorem dX4_mostMeeting_23 : decode cX4_mostMeeting 23 = .ok (.iload 4, 2) := by decide +kernel
theorem dX4_mostMeeting_25 : decode cX4_mostMeeting 25 = .ok (.iload 5, 2) := by decide +kernel
theorem dX4_mostMeeting_27 : decode cX4_mostMeeting 27 = .ok (.iadd, 1) := by decide +kernel
theorem dX4_mostMeeting_28 : decode cX4_mostMeeting 28 = .ok (.iload_n 2, 1) := by decide +kernel
theorem dX4_mostMeeting_29 : decode cX4_mostMeeting 29 = .ok (.iload_n 3, 1) := by decide +kernel
theorem dX4_mostMeeting_30 : decode cX4_mostMeeting 30 = .ok (.invokevirtual 24, 3) := by decide +kernel
theorem dX4_mostMeeting_33 : decode cX4_mostMeeting 33 = .ok (.ifCond .eq 10, 3) := by decide +kernel
theorem dX4_mostMeeting_36 : decode cX4_mostMeeting 36 = .ok (.iload 4, 2) := by decide +kernel
theorem dX4_mostMeeting_38 : decode cX4_mostMeeting 38 = .ok (.iload 5, 2) := by decide +kernel
theorem dX4_mostMeeting_40 : decode cX4_mostMeeting 40 = .ok (.iadd, 1) := by decide +kernel
theorem dX4_mostMeeting_41 : decode cX4_mostMeeting 41 = .ok (.istore 4, 2) := by decide +kernel
theorem dX4_mostMeeting_43 : decode cX4_mostMeeting 43 = .ok (.iload 5, 2) := by decide +kernel
theorem dX4_mostMeeting_45 : decode cX4_mostMeeting 45 = .ok (.iconst 1, 1) := by decide +kernel
theorem dX4_mostMeeting_46 : decode cX4_mostMeeting 46 = .ok (.ishr, 1) := by decide +kernel
theorem dX4_mostMeeting_47 : decode cX4_mostMeeting 47 = .ok (.istore 5, 2) := by decide +kernel
theorem dX4_mostMeeting_49 : decode cX4_mostMeeting 49 = .ok (.goto (-42), 3) := by decide +kernel
theorem dX4_mostMeeting_52 : decode cX4_mostMeeting 52 = .ok (.iload 4, 2) := by decide +kernel
theorem dX4_mostMeeting_54 : decode cX4_mostMeeting 54 = .ok (.ireturn, 1) := by decide +kernel
def F_X4_mostMeeting_7 (G : Nat → Nat) (h : xH) (a0 : Nat) (x1 : Int32) (x2 : Int32) (x3 : Int32) : Nat → Int32 → Int32 → Option Int32
  | 0, _, _ => none
  | n + 1, x4, x5 =>
    if x5 ≤ 0 then
      some x4
    else
    if x1 < (x4 + x5) then
      xl (x5 >>> (1 &&& 31)) fun v3 =>
      F_X4_mostMeeting_7 G h a0 x1 x2 x3 n x4 v3
    else
    (xc h (some a0) 4).bind fun b5 =>
    (F_X4_canMeet G h b5 x1 (x4 + x5) x2 x3).bind fun v4 =>
    if v4 = 0 then
      xl (x5 >>> (1 &&& 31)) fun v7 =>
      F_X4_mostMeeting_7 G h a0 x1 x2 x3 n x4 v7
    else
    xl (x4 + x5) fun v8 =>
    xl (x5 >>> (1 &&& 31)) fun v9 =>
    F_X4_mostMeeting_7 G h a0 x1 x2 x3 n v8 v9
set_option maxHeartbeats 4000000 in
set_option maxRecDepth 100000 in
theorem tl_X4_mostMeeting_7 {p : Program} {l : Launch} {e : Env} {s : State} {m : MethodId} {args : Array Value} {below : List Frame} {meth : Method} {c : Code} {D : va_G} {r : Int32} (hx : p.tables.exec = Jvm.exec) (hb : c.code = cX4_mostMeeting) (hr : meth.sig.returnType = (some .int)) (hlk : meth.locks = false) (hml : c.maxLocals = 6) (hown : s.vm.findClass RX4 = some m.cls) (hnm : meth.name = "mostMeeting") (hts : ∀ w ∈ xt, w.before args s = true) (G : Nat → Nat) (h : xH) (a0 : Nat) (x1 : Int32) (x2 : Int32) (x3 : Int32) : ∀ (n : Nat) (x4 : Int32) (x5 : Int32) (H : Heap) (locs : List Loc) (ls : Array Slot), F_X4_mostMeeting_7 G h a0 x1 x2 x3 n x4 x5 = some r → xR D G h s H → va_S (xA G) s.heap H locs → lv_has ls 6 [(0, va_rf (some a0)), (1, .int x1), (2, .int x2), (3, .int x3), (4, .int x4), (5, .int x5)] → W p l e rm_X4_mostMeeting s m args below meth c H locs 0 0 (MQ below (xQ D G (some (.int r)) h) args s rm_X4_mostMeeting.cells rm_X4_mostMeeting.slots (xA G)) (F0 m 7 ls []) := by
  intro n
  induction n with
  | zero =>
    intro x4 x5 H locs ls hF
    rw [F_X4_mostMeeting_7.eq_1] at hF
    cases hF
  | succ n ih =>
    intro x4 x5 H locs ls hF hR hS hl
    rw [F_X4_mostMeeting_7.eq_2] at hF
    refine lv_iload hx hb dX4_mostMeeting_7 (lv_at hl 5 rfl) ?_
    refine lv_if_le (tgt := 52) hx hb dX4_mostMeeting_9 (by decide) (fun c1 => ?_) (fun c1 => ?_)
    · replace hF := xift c1 hF
      refine lv_iload hx hb dX4_mostMeeting_52 (lv_at hl 4 rfl) ?_
      cases hF
      exact x_iret hx hb hr rfl hlk hR hS (by decide) (by decide) dX4_mostMeeting_54
    · replace hF := xiff c1 hF
      refine lv_iload hx hb dX4_mostMeeting_12 (lv_at hl 4 rfl) ?_
      refine lv_iload hx hb dX4_mostMeeting_14 (lv_at hl 5 rfl) ?_
      refine lv_iadd hx hb dX4_mostMeeting_16 ?_
      refine lv_iload_n hx hb dX4_mostMeeting_17 rfl (lv_at hl 1 rfl) ?_
      refine lv_icmp_gt (tgt := 43) hx hb dX4_mostMeeting_18 (by decide) (fun c2 => ?_) (fun c2 => ?_)
      · replace hF := xift c2 hF
        refine lv_iload hx hb dX4_mostMeeting_43 (lv_at hl 5 rfl) ?_
        refine lv_iconst (v := 1) hx hb dX4_mostMeeting_45 (by decide) ?_
        refine lv_ishr hx hb dX4_mostMeeting_46 ?_
        refine lv_topi (fun v3 ev3 => ?_)
        replace hF := xlet ev3 hF
        refine lv_istore (lv' := [(5, .int v3), (0, va_rf (some a0)), (1, .int x1), (2, .int x2), (3, .int x3), (4, .int x4)]) hx hb dX4_mostMeeting_47 hl (by decide) (by first | rfl | simp [xrf_cat]) (fun ls hl => ?_)
        refine lv_goto (tgt := 7) hx hb dX4_mostMeeting_49 (by decide) ?_
        exact ih x4 v3 _ _ _ hF hR hS (lv_sub hl [1, 2, 3, 4, 5, 0] rfl)
      · replace hF := xiff c2 hF
        refine x_aload_n (o := (some a0)) hx hb dX4_mostMeeting_21 rfl (lv_at hl 0 rfl) ?_
        refine lv_iload_n hx hb dX4_mostMeeting_22 rfl (lv_at hl 1 rfl) ?_
        refine lv_iload hx hb dX4_mostMeeting_23 (lv_at hl 4 rfl) ?_
        refine lv_iload hx hb dX4_mostMeeting_25 (lv_at hl 5 rfl) ?_
        refine lv_iadd hx hb dX4_mostMeeting_27 ?_
        refine lv_iload_n hx hb dX4_mostMeeting_28 rfl (lv_at hl 2 rfl) ?_
        refine lv_iload_n hx hb dX4_mostMeeting_29 rfl (lv_at hl 3 rfl) ?_
        replace hF := xbind hF; obtain ⟨b5, eb5, hF⟩ := hF
        replace hF := xbind hF; obtain ⟨v4, ev4, hF⟩ := hF
        refine x_callV (o := (some a0)) (ci := 4) (As := [.int x1, .int (x4 + x5), .int x2, .int x3]) (rest := []) (v := (some (.int v4))) (k := 4) hx hb hml hown hts hR hS eb5 rfl rfl (t_X4_canMeet l D G h b5 x1 (x4 + x5) x2 x3 v4 ev4) f_X4_canMeet mm_555 mm_557 mm_14 rfl hl.1 rfl (by first | exact Nat.le_of_ble_eq_true rfl | simp [xrf_cat, xcI, xcJ, xcA]) dX4_mostMeeting_30 (by decide) (by decide) rfl (fun H locs hR hS => ?_)
        refine lv_if_eq (tgt := 43) hx hb dX4_mostMeeting_33 (by decide) (fun c6 => ?_) (fun c6 => ?_)
        · replace hF := xift c6 hF
          refine lv_iload hx hb dX4_mostMeeting_43 (lv_at hl 5 rfl) ?_
          refine lv_iconst (v := 1) hx hb dX4_mostMeeting_45 (by decide) ?_
          refine lv_ishr hx hb dX4_mostMeeting_46 ?_
          refine lv_topi (fun v7 ev7 => ?_)
          replace hF := xlet ev7 hF
          refine lv_istore (lv' := [(5, .int v7), (0, va_rf (some a0)), (1, .int x1), (2, .int x2), (3, .int x3), (4, .int x4)]) hx hb dX4_mostMeeting_47 hl (by decide) (by first | rfl | simp [xrf_cat]) (fun ls hl => ?_)
          refine lv_goto (tgt := 7) hx hb dX4_mostMeeting_49 (by decide) ?_
          exact ih x4 v7 _ _ _ hF hR hS (lv_sub hl [1, 2, 3, 4, 5, 0] rfl)
        · replace hF := xiff c6 hF
          refine lv_iload hx hb dX4_mostMeeting_36 (lv_at hl 4 rfl) ?_
          refine lv_iload hx hb dX4_mostMeeting_38 (lv_at hl 5 rfl) ?_
          refine lv_iadd hx hb dX4_mostMeeting_40 ?_
          refine lv_topi (fun v8 ev8 => ?_)
          replace hF := xlet ev8 hF
          refine lv_istore (lv' := [(4, .int v8), (0, va_rf (some a0)), (1, .int x1), (2, .int x2), (3, .int x3), (5, .int x5)]) hx hb dX4_mostMeeting_41 hl (by decide) (by first | rfl | simp [xrf_cat]) (fun ls hl => ?_)
          refine lv_iload hx hb dX4_mostMeeting_43 (lv_at hl 5 rfl) ?_
          refine lv_iconst (v := 1) hx hb dX4_mostMeeting_45 (by decide) ?_
          refine lv_ishr hx hb dX4_mostMeeting_46 ?_
          refine lv_topi (fun v9 ev9 => ?_)
          replace hF := xlet ev9 hF
          refine lv_istore (lv' := [(5, .int v9), (4, .int v8), (0, va_rf (some a0)), (1, .int x1), (2, .int x2), (3, .int x3)]) hx hb dX4_mostMeeting_47 hl (by decide) (by first | rfl | simp [xrf_cat]) (fun ls hl => ?_)
          refine lv_goto (tgt := 7) hx hb dX4_mostMeeting_49 (by decide) ?_
          exact ih v8 v9 _ _ _ hF hR hS (lv_sub hl [2, 3, 4, 5, 1, 0] rfl)
def F_X4_mostMeeting (G : Nat → Nat) (h : xH) (a0 : Nat) (x1 : Int32) (x2 : Int32) (x3 : Int32) : Option Int32 :=
  F_X4_mostMeeting_7 G h a0 x1 x2 x3 xN 0 65536
set_option maxHeartbeats 4000000 in
set_option maxRecDepth 100000 in
theorem t_X4_mostMeeting (l : Launch) (D : va_G) (G : Nat → Nat) (h : xH) (a0 : Nat) (x1 : Int32) (x2 : Int32) (x3 : Int32) (r : Int32) (hF : F_X4_mostMeeting G h a0 x1 x2 x3 = some r) : xC l yX4_mostMeeting cX4_mostMeeting 6 (some .int) rm_X4_mostMeeting D G h [.ref a0, .int x1, .int x2, .int x3] (some (.int r)) h := by
  refine xC_of (by decide) (by first | decide | exact Nat.le_of_ble_eq_true rfl) ?_
  intro p e s m args below meth c ls hx hb hr hlk hml hown hnm hts hR hS hl
  have hl : lv_has ls 6 [(0, va_rf (some a0)), (1, .int x1), (2, .int x2), (3, .int x3)] := hl
  unfold F_X4_mostMeeting at hF
  refine lv_iconst (v := 0) hx hb dX4_mostMeeting_0 (by decide) ?_
  refine lv_istore (lv' := [(4, .int 0), (0, va_rf (some a0)), (1, .int x1), (2, .int x2), (3, .int x3)]) hx hb dX4_mostMeeting_1 hl (by decide) (by first | rfl | simp [xrf_cat]) (fun ls hl => ?_)
  refine lv_ldc hx hb hown (hts _ mm_554) dX4_mostMeeting_3 ?_
  refine lv_istore (lv' := [(5, .int 65536), (4, .int 0), (0, va_rf (some a0)), (1, .int x1), (2, .int x2), (3, .int x3)]) hx hb dX4_mostMeeting_5 hl (by decide) (by first | rfl | simp [xrf_cat]) (fun ls hl => ?_)
  refine W.widen (k := 0) (n := 0) (by decide) (by decide) ?_
  exact tl_X4_mostMeeting_7 hx hb hr hlk hml hown hnm hts G h a0 x1 x2 x3 _ 0 65536 _ _ _ hF hR hS (lv_sub hl [2, 3, 4, 5, 1, 0] rfl)
def rm_X4_leastBad : Room := { frames := 3, cells := 0, slots := 0, locals := 74 }
theorem f_X4_leastBad : xM yX4_leastBad cX4_leastBad 3 (some .int) 2 := ⟨mm_549, mm_59, by decide +kernel, by decide +kernel⟩
theorem dX4_leastBad_0 : decode cX4_leastBad 0 = .ok (.iload_n 1, 1) := by decide +kernel
theorem dX4_leastBad_1 : decode cX4_leastBad 1 = .ok (.aload_n 0, 1) := by decide +kernel
theorem dX4_leastBad_2 : decode cX4_leastBad 2 = .ok (.iload_n 1, 1) := by decide +kernel
theorem dX4_leastBad_3 : decode cX4_leastBad 3 = .ok (.iload_n 2, 1) := by decide +kernel
theorem dX4_leastBad_4 : decode cX4_leastBad 4 = .ok (.iconst 1, 1) := by decide +kernel
theorem dX4_leastBad_5 : decode cX4_leastBad 5 = .ok (.invokevirtual 19, 3) := by decide +kernel
theorem dX4_leastBad_8 : decode cX4_leastBad 8 = .ok (.isub, 1) := by decide +kernel
theorem dX4_leastBad_9 : decode cX4_leastBad 9 = .ok (.ireturn, 1) := by decide +kernel
def F_X4_leastBad (G : Nat → Nat) (h : xH) (a0 : Nat) (x1 : Int32) (x2 : Int32) : Option Int32 :=
  (xc h (some a0) 4).bind fun b2 =>
  (F_X4_mostMeeting G h b2 x1 x2 1).bind fun v1 =>
  some (x1 - v1)
set_option maxHeartbeats 4000000 in
set_option maxRecDepth 100000 in
theorem t_X4_leastBad (l : Launch) (D : va_G) (G : Nat → Nat) (h : xH) (a0 : Nat) (x1 : Int32) (x2 : Int32) (r : Int32) (hF : F_X4_leastBad G h a0 x1 x2 = some r) : xC l yX4_leastBad cX4_leastBad 3 (some .int) rm_X4_leastBad D G h [.ref a0, .int x1, .int x2] (some (.int r)) h := by
  refine xC_of (by decide) (by first | decide | exact Nat.le_of_ble_eq_true rfl) ?_
  intro p e s m args below meth c ls hx hb hr hlk hml hown hnm hts hR hS hl
  have hl : lv_has ls 3 [(0, va_rf (some a0)), (1, .int x1), (2, .int x2)] := hl
  unfold F_X4_leastBad at hF
  refine lv_iload_n hx hb dX4_leastBad_0 rfl (lv_at hl 1 rfl) ?_
  refine x_aload_n (o := (some a0)) hx hb dX4_leastBad_1 rfl (lv_at hl 0 rfl) ?_
  refine lv_iload_n hx hb dX4_leastBad_2 rfl (lv_at hl 1 rfl) ?_
  refine lv_iload_n hx hb dX4_leastBad_3 rfl (lv_at hl 2 rfl) ?_
  refine lv_iconst (v := 1) hx hb dX4_leastBad_4 (by decide) ?_
  replace hF := xbind hF; obtain ⟨b2, eb2, hF⟩ := hF
  replace hF := xbind hF; obtain ⟨v1, ev1, hF⟩ := hF
  refine x_callV (o := (some a0)) (ci := 4) (As := [.int x1, .int x2, .int 1]) (rest := [.int x1]) (v := (some (.int v1))) (k := 3) hx hb hml hown hts hR hS eb2 rfl rfl (t_X4_mostMeeting l D G h b2 x1 x2 1 v1 ev1) f_X4_mostMeeting mm_550 mm_552 mm_13 rfl hl.1 rfl (by first | exact Nat.le_of_ble_eq_true rfl | simp [xrf_cat, xcI, xcJ, xcA]) dX4_leastBad_5 (by decide) (by decide) rfl (fun H locs hR hS => ?_)
  refine lv_isub hx hb dX4_leastBad_8 ?_
  cases hF
  exact x_iret hx hb hr rfl hlk hR hS (by decide) (by decide) dX4_leastBad_9
def rm_X4_greatestBad : Room := { frames := 3, cells := 0, slots := 0, locals := 74 }
theorem f_X4_greatestBad : xM yX4_greatestBad cX4_greatestBad 3 (some .int) 2 := ⟨mm_563, mm_59, by decide +kernel, by decide +kernel⟩
theorem dX4_greatestBad_0 : decode cX4_greatestBad 0 = .ok (.aload_n 0, 1) := by decide +kernel
theorem dX4_greatestBad_1 : decode cX4_greatestBad 1 = .ok (.iload_n 1, 1) := by decide +kernel
theorem dX4_greatestBad_2 : decode cX4_greatestBad 2 = .ok (.aload_n 0, 1) := by decide +kernel
theorem dX4_greatestBad_3 : decode cX4_greatestBad 3 = .ok (.getfield 15, 3) := by decide +kernel
theorem dX4_greatestBad_6 : decode cX4_greatestBad 6 = .ok (.iload_n 2, 1) := by decide +kernel
theorem dX4_greatestBad_7 : decode cX4_greatestBad 7 = .ok (.isub, 1) := by decide +kernel
theorem dX4_greatestBad_8 : decode cX4_greatestBad 8 = .ok (.iconst 1, 1) := by decide +kernel
theorem dX4_greatestBad_9 : decode cX4_greatestBad 9 = .ok (.iadd, 1) := by decide +kernel
theorem dX4_greatestBad_10 : decode cX4_greatestBad 10 = .ok (.iconst 0, 1) := by decide +kernel
theorem dX4_greatestBad_11 : decode cX4_greatestBad 11 = .ok (.invokevirtual 19, 3) := by decide +kernel
theorem dX4_greatestBad_14 : decode cX4_greatestBad 14 = .ok (.ireturn, 1) := by decide +kernel
def F_X4_greatestBad (G : Nat → Nat) (h : xH) (a0 : Nat) (x1 : Int32) (x2 : Int32) : Option Int32 :=
  (gI h (some a0) 4 1).bind fun v1 =>
  (xc h (some a0) 4).bind fun b3 =>
  (F_X4_mostMeeting G h b3 x1 ((v1 - x2) + 1) 0).bind fun v2 =>
  some v2
set_option maxHeartbeats 4000000 in
set_option maxRecDepth 100000 in
theorem t_X4_greatestBad (l : Launch) (D : va_G) (G : Nat → Nat) (h : xH) (a0 : Nat) (x1 : Int32) (x2 : Int32) (r : Int32) (hF : F_X4_greatestBad G h a0 x1 x2 = some r) : xC l yX4_greatestBad cX4_greatestBad 3 (some .int) rm_X4_greatestBad D G h [.ref a0, .int x1, .int x2] (some (.int r)) h := by
  refine xC_of (by decide) (by first | decide | exact Nat.le_of_ble_eq_true rfl) ?_
  intro p e s m args below meth c ls hx hb hr hlk hml hown hnm hts hR hS hl
  have hl : lv_has ls 3 [(0, va_rf (some a0)), (1, .int x1), (2, .int x2)] := hl
  unfold F_X4_greatestBad at hF
  refine x_aload_n (o := (some a0)) hx hb dX4_greatestBad_0 rfl (lv_at hl 0 rfl) ?_
  refine lv_iload_n hx hb dX4_greatestBad_1 rfl (lv_at hl 1 rfl) ?_
  refine x_aload_n (o := (some a0)) hx hb dX4_greatestBad_2 rfl (lv_at hl 0 rfl) ?_
  replace hF := xbind hF; obtain ⟨v1, ev1, hF⟩ := hF
  refine x_getI (o := (some a0)) (ci := 4) (C := RX4) (T := TX4) (N := 2) hx hb hts iw_X4 hown hR rfl 1 (by decide) mm_121 (Or.inl rfl) ev1 dX4_greatestBad_3 ?_
  refine lv_iload_n hx hb dX4_greatestBad_6 rfl (lv_at hl 2 rfl) ?_
  refine lv_isub hx hb dX4_greatestBad_7 ?_
  refine lv_iconst (v := 1) hx hb dX4_greatestBad_8 (by decide) ?_
  refine lv_iadd hx hb dX4_greatestBad_9 ?_
  refine lv_iconst (v := 0) hx hb dX4_greatestBad_10 (by decide) ?_
  replace hF := xbind hF; obtain ⟨b3, eb3, hF⟩ := hF
  replace hF := xbind hF; obtain ⟨v2, ev2, hF⟩ := hF
  refine x_callV (o := (some a0)) (ci := 4) (As := [.int x1, .int ((v1 - x2) + 1), .int 0]) (rest := []) (v := (some (.int v2))) (k := 3) hx hb hml hown hts hR hS eb3 rfl rfl (t_X4_mostMeeting l D G h b3 x1 ((v1 - x2) + 1) 0 v2 ev2) f_X4_mostMeeting mm_550 mm_552 mm_13 rfl hl.1 rfl (by first | exact Nat.le_of_ble_eq_true rfl | simp [xrf_cat, xcI, xcJ, xcA]) dX4_greatestBad_11 (by decide) (by decide) rfl (fun H locs hR hS => ?_)
  cases hF
  exact x_iret hx hb hr rfl hlk hR hS (by decide) (by decide) dX4_greatestBad_14
end
section
def rm_X9_init : Room := { frames := 1, cells := 0, slots := 0, locals := 20 }
theorem f_X9_init : xM yX9_init cX9_init 3 none 2 := ⟨mm_648, mm_77, by decide +kernel, by decide +kernel⟩
theorem dX9_init_0 : decode cX9_init 0 = .ok (.aload_n 0, 1) := by decide +kernel
theorem dX9_init_1 : decode cX9_init 1 = .ok (.invokespecial 3, 3) := by decide +kernel
theorem dX9_init_4 : decode cX9_init 4 = .ok (.aload_n 0, 1) := by decide +kernel
theorem dX9_init_5 : decode cX9_init 5 = .ok (.iload_n 1, 1) := by decide +kernel
theorem dX9_init_6 : decode cX9_init 6 = .ok (.putfield 9, 3) := by decide +kernel
theorem dX9_init_9 : decode cX9_init 9 = .ok (.aload_n 0, 1) := by decide +kernel
theorem dX9_init_10 : decode cX9_init 10 = .ok (.iload_n 2, 1) := by decide +kernel
theorem dX9_init_11 : decode cX9_init 11 = .ok (.putfield 15, 3) := by decide +kernel
theorem dX9_init_14 : decode cX9_init 14 = .ok (.return_, 1) := by decide +kernel
def F_X9_init (G : Nat → Nat) (h : xH) (a0 : Nat) (x1 : Int32) (x2 : Int32) : Option xH :=
  (xp G h (some a0) 9 0 (.int x1)).bind fun h1 =>
  (xp G h1 (some a0) 9 1 (.int x2)).bind fun h2 =>
  some h2
set_option maxHeartbeats 4000000 in
set_option maxRecDepth 100000 in
theorem t_X9_init (l : Launch) (D : va_G) (G : Nat → Nat) (h : xH) (a0 : Nat) (x1 : Int32) (x2 : Int32) (h' : xH) (hF : F_X9_init G h a0 x1 x2 = some h') : xC l yX9_init cX9_init 3 none rm_X9_init D G h [.ref a0, .int x1, .int x2] none h' := by
  refine xC_of (by decide) (by first | decide | exact Nat.le_of_ble_eq_true rfl) ?_
  intro p e s m args below meth c ls hx hb hr hlk hml hown hnm hts hR hS hl
  have hl : lv_has ls 3 [(0, va_rf (some a0)), (1, .int x1), (2, .int x2)] := hl
  unfold F_X9_init at hF
  refine x_aload_n (o := (some a0)) hx hb dX9_init_0 rfl (lv_at hl 0 rfl) ?_
  refine x_oinit (o := (some a0)) hx hb hown (hml.trans hl.1.symm) hts mm_649 mm_86 mm_87 rfl dX9_init_1 (by decide) (by decide) (by decide) ?_
  refine x_aload_n (o := (some a0)) hx hb dX9_init_4 rfl (lv_at hl 0 rfl) ?_
  refine lv_iload_n hx hb dX9_init_5 rfl (lv_at hl 1 rfl) ?_
  replace hF := xbind hF; obtain ⟨h1, eh1, hF⟩ := hF
  refine x_putF (o := (some a0)) (ci := 9) (C := RX9) (T := TX9) (N := 2) hx hb hts iw_X9 tyX9_ok nmX9 hown hR hS rfl 0 (by decide) mm_650 (Or.inl rfl) rfl hnm rfl rfl rfl eh1 dX9_init_6 (fun H locs hR hS => ?_)
  refine x_aload_n (o := (some a0)) hx hb dX9_init_9 rfl (lv_at hl 0 rfl) ?_
  refine lv_iload_n hx hb dX9_init_10 rfl (lv_at hl 2 rfl) ?_
  replace hF := xbind hF; obtain ⟨h2, eh2, hF⟩ := hF
  refine x_putF (o := (some a0)) (ci := 9) (C := RX9) (T := TX9) (N := 2) hx hb hts iw_X9 tyX9_ok nmX9 hown hR hS rfl 1 (by decide) mm_652 (Or.inl rfl) rfl hnm rfl rfl rfl eh2 dX9_init_11 (fun H locs hR hS => ?_)
  cases hF
  exact x_vret hx hb hr hlk hR hS (by decide) (by decide) dX9_init_14
def rm_X9_asksIn : Room := { frames := 1, cells := 0, slots := 0, locals := 23 }
theorem f_X9_asksIn : xM yX9_asksIn cX9_asksIn 3 (some .int) 2 := ⟨mm_621, mm_77, by decide +kernel, by decide +kernel⟩
theorem dX9_asksIn_0 : decode cX9_asksIn 0 = .ok (.bipush 10, 2) := by decide +kernel
theorem dX9_asksIn_2 : decode cX9_asksIn 2 = .ok (.iload_n 2, 1) := by decide +kernel
theorem dX9_asksIn_3 : decode cX9_asksIn 3 = .ok (.iload_n 1, 1) := by decide +kernel
theorem dX9_asksIn_4 : decode cX9_asksIn 4 = .ok (.iconst 0, 1) := by decide +kernel
theorem dX9_asksIn_5 : decode cX9_asksIn 5 = .ok (.invokestatic 18, 3) := by decide +kernel
theorem dX9_asksIn_8 : decode cX9_asksIn 8 = .ok (.isub, 1) := by decide +kernel
theorem dX9_asksIn_9 : decode cX9_asksIn 9 = .ok (.iconst 1, 1) := by decide +kernel
theorem dX9_asksIn_10 : decode cX9_asksIn 10 = .ok (.iadd, 1) := by decide +kernel
theorem dX9_asksIn_11 : decode cX9_asksIn 11 = .ok (.iconst 0, 1) := by decide +kernel
theorem dX9_asksIn_12 : decode cX9_asksIn 12 = .ok (.invokestatic 18, 3) := by decide +kernel
theorem dX9_asksIn_15 : decode cX9_asksIn 15 = .ok (.imul, 1) := by decide +kernel
theorem dX9_asksIn_16 : decode cX9_asksIn 16 = .ok (.ireturn, 1) := by decide +kernel
def F_X9_asksIn (G : Nat → Nat) (h : xH) (a0 : Nat) (x1 : Int32) (x2 : Int32) : Option Int32 :=
  some (10 * (xmax ((x2 - (xmax x1 0)) + 1) 0))
set_option maxHeartbeats 4000000 in
set_option maxRecDepth 100000 in
theorem t_X9_asksIn (l : Launch) (D : va_G) (G : Nat → Nat) (h : xH) (a0 : Nat) (x1 : Int32) (x2 : Int32) (r : Int32) (hF : F_X9_asksIn G h a0 x1 x2 = some r) : xC l yX9_asksIn cX9_asksIn 3 (some .int) rm_X9_asksIn D G h [.ref a0, .int x1, .int x2] (some (.int r)) h := by
  refine xC_of (by decide) (by first | decide | exact Nat.le_of_ble_eq_true rfl) ?_
  intro p e s m args below meth c ls hx hb hr hlk hml hown hnm hts hR hS hl
  have hl : lv_has ls 3 [(0, va_rf (some a0)), (1, .int x1), (2, .int x2)] := hl
  unfold F_X9_asksIn at hF
  refine lv_bipush (v := 10) hx hb dX9_asksIn_0 (by decide) ?_
  refine lv_iload_n hx hb dX9_asksIn_2 rfl (lv_at hl 2 rfl) ?_
  refine lv_iload_n hx hb dX9_asksIn_3 rfl (lv_at hl 1 rfl) ?_
  refine lv_iconst (v := 0) hx hb dX9_asksIn_4 (by decide) ?_
  refine x_max hx hb (hml.trans hl.1.symm) hown hts mm_622 mm_280 mm_65 mm_281 (by decide) (by first | exact Nat.le_of_ble_eq_true rfl | simp [xrf_cat, xcI, xcJ, xcA]) (by decide) (by decide) dX9_asksIn_5 ?_
  refine lv_isub hx hb dX9_asksIn_8 ?_
  refine lv_iconst (v := 1) hx hb dX9_asksIn_9 (by decide) ?_
  refine lv_iadd hx hb dX9_asksIn_10 ?_
  refine lv_iconst (v := 0) hx hb dX9_asksIn_11 (by decide) ?_
  refine x_max hx hb (hml.trans hl.1.symm) hown hts mm_622 mm_280 mm_65 mm_281 (by decide) (by first | exact Nat.le_of_ble_eq_true rfl | simp [xrf_cat, xcI, xcJ, xcA]) (by decide) (by decide) dX9_asksIn_12 ?_
  refine lv_imul hx hb dX9_asksIn_15 ?_
  cases hF
  exact x_iret hx hb hr rfl hlk hR hS (by decide) (by decide) dX9_asksIn_16
def rm_X9_badIn : Room := { frames := 1, cells := 0, slots := 0, locals := 23 }
theorem f_X9_badIn : xM yX9_badIn cX9_badIn 3 (some .int) 2 := ⟨mm_634, mm_77, by decide +kernel, by decide +kernel⟩
theorem dX9_badIn_0 : decode cX9_badIn 0 = .ok (.aload_n 0, 1) := by decide +kernel
theorem dX9_badIn_1 : decode cX9_badIn 1 = .ok (.getfield 15, 3) := by decide +kernel
theorem dX9_badIn_4 : decode cX9_badIn 4 = .ok (.iload_n 2, 1) := by decide +kernel
theorem dX9_badIn_5 : decode cX9_badIn 5 = .ok (.iload_n 1, 1) := by decide +kernel
theorem dX9_badIn_6 : decode cX9_badIn 6 = .ok (.aload_n 0, 1) := by decide +kernel
theorem dX9_badIn_7 : decode cX9_badIn 7 = .ok (.getfield 9, 3) := by decide +kernel
theorem dX9_badIn_10 : decode cX9_badIn 10 = .ok (.invokestatic 18, 3) := by decide +kernel
theorem dX9_badIn_13 : decode cX9_badIn 13 = .ok (.isub, 1) := by decide +kernel
theorem dX9_badIn_14 : decode cX9_badIn 14 = .ok (.iconst 1, 1) := by decide +kernel
theorem dX9_badIn_15 : decode cX9_badIn 15 = .ok (.iadd, 1) := by decide +kernel
theorem dX9_badIn_16 : decode cX9_badIn 16 = .ok (.iconst 0, 1) := by decide +kernel
theorem dX9_badIn_17 : decode cX9_badIn 17 = .ok (.invokestatic 18, 3) := by decide +kernel
theorem dX9_badIn_20 : decode cX9_badIn 20 = .ok (.imul, 1) := by decide +kernel
theorem dX9_badIn_21 : decode cX9_badIn 21 = .ok (.ireturn, 1) := by decide +kernel
def F_X9_badIn (G : Nat → Nat) (h : xH) (a0 : Nat) (x1 : Int32) (x2 : Int32) : Option Int32 :=
  (gI h (some a0) 9 1).bind fun v1 =>
  (gI h (some a0) 9 0).bind fun v2 =>
  some (v1 * (xmax ((x2 - (xmax x1 v2)) + 1) 0))
set_option maxHeartbeats 4000000 in
set_option maxRecDepth 100000 in
theorem t_X9_badIn (l : Launch) (D : va_G) (G : Nat → Nat) (h : xH) (a0 : Nat) (x1 : Int32) (x2 : Int32) (r : Int32) (hF : F_X9_badIn G h a0 x1 x2 = some r) : xC l yX9_badIn cX9_badIn 3 (some .int) rm_X9_badIn D G h [.ref a0, .int x1, .int x2] (some (.int r)) h := by
  refine xC_of (by decide) (by first | decide | exact Nat.le_of_ble_eq_true rfl) ?_
  intro p e s m args below meth c ls hx hb hr hlk hml hown hnm hts hR hS hl
  have hl : lv_has ls 3 [(0, va_rf (some a0)), (1, .int x1), (2, .int x2)] := hl
  unfold F_X9_badIn at hF
  refine x_aload_n (o := (some a0)) hx hb dX9_badIn_0 rfl (lv_at hl 0 rfl) ?_
  replace hF := xbind hF; obtain ⟨v1, ev1, hF⟩ := hF
  refine x_getI (o := (some a0)) (ci := 9) (C := RX9) (T := TX9) (N := 2) hx hb hts iw_X9 hown hR rfl 1 (by decide) mm_652 (Or.inl rfl) ev1 dX9_badIn_1 ?_
  refine lv_iload_n hx hb dX9_badIn_4 rfl (lv_at hl 2 rfl) ?_
  refine lv_iload_n hx hb dX9_badIn_5 rfl (lv_at hl 1 rfl) ?_
  refine x_aload_n (o := (some a0)) hx hb dX9_badIn_6 rfl (lv_at hl 0 rfl) ?_
  replace hF := xbind hF; obtain ⟨v2, ev2, hF⟩ := hF
  refine x_getI (o := (some a0)) (ci := 9) (C := RX9) (T := TX9) (N := 2) hx hb hts iw_X9 hown hR rfl 0 (by decide) mm_650 (Or.inl rfl) ev2 dX9_badIn_7 ?_
  refine x_max hx hb (hml.trans hl.1.symm) hown hts mm_622 mm_280 mm_65 mm_281 (by decide) (by first | exact Nat.le_of_ble_eq_true rfl | simp [xrf_cat, xcI, xcJ, xcA]) (by decide) (by decide) dX9_badIn_10 ?_
  refine lv_isub hx hb dX9_badIn_13 ?_
  refine lv_iconst (v := 1) hx hb dX9_badIn_14 (by decide) ?_
  refine lv_iadd hx hb dX9_badIn_15 ?_
  refine lv_iconst (v := 0) hx hb dX9_badIn_16 (by decide) ?_
  refine x_max hx hb (hml.trans hl.1.symm) hown hts mm_622 mm_280 mm_65 mm_281 (by decide) (by first | exact Nat.le_of_ble_eq_true rfl | simp [xrf_cat, xcI, xcJ, xcA]) (by decide) (by decide) dX9_badIn_17 ?_
  refine lv_imul hx hb dX9_badIn_20 ?_
  cases hF
  exact x_iret hx hb hr rfl hlk hR hS (by decide) (by decide) dX9_badIn_21
def rm_X0_init : Room := { frames := 1, cells := 0, slots := 0, locals := 20 }
theorem f_X0_init : xM yX0_init cX0_init 5 none 4 := ⟨mm_576, mm_76, by decide +kernel, by decide +kernel⟩
theorem dX0_init_0 : decode cX0_init 0 = .ok (.aload_n 0, 1) := by decide +kernel
theorem dX0_init_1 : decode cX0_init 1 = .ok (.invokespecial 1, 3) := by decide +kernel
theorem dX0_init_4 : decode cX0_init 4 = .ok (.aload_n 0, 1) := by decide +kernel
theorem dX0_init_5 : decode cX0_init 5 = .ok (.aload_n 1, 1) := by decide +kernel
theorem dX0_init_6 : decode cX0_init 6 = .ok (.putfield 7, 3) := by decide +kernel
theorem dX0_init_9 : decode cX0_init 9 = .ok (.aload_n 0, 1) := by decide +kernel
theorem dX0_init_10 : decode cX0_init 10 = .ok (.iload_n 2, 1) := by decide +kernel
theorem dX0_init_11 : decode cX0_init 11 = .ok (.putfield 13, 3) := by decide +kernel
theorem dX0_init_14 : decode cX0_init 14 = .ok (.aload_n 0, 1) := by decide +kernel
theorem dX0_init_15 : decode cX0_init 15 = .ok (.iload_n 3, 1) := by decide +kernel
theorem dX0_init_16 : decode cX0_init 16 = .ok (.putfield 17, 3) := by decide +kernel
theorem dX0_init_19 : decode cX0_init 19 = .ok (.aload_n 0, 1) := by decide +kernel
theorem dX0_init_20 : decode cX0_init 20 = .ok (.iload 4, 2) := by decide +kernel
theorem dX0_init_22 : decode cX0_init 22 = .ok (.putfield 20, 3) := by decide +kernel
theorem dX0_init_25 : decode cX0_init 25 = .ok (.return_, 1) := by decide +kernel
def F_X0_init (G : Nat → Nat) (h : xH) (a0 : Nat) (a1 : Nat) (x2 : Int32) (x3 : Int32) (x4 : Int32) : Option xH :=
  (xp G h (some a0) 1 0 (va_rf (some a1))).bind fun h1 =>
  (xp G h1 (some a0) 1 1 (.int x2)).bind fun h2 =>
  (xp G h2 (some a0) 1 2 (.int x3)).bind fun h3 =>
  (xp G h3 (some a0) 1 3 (.int x4)).bind fun h4 =>
  some h4
set_option maxHeartbeats 4000000 in
set_option maxRecDepth 100000 in
theorem t_X0_init (l : Launch) (D : va_G) (G : Nat → Nat) (h : xH) (a0 : Nat) (a1 : Nat) (x2 : Int32) (x3 : Int32) (x4 : Int32) (h' : xH) (hF : F_X0_init G h a0 a1 x2 x3 x4 = some h') : xC l yX0_init cX0_init 5 none rm_X0_init D G h [.ref a0, .ref a1, .int x2, .int x3, .int x4] none h' := by
  refine xC_of (by decide) (by first | decide | exact Nat.le_of_ble_eq_true rfl) ?_
  intro p e s m args below meth c ls hx hb hr hlk hml hown hnm hts hR hS hl
  have hl : lv_has ls 5 [(0, va_rf (some a0)), (1, va_rf (some a1)), (2, .int x2), (3, .int x3), (4, .int x4)] := hl
  unfold F_X0_init at hF
  refine x_aload_n (o := (some a0)) hx hb dX0_init_0 rfl (lv_at hl 0 rfl) ?_
  refine x_oinit (o := (some a0)) hx hb hown (hml.trans hl.1.symm) hts mm_577 mm_86 mm_87 rfl dX0_init_1 (by decide) (by decide) (by decide) ?_
  refine x_aload_n (o := (some a0)) hx hb dX0_init_4 rfl (lv_at hl 0 rfl) ?_
  refine x_aload_n (o := (some a1)) hx hb dX0_init_5 rfl (lv_at hl 1 rfl) ?_
  replace hF := xbind hF; obtain ⟨h1, eh1, hF⟩ := hF
  refine x_putF (o := (some a0)) (ci := 1) (C := RX0) (T := TX0) (N := 4) hx hb hts iw_X0 tyX0_ok nmX0 hown hR hS rfl 0 (by decide) mm_578 (Or.inl rfl) rfl hnm rfl xnarR xfitR eh1 dX0_init_6 (fun H locs hR hS => ?_)
  refine x_aload_n (o := (some a0)) hx hb dX0_init_9 rfl (lv_at hl 0 rfl) ?_
  refine lv_iload_n hx hb dX0_init_10 rfl (lv_at hl 2 rfl) ?_
  replace hF := xbind hF; obtain ⟨h2, eh2, hF⟩ := hF
  refine x_putF (o := (some a0)) (ci := 1) (C := RX0) (T := TX0) (N := 4) hx hb hts iw_X0 tyX0_ok nmX0 hown hR hS rfl 1 (by decide) mm_580 (Or.inl rfl) rfl hnm rfl rfl rfl eh2 dX0_init_11 (fun H locs hR hS => ?_)
  refine x_aload_n (o := (some a0)) hx hb dX0_init_14 rfl (lv_at hl 0 rfl) ?_
  refine lv_iload_n hx hb dX0_init_15 rfl (lv_at hl 3 rfl) ?_
  replace hF := xbind hF; obtain ⟨h3, eh3, hF⟩ := hF
  refine x_putF (o := (some a0)) (ci := 1) (C := RX0) (T := TX0) (N := 4) hx hb hts iw_X0 tyX0_ok nmX0 hown hR hS rfl 2 (by decide) mm_581 (Or.inl rfl) rfl hnm rfl rfl rfl eh3 dX0_init_16 (fun H locs hR hS => ?_)
  refine x_aload_n (o := (some a0)) hx hb dX0_init_19 rfl (lv_at hl 0 rfl) ?_
  refine lv_iload hx hb dX0_init_20 (lv_at hl 4 rfl) ?_
  replace hF := xbind hF; obtain ⟨h4, eh4, hF⟩ := hF
  refine x_putF (o := (some a0)) (ci := 1) (C := RX0) (T := TX0) (N := 4) hx hb hts iw_X0 tyX0_ok nmX0 hown hR hS rfl 3 (by decide) mm_582 (Or.inl rfl) rfl hnm rfl rfl rfl eh4 dX0_init_22 (fun H locs hR hS => ?_)
  cases hF
  exact x_vret hx hb hr hlk hR hS (by decide) (by decide) dX0_init_25
def rm_X0_isOver : Room := { frames := 3, cells := 0, slots := 0, locals := 69 }
theorem f_X0_isOver : xM yX0_isOver cX0_isOver 8 (some .boolean) 3 := ⟨mm_607, mm_76, by decide +kernel, by decide +kernel⟩
theorem dX0_isOver_0 : decode cX0_isOver 0 = .ok (.aload_n 1, 1) := by decide +kernel
theorem dX0_isOver_1 : decode cX0_isOver 1 = .ok (.iload_n 2, 1) := by decide +kernel
theorem dX0_isOver_2 : decode cX0_isOver 2 = .ok (.iload_n 3, 1) := by decide +kernel
theorem dX0_isOver_3 : decode cX0_isOver 3 = .ok (.isub, 1) := by decide +kernel
theorem dX0_isOver_4 : decode cX0_isOver 4 = .ok (.iconst 1, 1) := by decide +kernel
theorem dX0_isOver_5 : decode cX0_isOver 5 = .ok (.iadd, 1) := by decide +kernel
theorem dX0_isOver_6 : decode cX0_isOver 6 = .ok (.iload_n 2, 1) := by decide +kernel
theorem dX0_isOver_7 : decode cX0_isOver 7 = .ok (.invokeinterface 27 3, 5) := by decide +kernel
theorem dX0_isOver_12 : decode cX0_isOver 12 = .ok (.i2l, 1) := by decide +kernel
theorem dX0_isOver_13 : decode cX0_isOver 13 = .ok (.lstore 4, 2) := by decide +kernel
theorem dX0_isOver_15 : decode cX0_isOver 15 = .ok (.aload_n 1, 1) := by decide +kernel
theorem dX0_isOver_16 : decode cX0_isOver 16 = .ok (.iload_n 2, 1) := by decide +kernel
theorem dX0_isOver_17 : decode cX0_isOver 17 = .ok (.iload_n 3, 1) := by decide +kernel
theorem dX0_isOver_18 : decode cX0_isOver 18 = .ok (.isub, 1) := by decide +kernel
theorem dX0_isOver_19 : decode cX0_isOver 19 = .ok (.iconst 1, 1) := by decide +kernel
theorem dX0_isOver_20 : decode cX0_isOver 20 = .ok (.iadd, 1) := by decide +kernel
theorem dX0_isOver_21 : decode cX0_isOver 21 = .ok (.iload_n 2, 1) := by decide +kernel
theorem dX0_isOver_22 : decode cX0_isOver 22 = .ok (.invokeinterface 33 3, 5) := by decide +kernel
theorem dX0_isOver_27 : decode cX0_isOver 27 = .ok (.i2l, 1) := by decide +kernel
theorem dX0_isOver_28 : decode cX0_isOver 28 = .ok (.lstore 6, 2) := by decide +kernel
theorem dX0_isOver_30 : decode cX0_isOver 30 = .ok (.ldc2_w 36, 3) := by decide +kernel
theorem dX0_isOver_33 : decode cX0_isOver 33 = .ok (.lload 6, 2) := by decide +kernel
theorem dX0_isOver_35 : decode cX0_isOver 35 = .ok (.lmul, 1) := by decide +kernel
theorem dX0_isOver_36 : decode cX0_isOver 36 = .ok (.aload_n 0, 1) := by decide +kernel
theorem dX0_isOver_37 : decode cX0_isOver 37 = .ok (.getfield 20, 3) := by decide +kernel
theorem dX0_isOver_40 : decode cX0_isOver 40 = .ok (.aload_n 0, 1) := by decide +kernel
theorem dX0_isOver_41 : decode cX0_isOver 41 = .ok (.getfield 7, 3) := by decide +kernel
theorem dX0_isOver_44 : decode cX0_isOver 44 = .ok (.invokevirtual 38, 3) := by decide +kernel
theorem dX0_isOver_47 : decode cX0_isOver 47 = .ok (.imul, 1) := by decide +kernel
theorem dX0_isOver_48 : decode cX0_isOver 48 = .ok (.i2l, 1) := by decide +kernel
theorem dX0_isOver_49 : decode cX0_isOver 49 = .ok (.lload 4, 2) := by decide +kernel
theorem dX0_isOver_51 : decode cX0_isOver 51 = .ok (.lmul, 1) := by decide +kernel
theorem dX0_isOver_52 : decode cX0_isOver 52 = .ok (.lcmp, 1) := by decide +kernel
theorem dX0_isOver_53 : decode cX0_isOver 53 = .ok (.ifCond .le 7, 3) := by decide +kernel
theorem dX0_isOver_56 : decode cX0_isOver 56 = .ok (.iconst 1, 1) := by decide +kernel
theorem dX0_isOver_57 : decode cX0_isOver 57 = .ok (.goto 4, 3) := by decide +kernel
theorem dX0_isOver_60 : decode cX0_isOver 60 = .ok (.iconst 0, 1) := by decide +kernel
theorem dX0_isOver_61 : decode cX0_isOver 61 = .ok (.ireturn, 1) := by decide +kernel
def F_X0_isOver (G : Nat → Nat) (h : xH) (a0 : Nat) (a1 : Nat) (x2 : Int32) (x3 : Int32) : Option Int32 :=
  (xI h (some a1) 7 9 (fun z => F_X7_asksIn G h z ((x2 - x3) + 1) x2) (fun z => F_X9_asksIn G h z ((x2 - x3) + 1) x2)).bind fun v1 =>
  xl ((v1 : Int32).toInt64) fun v2 =>
  (xI h (some a1) 7 9 (fun z => F_X7_badIn G h z ((x2 - x3) + 1) x2) (fun z => F_X9_badIn G h z ((x2 - x3) + 1) x2)).bind fun v3 =>
  xl ((v3 : Int32).toInt64) fun v4 =>
  (gI h (some a0) 1 3).bind fun v5 =>
  (gR h (some a0) 1 0).bind fun w6 =>
  (xc h w6 6).bind fun b8 =>
  (F_X6_slack G h b8).bind fun v7 =>
  if (lg_cmp (10000 * v4) ((((v5 * v7) : Int32).toInt64) * v2)) ≤ 0 then
    some 0
  else
  some 1
set_option maxHeartbeats 4000000 in
set_option maxRecDepth 100000 in
theorem t_X0_isOver (l : Launch) (D : va_G) (G : Nat → Nat) (h : xH) (a0 : Nat) (a1 : Nat) (x2 : Int32) (x3 : Int32) (r : Int32) (hF : F_X0_isOver G h a0 a1 x2 x3 = some r) : xC l yX0_isOver cX0_isOver 8 (some .boolean) rm_X0_isOver D G h [.ref a0, .ref a1, .int x2, .int x3] (some (.int r)) h := by
  refine xC_of (by decide) (by first | decide | exact Nat.le_of_ble_eq_true rfl) ?_
  intro p e s m args below meth c ls hx hb hr hlk hml hown hnm hts hR hS hl
  have hl : lv_has ls 8 [(0, va_rf (some a0)), (1, va_rf (some a1)), (2, .int x2), (3, .int x3)] := hl
  unfold F_X0_isOver at hF
  refine x_aload_n (o := (some a1)) hx hb dX0_isOver_0 rfl (lv_at hl 1 rfl) ?_
  refine lv_iload_n hx hb dX0_isOver_1 rfl (lv_at hl 2 rfl) ?_
  refine lv_iload_n hx hb dX0_isOver_2 rfl (lv_at hl 3 rfl) ?_
  refine lv_isub hx hb dX0_isOver_3 ?_
  refine lv_iconst (v := 1) hx hb dX0_isOver_4 (by decide) ?_
  refine lv_iadd hx hb dX0_isOver_5 ?_
  refine lv_iload_n hx hb dX0_isOver_6 rfl (lv_at hl 2 rfl) ?_
  replace hF := xbind hF; obtain ⟨v1, ev1, hF⟩ := hF
  refine x_callF2 (o := (some a1)) (As := [.int ((x2 - x3) + 1), .int x2]) (rest := []) (v := (some (.int v1))) (k := 2) hx hb hml hown hts hR hS rfl rfl (by decide +kernel) (by decide +kernel) (xI_or ev1 (fun z e => t_X7_asksIn l D G h z ((x2 - x3) + 1) x2 v1 e) (fun z e => t_X9_asksIn l D G h z ((x2 - x3) + 1) x2 v1 e)) f_X7_asksIn f_X9_asksIn mm_609 mm_451 mm_619 mm_613 mm_617 (by decide +kernel) rfl rfl rfl rfl rfl hl.1 rfl (by first | exact Nat.le_of_ble_eq_true rfl | simp [xrf_cat, xcI, xcJ, xcA]) dX0_isOver_7 (by decide) (by decide) (by decide) rfl (fun H locs hR hS => ?_)
  refine lv_i2l (v := ((v1 : Int32).toInt64)) hx hb dX0_isOver_12 rfl ?_
  refine lv_topl (fun v2 ev2 => ?_)
  replace hF := xlet ev2 hF
  refine lv_lstore (lv' := [(4, .long v2), (0, va_rf (some a0)), (1, va_rf (some a1)), (2, .int x2), (3, .int x3)]) hx hb dX0_isOver_13 hl (by decide) (by first | rfl | simp [xrf_cat]) (fun ls hl => ?_)
  refine x_aload_n (o := (some a1)) hx hb dX0_isOver_15 rfl (lv_at hl 2 rfl) ?_
  refine lv_iload_n hx hb dX0_isOver_16 rfl (lv_at hl 3 rfl) ?_
  refine lv_iload_n hx hb dX0_isOver_17 rfl (lv_at hl 4 rfl) ?_
  refine lv_isub hx hb dX0_isOver_18 ?_
  refine lv_iconst (v := 1) hx hb dX0_isOver_19 (by decide) ?_
  refine lv_iadd hx hb dX0_isOver_20 ?_
  refine lv_iload_n hx hb dX0_isOver_21 rfl (lv_at hl 3 rfl) ?_
  replace hF := xbind hF; obtain ⟨v3, ev3, hF⟩ := hF
  refine x_callF2 (o := (some a1)) (As := [.int ((x2 - x3) + 1), .int x2]) (rest := []) (v := (some (.int v3))) (k := 2) hx hb hml hown hts hR hS rfl rfl (by decide +kernel) (by decide +kernel) (xI_or ev3 (fun z e => t_X7_badIn l D G h z ((x2 - x3) + 1) x2 v3 e) (fun z e => t_X9_badIn l D G h z ((x2 - x3) + 1) x2 v3 e)) f_X7_badIn f_X9_badIn mm_624 mm_459 mm_632 mm_627 mm_630 (by decide +kernel) rfl rfl rfl rfl rfl hl.1 rfl (by first | exact Nat.le_of_ble_eq_true rfl | simp [xrf_cat, xcI, xcJ, xcA]) dX0_isOver_22 (by decide) (by decide) (by decide) rfl (fun H locs hR hS => ?_)
  refine lv_i2l (v := ((v3 : Int32).toInt64)) hx hb dX0_isOver_27 rfl ?_
  refine lv_topl (fun v4 ev4 => ?_)
  replace hF := xlet ev4 hF
  refine lv_lstore (lv' := [(6, .long v4), (4, .long v2), (0, va_rf (some a0)), (1, va_rf (some a1)), (2, .int x2), (3, .int x3)]) hx hb dX0_isOver_28 hl (by decide) (by first | rfl | simp [xrf_cat]) (fun ls hl => ?_)
  refine lv_ldc2 hx hb hown (hts _ mm_635) dX0_isOver_30 ?_
  refine lv_lload hx hb dX0_isOver_33 (lv_at hl 0 rfl) ?_
  refine lv_lmul hx hb dX0_isOver_35 ?_
  refine x_aload_n (o := (some a0)) hx hb dX0_isOver_36 rfl (lv_at hl 2 rfl) ?_
  replace hF := xbind hF; obtain ⟨v5, ev5, hF⟩ := hF
  refine x_getI (o := (some a0)) (ci := 1) (C := RX0) (T := TX0) (N := 4) hx hb hts iw_X0 hown hR rfl 3 (by decide) mm_582 (Or.inl rfl) ev5 dX0_isOver_37 ?_
  refine x_aload_n (o := (some a0)) hx hb dX0_isOver_40 rfl (lv_at hl 2 rfl) ?_
  replace hF := xbind hF; obtain ⟨w6, ew6, hF⟩ := hF
  refine x_getR (o := (some a0)) (ci := 1) (C := RX0) (T := TX0) (N := 4) hx hb hts iw_X0 hown hR rfl 0 (by decide) mm_578 (Or.inl rfl) ew6 dX0_isOver_41 ?_
  replace hF := xbind hF; obtain ⟨b8, eb8, hF⟩ := hF
  replace hF := xbind hF; obtain ⟨v7, ev7, hF⟩ := hF
  refine x_callV (o := w6) (ci := 6) (As := []) (rest := [.int v5, .long (10000 * v4)]) (v := (some (.int v7))) (k := 0) hx hb hml hown hts hR hS eb8 rfl rfl (t_X6_slack l D G h b8 v7 ev7) f_X6_slack mm_636 mm_521 mm_522 rfl hl.1 rfl (by first | exact Nat.le_of_ble_eq_true rfl | simp [xrf_cat, xcI, xcJ, xcA]) dX0_isOver_44 (by decide) (by decide) rfl (fun H locs hR hS => ?_)
  refine lv_imul hx hb dX0_isOver_47 ?_
  refine lv_i2l (v := (((v5 * v7) : Int32).toInt64)) hx hb dX0_isOver_48 rfl ?_
  refine lv_lload hx hb dX0_isOver_49 (lv_at hl 1 rfl) ?_
  refine lv_lmul hx hb dX0_isOver_51 ?_
  refine W.lcmp hx hb dX0_isOver_52 ?_
  refine lv_if_le (tgt := 60) hx hb dX0_isOver_53 (by decide) (fun c9 => ?_) (fun c9 => ?_)
  · replace hF := xift c9 hF
    refine lv_iconst (v := 0) hx hb dX0_isOver_60 (by decide) ?_
    cases hF
    exact x_iret hx hb hr rfl hlk hR hS (by decide) (by decide) dX0_isOver_61
  · replace hF := xiff c9 hF
    refine lv_iconst (v := 1) hx hb dX0_isOver_56 (by decide) ?_
    refine lv_goto (tgt := 61) hx hb dX0_isOver_57 (by decide) ?_
    cases hF
    exact x_iret hx hb hr rfl hlk hR hS (by decide) (by decide) dX0_isOver_61
def rm_X0_ringsIn : Room := { frames := 4, cells := 0, slots := 0, locals := 96 }
theorem f_X0_ringsIn : xM yX0_ringsIn cX0_ringsIn 3 (some .boolean) 2 := ⟨mm_603, mm_76, by decide +kernel, by decide +kernel⟩
theorem dX0_ringsIn_0 : decode cX0_ringsIn 0 = .ok (.aload_n 0, 1) := by decide +kernel
theorem dX0_ringsIn_1 : decode cX0_ringsIn 1 = .ok (.aload_n 1, 1) := by decide +kernel
theorem dX0_ringsIn_2 : decode cX0_ringsIn 2 = .ok (.iload_n 2, 1) := by decide +kernel
theorem dX0_ringsIn_3 : decode cX0_ringsIn 3 = .ok (.aload_n 0, 1) := by decide +kernel
theorem dX0_ringsIn_4 : decode cX0_ringsIn 4 = .ok (.getfield 13, 3) := by decide +kernel
theorem dX0_ringsIn_7 : decode cX0_ringsIn 7 = .ok (.invokevirtual 23, 3) := by decide +kernel
theorem dX0_ringsIn_10 : decode cX0_ringsIn 10 = .ok (.ifCond .eq 20, 3) := by decide +kernel
theorem dX0_ringsIn_13 : decode cX0_ringsIn 13 = .ok (.aload_n 0, 1) := by decide +kernel
theorem dX0_ringsIn_14 : decode cX0_ringsIn 14 = .ok (.aload_n 1, 1) := by decide +kernel
theorem dX0_ringsIn_15 : decode cX0_ringsIn 15 = .ok (.iload_n 2, 1) := by decide +kernel
theorem dX0_ringsIn_16 : decode cX0_ringsIn 16 = .ok (.aload_n 0, 1) := by decide +kernel
theorem dX0_ringsIn_17 : decode cX0_ringsIn 17 = .ok (.getfield 17, 3) := by decide +kernel
theorem dX0_ringsIn_20 : decode cX0_ringsIn 20 = .ok (.invokevirtual 23, 3) := by decide +kernel
theorem dX0_ringsIn_23 : decode cX0_ringsIn 23 = .ok (.ifCond .eq 7, 3) := by decide +kernel
theorem dX0_ringsIn_26 : decode cX0_ringsIn 26 = .ok (.iconst 1, 1) := by decide +kernel
theorem dX0_ringsIn_27 : decode cX0_ringsIn 27 = .ok (.goto 4, 3) := by decide +kernel
theorem dX0_ringsIn_30 : decode cX0_ringsIn 30 = .ok (.iconst 0, 1) := by decide +kernel
theorem dX0_ringsIn_31 : decode cX0_ringsIn 31 = .ok (.ireturn, 1) := by decide +kernel
def F_X0_ringsIn (G : Nat → Nat) (h : xH) (a0 : Nat) (a1 : Nat) (x2 : Int32) : Option Int32 :=
  (gI h (some a0) 1 1).bind fun v1 =>
  (xc h (some a0) 1).bind fun b3 =>
  (F_X0_isOver G h b3 a1 x2 v1).bind fun v2 =>
  if v2 = 0 then
    some 0
  else
  (gI h (some a0) 1 2).bind fun v5 =>
  (xc h (some a0) 1).bind fun b7 =>
  (F_X0_isOver G h b7 a1 x2 v5).bind fun v6 =>
  if v6 = 0 then
    some 0
  else
  some 1
set_option maxHeartbeats 4000000 in
set_option maxRecDepth 100000 in
theorem t_X0_ringsIn (l : Launch) (D : va_G) (G : Nat → Nat) (h : xH) (a0 : Nat) (a1 : Nat) (x2 : Int32) (r : Int32) (hF : F_X0_ringsIn G h a0 a1 x2 = some r) : xC l yX0_ringsIn cX0_ringsIn 3 (some .boolean) rm_X0_ringsIn D G h [.ref a0, .ref a1, .int x2] (some (.int r)) h := by
  refine xC_of (by decide) (by first | decide | exact Nat.le_of_ble_eq_true rfl) ?_
  intro p e s m args below meth c ls hx hb hr hlk hml hown hnm hts hR hS hl
  have hl : lv_has ls 3 [(0, va_rf (some a0)), (1, va_rf (some a1)), (2, .int x2)] := hl
  unfold F_X0_ringsIn at hF
  refine x_aload_n (o := (some a0)) hx hb dX0_ringsIn_0 rfl (lv_at hl 0 rfl) ?_
  refine x_aload_n (o := (some a1)) hx hb dX0_ringsIn_1 rfl (lv_at hl 1 rfl) ?_
  refine lv_iload_n hx hb dX0_ringsIn_2 rfl (lv_at hl 2 rfl) ?_
  refine x_aload_n (o := (some a0)) hx hb dX0_ringsIn_3 rfl (lv_at hl 0 rfl) ?_
  replace hF := xbind hF; obtain ⟨v1, ev1, hF⟩ := hF
  refine x_getI (o := (some a0)) (ci := 1) (C := RX0) (T := TX0) (N := 4) hx hb hts iw_X0 hown hR rfl 1 (by decide) mm_580 (Or.inl rfl) ev1 dX0_ringsIn_4 ?_
  replace hF := xbind hF; obtain ⟨b3, eb3, hF⟩ := hF
  replace hF := xbind hF; obtain ⟨v2, ev2, hF⟩ := hF
  refine x_callV (o := (some a0)) (ci := 1) (As := [.ref a1, .int x2, .int v1]) (rest := []) (v := (some (.int v2))) (k := 3) hx hb hml hown hts hR hS eb3 rfl rfl (t_X0_isOver l D G h b3 a1 x2 v1 v2 ev2) f_X0_isOver mm_604 mm_606 mm_16 rfl hl.1 rfl (by first | exact Nat.le_of_ble_eq_true rfl | simp [xrf_cat, xcI, xcJ, xcA]) dX0_ringsIn_7 (by decide) (by decide) rfl (fun H locs hR hS => ?_)
  refine lv_if_eq (tgt := 30) hx hb dX0_ringsIn_10 (by decide) (fun c4 => ?_) (fun c4 => ?_)
  · replace hF := xift c4 hF
    refine lv_iconst (v := 0) hx hb dX0_ringsIn_30 (by decide) ?_
    cases hF
    exact x_iret hx hb hr rfl hlk hR hS (by decide) (by decide) dX0_ringsIn_31
  · replace hF := xiff c4 hF
    refine x_aload_n (o := (some a0)) hx hb dX0_ringsIn_13 rfl (lv_at hl 0 rfl) ?_
    refine x_aload_n (o := (some a1)) hx hb dX0_ringsIn_14 rfl (lv_at hl 1 rfl) ?_
    refine lv_iload_n hx hb dX0_ringsIn_15 rfl (lv_at hl 2 rfl) ?_
    refine x_aload_n (o := (some a0)) hx hb dX0_ringsIn_16 rfl (lv_at hl 0 rfl) ?_
    replace hF := xbind hF; obtain ⟨v5, ev5, hF⟩ := hF
    refine x_getI (o := (some a0)) (ci := 1) (C := RX0) (T := TX0) (N := 4) hx hb hts iw_X0 hown hR rfl 2 (by decide) mm_581 (Or.inl rfl) ev5 dX0_ringsIn_17 ?_
    replace hF := xbind hF; obtain ⟨b7, eb7, hF⟩ := hF
    replace hF := xbind hF; obtain ⟨v6, ev6, hF⟩ := hF
    refine x_callV (o := (some a0)) (ci := 1) (As := [.ref a1, .int x2, .int v5]) (rest := []) (v := (some (.int v6))) (k := 3) hx hb hml hown hts hR hS eb7 rfl rfl (t_X0_isOver l D G h b7 a1 x2 v5 v6 ev6) f_X0_isOver mm_604 mm_606 mm_16 rfl hl.1 rfl (by first | exact Nat.le_of_ble_eq_true rfl | simp [xrf_cat, xcI, xcJ, xcA]) dX0_ringsIn_20 (by decide) (by decide) rfl (fun H locs hR hS => ?_)
    refine lv_if_eq (tgt := 30) hx hb dX0_ringsIn_23 (by decide) (fun c8 => ?_) (fun c8 => ?_)
    · replace hF := xift c8 hF
      refine lv_iconst (v := 0) hx hb dX0_ringsIn_30 (by decide) ?_
      cases hF
      exact x_iret hx hb hr rfl hlk hR hS (by decide) (by decide) dX0_ringsIn_31
    · replace hF := xiff c8 hF
      refine lv_iconst (v := 1) hx hb dX0_ringsIn_26 (by decide) ?_
      refine lv_goto (tgt := 31) hx hb dX0_ringsIn_27 (by decide) ?_
      cases hF
      exact x_iret hx hb hr rfl hlk hR hS (by decide) (by decide) dX0_ringsIn_31
def rm_X2_init : Room := { frames := 1, cells := 0, slots := 0, locals := 20 }
theorem f_X2_init : xM yX2_init cX2_init 4 none 3 := ⟨mm_722, mm_78, by decide +kernel, by decide +kernel⟩
theorem dX2_init_0 : decode cX2_init 0 = .ok (.aload_n 0, 1) := by decide +kernel
theorem dX2_init_1 : decode cX2_init 1 = .ok (.invokespecial 3, 3) := by decide +kernel
theorem dX2_init_4 : decode cX2_init 4 = .ok (.aload_n 0, 1) := by decide +kernel
theorem dX2_init_5 : decode cX2_init 5 = .ok (.iconst 0, 1) := by decide +kernel
theorem dX2_init_6 : decode cX2_init 6 = .ok (.putfield 9, 3) := by decide +kernel
theorem dX2_init_9 : decode cX2_init 9 = .ok (.aload_n 0, 1) := by decide +kernel
theorem dX2_init_10 : decode cX2_init 10 = .ok (.iload_n 1, 1) := by decide +kernel
theorem dX2_init_11 : decode cX2_init 11 = .ok (.putfield 15, 3) := by decide +kernel
theorem dX2_init_14 : decode cX2_init 14 = .ok (.aload_n 0, 1) := by decide +kernel
theorem dX2_init_15 : decode cX2_init 15 = .ok (.iload_n 2, 1) := by decide +kernel
theorem dX2_init_16 : decode cX2_init 16 = .ok (.putfield 18, 3) := by decide +kernel
theorem dX2_init_19 : decode cX2_init 19 = .ok (.aload_n 0, 1) := by decide +kernel
theorem dX2_init_20 : decode cX2_init 20 = .ok (.iload_n 3, 1) := by decide +kernel
theorem dX2_init_21 : decode cX2_init 21 = .ok (.putfield 21, 3) := by decide +kernel
theorem dX2_init_24 : decode cX2_init 24 = .ok (.return_, 1) := by decide +kernel
def F_X2_init (G : Nat → Nat) (h : xH) (a0 : Nat) (x1 : Int32) (x2 : Int32) (x3 : Int32) : Option xH :=
  (xp G h (some a0) 3 3 (.int 0)).bind fun h1 =>
  (xp G h1 (some a0) 3 0 (.int x1)).bind fun h2 =>
  (xp G h2 (some a0) 3 1 (.int x2)).bind fun h3 =>
  (xp G h3 (some a0) 3 2 (.int x3)).bind fun h4 =>
  some h4
set_option maxHeartbeats 4000000 in
set_option maxRecDepth 100000 in
theorem t_X2_init (l : Launch) (D : va_G) (G : Nat → Nat) (h : xH) (a0 : Nat) (x1 : Int32) (x2 : Int32) (x3 : Int32) (h' : xH) (hF : F_X2_init G h a0 x1 x2 x3 = some h') : xC l yX2_init cX2_init 4 none rm_X2_init D G h [.ref a0, .int x1, .int x2, .int x3] none h' := by
  refine xC_of (by decide) (by first | decide | exact Nat.le_of_ble_eq_true rfl) ?_
  intro p e s m args below meth c ls hx hb hr hlk hml hown hnm hts hR hS hl
  have hl : lv_has ls 4 [(0, va_rf (some a0)), (1, .int x1), (2, .int x2), (3, .int x3)] := hl
  unfold F_X2_init at hF
  refine x_aload_n (o := (some a0)) hx hb dX2_init_0 rfl (lv_at hl 0 rfl) ?_
  refine x_oinit (o := (some a0)) hx hb hown (hml.trans hl.1.symm) hts mm_723 mm_86 mm_87 rfl dX2_init_1 (by decide) (by decide) (by decide) ?_
  refine x_aload_n (o := (some a0)) hx hb dX2_init_4 rfl (lv_at hl 0 rfl) ?_
  refine lv_iconst (v := 0) hx hb dX2_init_5 (by decide) ?_
  replace hF := xbind hF; obtain ⟨h1, eh1, hF⟩ := hF
  refine x_put (o := (some a0)) (ci := 3) (C := RX2) (T := TX2) (N := 5) hx hb hts iw_X2 tyX2_ok nmX2 hown hR hS rfl 3 (by decide) mm_730 (Or.inl rfl) rfl rfl rfl eh1 dX2_init_6 (fun H locs hR hS => ?_)
  refine x_aload_n (o := (some a0)) hx hb dX2_init_9 rfl (lv_at hl 0 rfl) ?_
  refine lv_iload_n hx hb dX2_init_10 rfl (lv_at hl 1 rfl) ?_
  replace hF := xbind hF; obtain ⟨h2, eh2, hF⟩ := hF
  refine x_putF (o := (some a0)) (ci := 3) (C := RX2) (T := TX2) (N := 5) hx hb hts iw_X2 tyX2_ok nmX2 hown hR hS rfl 0 (by decide) mm_724 (Or.inl rfl) rfl hnm rfl rfl rfl eh2 dX2_init_11 (fun H locs hR hS => ?_)
  refine x_aload_n (o := (some a0)) hx hb dX2_init_14 rfl (lv_at hl 0 rfl) ?_
  refine lv_iload_n hx hb dX2_init_15 rfl (lv_at hl 2 rfl) ?_
  replace hF := xbind hF; obtain ⟨h3, eh3, hF⟩ := hF
  refine x_putF (o := (some a0)) (ci := 3) (C := RX2) (T := TX2) (N := 5) hx hb hts iw_X2 tyX2_ok nmX2 hown hR hS rfl 1 (by decide) mm_726 (Or.inl rfl) rfl hnm rfl rfl rfl eh3 dX2_init_16 (fun H locs hR hS => ?_)
  refine x_aload_n (o := (some a0)) hx hb dX2_init_19 rfl (lv_at hl 0 rfl) ?_
  refine lv_iload_n hx hb dX2_init_20 rfl (lv_at hl 3 rfl) ?_
  replace hF := xbind hF; obtain ⟨h4, eh4, hF⟩ := hF
  refine x_putF (o := (some a0)) (ci := 3) (C := RX2) (T := TX2) (N := 5) hx hb hts iw_X2 tyX2_ok nmX2 hown hR hS rfl 2 (by decide) mm_728 (Or.inl rfl) rfl hnm rfl rfl rfl eh4 dX2_init_21 (fun H locs hR hS => ?_)
  cases hF
  exact x_vret hx hb hr hlk hR hS (by decide) (by decide) dX2_init_24
end
section
def rm_X1_init : Room := { frames := 1, cells := 3, slots := 1729, locals := 20 }
theorem f_X1_init : xM yX1_init cX1_init 1 none 0 := ⟨mm_169, mm_61, by decide +kernel, by decide +kernel⟩
theorem dX1_init_0 : decode cX1_init 0 = .ok (.aload_n 0, 1) := by decide +kernel
theorem dX1_init_1 : decode cX1_init 1 = .ok (.invokespecial 5, 3) := by decide +kernel
theorem dX1_init_4 : decode cX1_init 4 = .ok (.aload_n 0, 1) := by decide +kernel
theorem dX1_init_5 : decode cX1_init 5 = .ok (.bipush 13, 2) := by decide +kernel
theorem dX1_init_7 : decode cX1_init 7 = .ok (.newarray .int, 2) := by decide +kernel
theorem dX1_init_9 : decode cX1_init 9 = .ok (.putfield 11, 3) := by decide +kernel
theorem dX1_init_12 : decode cX1_init 12 = .ok (.aload_n 0, 1) := by decide +kernel
theorem dX1_init_13 : decode cX1_init 13 = .ok (.bipush 78, 2) := by decide +kernel
theorem dX1_init_15 : decode cX1_init 15 = .ok (.newarray .int, 2) := by decide +kernel
theorem dX1_init_17 : decode cX1_init 17 = .ok (.putfield 15, 3) := by decide +kernel
theorem dX1_init_20 : decode cX1_init 20 = .ok (.aload_n 0, 1) := by decide +kernel
theorem dX1_init_21 : decode cX1_init 21 = .ok (.sipush 1638, 3) := by decide +kernel
theorem dX1_init_24 : decode cX1_init 24 = .ok (.newarray .int, 2) := by decide +kernel
theorem dX1_init_26 : decode cX1_init 26 = .ok (.putfield 18, 3) := by decide +kernel
theorem dX1_init_29 : decode cX1_init 29 = .ok (.return_, 1) := by decide +kernel
def F_X1_init (G : Nat → Nat) (h : xH) (a0 : Nat) : Option xH :=
  (nAI G h 13).bind fun (q1, h2) =>
  (xp G h2 (some a0) 2 0 (va_rf (some q1))).bind fun h3 =>
  (nAI G h3 78).bind fun (q4, h5) =>
  (xp G h5 (some a0) 2 1 (va_rf (some q4))).bind fun h6 =>
  (nAI G h6 1638).bind fun (q7, h8) =>
  (xp G h8 (some a0) 2 2 (va_rf (some q7))).bind fun h9 =>
  some h9
set_option maxHeartbeats 4000000 in
set_option maxRecDepth 100000 in
theorem t_X1_init (l : Launch) (D : va_G) (G : Nat → Nat) (h : xH) (a0 : Nat) (h' : xH) (hF : F_X1_init G h a0 = some h') : xC l yX1_init cX1_init 1 none rm_X1_init D G h [.ref a0] none h' := by
  refine xC_of (by decide) (by first | decide | exact Nat.le_of_ble_eq_true rfl) ?_
  intro p e s m args below meth c ls hx hb hr hlk hml hown hnm hts hR hS hl
  have hl : lv_has ls 1 [(0, va_rf (some a0))] := hl
  unfold F_X1_init at hF
  refine x_aload_n (o := (some a0)) hx hb dX1_init_0 rfl (lv_at hl 0 rfl) ?_
  refine x_oinit (o := (some a0)) hx hb hown (hml.trans hl.1.symm) hts mm_170 mm_86 mm_87 rfl dX1_init_1 (by decide) (by decide) (by decide) ?_
  refine x_aload_n (o := (some a0)) hx hb dX1_init_4 rfl (lv_at hl 0 rfl) ?_
  refine lv_bipush (v := 13) hx hb dX1_init_5 (by decide) ?_
  replace hF := xbind hF; obtain ⟨⟨q1, h2⟩, eq1, hF⟩ := hF
  refine x_nAI hx hb hts mm_127 hR hS (by decide) (by decide) (by decide) (by decide) (by decide) eq1 dX1_init_7 (fun H hR hS => ?_)
  replace hF := xbind hF; obtain ⟨h3, eh3, hF⟩ := hF
  refine x_putF (o := (some a0)) (ci := 2) (C := RX1) (T := TX1) (N := 5) hx hb hts iw_X1 tyX1_ok nmX1 hown hR hS rfl 0 (by decide) mm_171 (Or.inl rfl) rfl hnm rfl xnarRA xfitRA eh3 dX1_init_9 (fun H locs hR hS => ?_)
  refine x_aload_n (o := (some a0)) hx hb dX1_init_12 rfl (lv_at hl 0 rfl) ?_
  refine lv_bipush (v := 78) hx hb dX1_init_13 (by decide) ?_
  replace hF := xbind hF; obtain ⟨⟨q4, h5⟩, eq4, hF⟩ := hF
  refine x_nAI hx hb hts mm_127 hR hS (by decide) (by decide) (by decide) (by decide) (by decide) eq4 dX1_init_15 (fun H hR hS => ?_)
  replace hF := xbind hF; obtain ⟨h6, eh6, hF⟩ := hF
  refine x_putF (o := (some a0)) (ci := 2) (C := RX1) (T := TX1) (N := 5) hx hb hts iw_X1 tyX1_ok nmX1 hown hR hS rfl 1 (by decide) mm_172 (Or.inl rfl) rfl hnm rfl xnarRA xfitRA eh6 dX1_init_17 (fun H locs hR hS => ?_)
  refine x_aload_n (o := (some a0)) hx hb dX1_init_20 rfl (lv_at hl 0 rfl) ?_
  refine lv_sipush (v := 1638) hx hb dX1_init_21 (by decide) ?_
  replace hF := xbind hF; obtain ⟨⟨q7, h8⟩, eq7, hF⟩ := hF
  refine x_nAI hx hb hts mm_127 hR hS (by decide) (by decide) (by decide) (by decide) (by decide) eq7 dX1_init_24 (fun H hR hS => ?_)
  replace hF := xbind hF; obtain ⟨h9, eh9, hF⟩ := hF
  refine x_putF (o := (some a0)) (ci := 2) (C := RX1) (T := TX1) (N := 5) hx hb hts iw_X1 tyX1_ok nmX1 hown hR hS rfl 2 (by decide) mm_173 (Or.inl rfl) rfl hnm rfl xnarRA xfitRA eh9 dX1_init_26 (fun H locs hR hS => ?_)
  cases hF
  exact x_vret hx hb hr hlk hR hS (by decide) (by decide) dX1_init_29
def rm_X1_pairOf : Room := { frames := 0, cells := 0, slots := 0, locals := 0 }
theorem f_X1_pairOf : xM yX1_pairOf cX1_pairOf 2 (some .int) 2 := ⟨mm_699, mm_61, by decide +kernel, by decide +kernel⟩
theorem dX1_pairOf_0 : decode cX1_pairOf 0 = .ok (.iload_n 0, 1) := by decide +kernel
theorem dX1_pairOf_1 : decode cX1_pairOf 1 = .ok (.iload_n 0, 1) := by decide +kernel
theorem dX1_pairOf_2 : decode cX1_pairOf 2 = .ok (.iconst 1, 1) := by decide +kernel
theorem dX1_pairOf_3 : decode cX1_pairOf 3 = .ok (.isub, 1) := by decide +kernel
theorem dX1_pairOf_4 : decode cX1_pairOf 4 = .ok (.imul, 1) := by decide +kernel
theorem dX1_pairOf_5 : decode cX1_pairOf 5 = .ok (.iconst 2, 1) := by decide +kernel
theorem dX1_pairOf_6 : decode cX1_pairOf 6 = .ok (.idiv, 1) := by decide +kernel
theorem dX1_pairOf_7 : decode cX1_pairOf 7 = .ok (.iload_n 1, 1) := by decide +kernel
theorem dX1_pairOf_8 : decode cX1_pairOf 8 = .ok (.iadd, 1) := by decide +kernel
theorem dX1_pairOf_9 : decode cX1_pairOf 9 = .ok (.iconst 1, 1) := by decide +kernel
theorem dX1_pairOf_10 : decode cX1_pairOf 10 = .ok (.isub, 1) := by decide +kernel
theorem dX1_pairOf_11 : decode cX1_pairOf 11 = .ok (.ireturn, 1) := by decide +kernel
def F_X1_pairOf (x0 : Int32) (x1 : Int32) : Option Int32 :=
  some ((((x0 * (x0 - 1)) / 2) + x1) - 1)
set_option maxHeartbeats 4000000 in
set_option maxRecDepth 100000 in
theorem t_X1_pairOf (l : Launch) (D : va_G) (G : Nat → Nat) (h : xH) (x0 : Int32) (x1 : Int32) (r : Int32) (hF : F_X1_pairOf x0 x1 = some r) : xC l yX1_pairOf cX1_pairOf 2 (some .int) rm_X1_pairOf D G h [.int x0, .int x1] (some (.int r)) h := by
  refine xC_of (by decide) (by first | decide | exact Nat.le_of_ble_eq_true rfl) ?_
  intro p e s m args below meth c ls hx hb hr hlk hml hown hnm hts hR hS hl
  have hl : lv_has ls 2 [(0, .int x0), (1, .int x1)] := hl
  unfold F_X1_pairOf at hF
  refine lv_iload_n hx hb dX1_pairOf_0 rfl (lv_at hl 0 rfl) ?_
  refine lv_iload_n hx hb dX1_pairOf_1 rfl (lv_at hl 0 rfl) ?_
  refine lv_iconst (v := 1) hx hb dX1_pairOf_2 (by decide) ?_
  refine lv_isub hx hb dX1_pairOf_3 ?_
  refine lv_imul hx hb dX1_pairOf_4 ?_
  refine lv_iconst (v := 2) hx hb dX1_pairOf_5 (by decide) ?_
  refine lv_idiv hx hb dX1_pairOf_6 (by decide) ?_
  refine lv_iload_n hx hb dX1_pairOf_7 rfl (lv_at hl 1 rfl) ?_
  refine lv_iadd hx hb dX1_pairOf_8 ?_
  refine lv_iconst (v := 1) hx hb dX1_pairOf_9 (by decide) ?_
  refine lv_isub hx hb dX1_pairOf_10 ?_
  cases hF
  exact x_iret hx hb hr rfl hlk hR hS (by decide) (by decide) dX1_pairOf_11
def rm_X1_levelOf : Room := { frames := 1, cells := 0, slots := 0, locals := 23 }
theorem f_X1_levelOf : xM yX1_levelOf cX1_levelOf 3 (some .int) 2 := ⟨mm_687, mm_61, by decide +kernel, by decide +kernel⟩
theorem dX1_levelOf_0 : decode cX1_levelOf 0 = .ok (.iload_n 2, 1) := by decide +kernel
theorem dX1_levelOf_1 : decode cX1_levelOf 1 = .ok (.ifCond .gt 5, 3) := by decide +kernel
theorem dX1_levelOf_4 : decode cX1_levelOf 4 = .ok (.iconst 0, 1) := by decide +kernel
theorem dX1_levelOf_5 : decode cX1_levelOf 5 = .ok (.ireturn, 1) := by decide +kernel
theorem dX1_levelOf_6 : decode cX1_levelOf 6 = .ok (.lload_n 0, 1) := by decide +kernel
theorem dX1_levelOf_7 : decode cX1_levelOf 7 = .ok (.lconst 0, 1) := by decide +kernel
theorem dX1_levelOf_8 : decode cX1_levelOf 8 = .ok (.lcmp, 1) := by decide +kernel
theorem dX1_levelOf_9 : decode cX1_levelOf 9 = .ok (.ifCond .gt 6, 3) := by decide +kernel
theorem dX1_levelOf_12 : decode cX1_levelOf 12 = .ok (.bipush 20, 2) := by decide +kernel
theorem dX1_levelOf_14 : decode cX1_levelOf 14 = .ok (.ireturn, 1) := by decide +kernel
theorem dX1_levelOf_15 : decode cX1_levelOf 15 = .ok (.ldc2_w 79, 3) := by decide +kernel
theorem dX1_levelOf_18 : decode cX1_levelOf 18 = .ok (.iload_n 2, 1) := by decide +kernel
theorem dX1_levelOf_19 : decode cX1_levelOf 19 = .ok (.i2l, 1) := by decide +kernel
theorem dX1_levelOf_20 : decode cX1_levelOf 20 = .ok (.lmul, 1) := by decide +kernel
theorem dX1_levelOf_21 : decode cX1_levelOf 21 = .ok (.lconst 1, 1) := by decide +kernel
theorem dX1_levelOf_22 : decode cX1_levelOf 22 = .ok (.lsub, 1) := by decide +kernel
theorem dX1_levelOf_23 : decode cX1_levelOf 23 = .ok (.lload_n 0, 1) := by decide +kernel
theorem dX1_levelOf_24 : decode cX1_levelOf 24 = .ok (.ldiv, 1) := by decide +kernel
theorem dX1_levelOf_25 : decode cX1_levelOf 25 = .ok (.ldc2_w 81, 3) := by decide +kernel
theorem dX1_levelOf_28 : decode cX1_levelOf 28 = .ok (.invokestatic 83, 3) := by decide +kernel
theorem dX1_levelOf_31 : decode cX1_levelOf 31 = .ok (.l2i, 1) := by decide +kernel
theorem dX1_levelOf_32 : decode cX1_levelOf 32 = .ok (.ireturn, 1) := by decide +kernel
def F_X1_levelOf (y0 : Int64) (x2 : Int32) : Option Int32 :=
  if 0 < x2 then
    if 0 < (lg_cmp y0 0) then
      xg (¬ y0 = 0) <|
      some (((xminJ (((1000 * ((x2 : Int32).toInt64)) - 1) / y0) 20) : Int64).toInt32)
    else
    some 20
  else
  some 0
set_option maxHeartbeats 4000000 in
set_option maxRecDepth 100000 in
theorem t_X1_levelOf (l : Launch) (D : va_G) (G : Nat → Nat) (h : xH) (y0 : Int64) (x2 : Int32) (r : Int32) (hF : F_X1_levelOf y0 x2 = some r) : xC l yX1_levelOf cX1_levelOf 3 (some .int) rm_X1_levelOf D G h [.long y0, .int x2] (some (.int r)) h := by
  refine xC_of (by decide) (by first | decide | exact Nat.le_of_ble_eq_true rfl) ?_
  intro p e s m args below meth c ls hx hb hr hlk hml hown hnm hts hR hS hl
  have hl : lv_has ls 3 [(0, .long y0), (2, .int x2)] := hl
  unfold F_X1_levelOf at hF
  refine lv_iload_n hx hb dX1_levelOf_0 rfl (lv_at hl 1 rfl) ?_
  refine lv_if_gt (tgt := 6) hx hb dX1_levelOf_1 (by decide) (fun c1 => ?_) (fun c1 => ?_)
  · replace hF := xift c1 hF
    refine lv_lload_n hx hb dX1_levelOf_6 rfl (lv_at hl 0 rfl) ?_
    refine lv_lconst (v := 0) hx hb dX1_levelOf_7 (by decide) ?_
    refine W.lcmp hx hb dX1_levelOf_8 ?_
    refine lv_if_gt (tgt := 15) hx hb dX1_levelOf_9 (by decide) (fun c2 => ?_) (fun c2 => ?_)
    · replace hF := xift c2 hF
      refine lv_ldc2 hx hb hown (hts _ mm_688) dX1_levelOf_15 ?_
      refine lv_iload_n hx hb dX1_levelOf_18 rfl (lv_at hl 1 rfl) ?_
      refine lv_i2l (v := ((x2 : Int32).toInt64)) hx hb dX1_levelOf_19 rfl ?_
      refine lv_lmul hx hb dX1_levelOf_20 ?_
      refine lv_lconst (v := 1) hx hb dX1_levelOf_21 (by decide) ?_
      refine lv_lsub hx hb dX1_levelOf_22 ?_
      refine lv_lload_n hx hb dX1_levelOf_23 rfl (lv_at hl 0 rfl) ?_
      replace hF := xguard hF; obtain ⟨c3, hF⟩ := hF
      refine lv_ldiv hx hb dX1_levelOf_24 c3 ?_
      refine lv_ldc2 hx hb hown (hts _ mm_689) dX1_levelOf_25 ?_
      refine x_minJ hx hb (hml.trans hl.1.symm) hown hts mm_690 mm_691 mm_65 mm_692 (by decide) (by first | exact Nat.le_of_ble_eq_true rfl | simp [xrf_cat, xcI, xcJ, xcA]) (by decide) (by decide) dX1_levelOf_28 ?_
      refine lv_l2i (v := (((xminJ (((1000 * ((x2 : Int32).toInt64)) - 1) / y0) 20) : Int64).toInt32)) hx hb dX1_levelOf_31 rfl ?_
      cases hF
      exact x_iret hx hb hr rfl hlk hR hS (by decide) (by decide) dX1_levelOf_32
    · replace hF := xiff c2 hF
      refine lv_bipush (v := 20) hx hb dX1_levelOf_12 (by decide) ?_
      cases hF
      exact x_iret hx hb hr rfl hlk hR hS (by decide) (by decide) dX1_levelOf_14
  · replace hF := xiff c1 hF
    refine lv_iconst (v := 0) hx hb dX1_levelOf_4 (by decide) ?_
    cases hF
    exact x_iret hx hb hr rfl hlk hR hS (by decide) (by decide) dX1_levelOf_5
def rm_X1_measure : Room := { frames := 3, cells := 0, slots := 0, locals := 69 }
theorem f_X1_measure : xM yX1_measure cX1_measure 8 (some .boolean) 3 := ⟨mm_680, mm_61, by decide +kernel, by decide +kernel⟩
theorem dX1_measure_0 : decode cX1_measure 0 = .ok (.iconst 0, 1) := by decide +kernel
theorem dX1_measure_1 : decode cX1_measure 1 = .ok (.istore 4, 2) := by decide +kernel
theorem dX1_measure_3 : decode cX1_measure 3 = .ok (.iconst 0, 1) := by decide +kernel
theorem dX1_measure_4 : decode cX1_measure 4 = .ok (.istore 5, 2) := by decide +kernel
theorem dX1_measure_6 : decode cX1_measure 6 = .ok (.iconst 1, 1) := by decide +kernel
theorem dX1_measure_7 : decode cX1_measure 7 = .ok (.istore 6, 2) := by decide +kernel
theorem dX1_measure_9 : decode cX1_measure 9 = .ok (.iload 6, 2) := by decide +kernel
theorem dX1_measure_11 : decode cX1_measure 11 = .ok (.bipush 12, 2) := by decide +kernel
theorem dX1_measure_13 : decode cX1_measure 13 = .ok (.if_icmp .gt 65, 3) := by decide +kernel
theorem dX1_measure_16 : decode cX1_measure 16 = .ok (.iload_n 3, 1) := by decide +kernel
theorem dX1_measure_17 : decode cX1_measure 17 = .ok (.iload 6, 2) := by decide +kernel
theorem dX1_measure_19 : decode cX1_measure 19 = .ok (.isub, 1) := by decide +kernel
theorem dX1_measure_20 : decode cX1_measure 20 = .ok (.iconst 1, 1) := by decide +kernel
theorem dX1_measure_21 : decode cX1_measure 21 = .ok (.iadd, 1) := by decide +kernel
theorem dX1_measure_22 : decode cX1_measure 22 = .ok (.istore 7, 2) := by decide +kernel
theorem dX1_measure_24 : decode cX1_measure 24 = .ok (.iload 4, 2) := by decide +kernel
theorem dX1_measure_26 : decode cX1_measure 26 = .ok (.aload_n 1, 1) := by decide +kernel
theorem dX1_measure_27 : decode cX1_measure 27 = .ok (.iload 7, 2) := by decide +kernel
theorem dX1_measure_29 : decode cX1_measure 29 = .ok (.iload 7, 2) := by decide +kernel
theorem dX1_measure_31 : decode cX1_measure 31 = .ok (.invokeinterface 69 3, 5) := by decide +kernel
theorem dX1_measure_36 : decode cX1_measure 36 = .ok (.iadd, 1) := by decide +kernel
theorem dX1_measure_37 : decode cX1_measure 37 = .ok (.istore 4, 2) := by decide +kernel
theorem dX1_measure_39 : decode cX1_measure 39 = .ok (.iload 5, 2) := by decide +kernel
theorem dX1_measure_41 : decode cX1_measure 41 = .ok (.aload_n 1, 1) := by decide +kernel
theorem dX1_measure_42 : decode cX1_measure 42 = .ok (.iload 7, 2) := by decide +kernel
theorem dX1_measure_44 : decode cX1_measure 44 = .ok (.iload 7, 2) := by decide +kernel
theorem dX1_measure_46 : decode cX1_measure 46 = .ok (.invokeinterface 74 3, 5) := by decide +kernel
theorem dX1_measure_51 : decode cX1_measure 51 = .ok (.iadd, 1) := by decide +kernel
theorem dX1_measure_52 : decode cX1_measure 52 = .ok (.istore 5, 2) := by decide +kernel
theorem dX1_measure_54 : decode cX1_measure 54 = .ok (.aload_n 0, 1) := by decide +kernel
theorem dX1_measure_55 : decode cX1_measure 55 = .ok (.getfield 11, 3) := by decide +kernel
theorem dX1_measure_58 : decode cX1_measure 58 = .ok (.iload 6, 2) := by decide +kernel
theorem dX1_measure_60 : decode cX1_measure 60 = .ok (.iload_n 2, 1) := by decide +kernel
theorem dX1_measure_61 : decode cX1_measure 61 = .ok (.i2l, 1) := by decide +kernel
theorem dX1_measure_62 : decode cX1_measure 62 = .ok (.iload 4, 2) := by decide +kernel
theorem dX1_measure_64 : decode cX1_measure 64 = .ok (.i2l, 1) := by decide +kernel
theorem dX1_measure_65 : decode cX1_measure 65 = .ok (.lmul, 1) := by decide +kernel
theorem dX1_measure_66 : decode cX1_measure 66 = .ok (.iload 5, 2) := by decide +kernel
theorem dX1_measure_68 : decode cX1_measure 68 = .ok (.invokestatic 75, 3) := by decide +kernel
theorem dX1_measure_71 : decode cX1_measure 71 = .ok (.iastore, 1) := by decide +kernel
theorem dX1_measure_72 : decode cX1_measure 72 = .ok (.iinc 6 1, 3) := by decide +kernel
theorem dX1_measure_75 : decode cX1_measure 75 = .ok (.goto (-66), 3) := by decide +kernel
theorem dX1_measure_78 : decode cX1_measure 78 = .ok (.iload 5, 2) := by decide +kernel
theorem dX1_measure_80 : decode cX1_measure 80 = .ok (.ifCond .le 7, 3) := by decide +kernel
theorem dX1_measure_83 : decode cX1_measure 83 = .ok (.iconst 1, 1) := by decide +kernel
theorem dX1_measure_84 : decode cX1_measure 84 = .ok (.goto 4, 3) := by decide +kernel
theorem dX1_measure_87 : decode cX1_measure 87 = .ok (.iconst 0, 1) := by decide +kernel
theorem dX1_measure_88 : decode cX1_measure 88 = .ok (.ireturn, 1) := by decide +kernel
def F_X1_measure_9 (G : Nat → Nat) (a0 : Nat) (a1 : Nat) (x2 : Int32) (x3 : Int32) : Nat → xH → Int32 → Int32 → Int32 → Option (Int32 × xH)
  | 0, _, _, _, _ => none
  | n + 1, h, x4, x5, x6 =>
    if 12 < x6 then
      if x5 ≤ 0 then
        some (0, h)
      else
      some (1, h)
    else
    xl ((x3 - x6) + 1) fun v3 =>
    (xI h (some a1) 7 9 (fun z => F_X7_asksIn G h z v3 v3) (fun z => F_X9_asksIn G h z v3 v3)).bind fun v4 =>
    xl (x4 + v4) fun v5 =>
    (xI h (some a1) 7 9 (fun z => F_X7_badIn G h z v3 v3) (fun z => F_X9_badIn G h z v3 v3)).bind fun v6 =>
    xl (x5 + v6) fun v7 =>
    (gR h (some a0) 2 0).bind fun w8 =>
    (F_X1_levelOf (((x2 : Int32).toInt64) * ((v5 : Int32).toInt64)) v7).bind fun v9 =>
    (stI 2 G h w8 x6 v9).bind fun h10 =>
    xl (x6 + 1) fun v11 =>
    F_X1_measure_9 G a0 a1 x2 x3 n h10 v5 v7 v11
set_option maxHeartbeats 4000000 in
set_option maxRecDepth 100000 in
theorem tl_X1_measure_9 {p : Program} {l : Launch} {e : Env} {s : State} {m : MethodId} {args : Array Value} {below : List Frame} {meth : Method} {c : Code} {D : va_G} {r : Int32} {h' : xH} (hx : p.tables.exec = Jvm.exec) (hb : c.code = cX1_measure) (hr : meth.sig.returnType = (some .boolean)) (hlk : meth.locks = false) (hml : c.maxLocals = 8) (hown : s.vm.findClass RX1 = some m.cls) (hnm : meth.name = "measure") (hts : ∀ w ∈ xt, w.before args s = true) (G : Nat → Nat) (a0 : Nat) (a1 : Nat) (x2 : Int32) (x3 : Int32) : ∀ (n : Nat) (h : xH) (x4 : Int32) (x5 : Int32) (x6 : Int32) (H : Heap) (locs : List Loc) (ls : Array Slot), F_X1_measure_9 G a0 a1 x2 x3 n h x4 x5 x6 = some (r, h') → xR D G h s H → va_S (xA G) s.heap H locs → lv_has ls 8 [(0, va_rf (some a0)), (1, va_rf (some a1)), (2, .int x2), (3, .int x3), (4, .int x4), (5, .int x5), (6, .int x6)] → W p l e rm_X1_measure s m args below meth c H locs 0 0 (MQ below (xQ D G (some (.int r)) h') args s rm_X1_measure.cells rm_X1_measure.slots (xA G)) (F0 m 9 ls []) := by
  intro n
  induction n with
  | zero =>
    intro h x4 x5 x6 H locs ls hF
    rw [F_X1_measure_9.eq_1] at hF
    cases hF
  | succ n ih =>
    intro h x4 x5 x6 H locs ls hF hR hS hl
    rw [F_X1_measure_9.eq_2] at hF
    refine lv_iload hx hb dX1_measure_9 (lv_at hl 6 rfl) ?_
    refine lv_bipush (v := 12) hx hb dX1_measure_11 (by decide) ?_
    refine lv_icmp_gt (tgt := 78) hx hb dX1_measure_13 (by decide) (fun c1 => ?_) (fun c1 => ?_)
    · replace hF := xift c1 hF
      refine lv_iload hx hb dX1_measure_78 (lv_at hl 5 rfl) ?_
      refine lv_if_le (tgt := 87) hx hb dX1_measure_80 (by decide) (fun c2 => ?_) (fun c2 => ?_)
      · replace hF := xift c2 hF
        refine lv_iconst (v := 0) hx hb dX1_measure_87 (by decide) ?_
        cases hF
        exact x_iret hx hb hr rfl hlk hR hS (by decide) (by decide) dX1_measure_88
      · replace hF := xiff c2 hF
        refine lv_iconst (v := 1) hx hb dX1_measure_83 (by decide) ?_
        refine lv_goto (tgt := 88) hx hb dX1_measure_84 (by decide) ?_
        cases hF
        exact x_iret hx hb hr rfl hlk hR hS (by decide) (by decide) dX1_measure_88
    · replace hF := xiff c1 hF
      refine lv_iload_n hx hb dX1_measure_16 rfl (lv_at hl 3 rfl) ?_
      refine lv_iload hx hb dX1_measure_17 (lv_at hl 6 rfl) ?_
      refine lv_isub hx hb dX1_measure_19 ?_
      refine lv_iconst (v := 1) hx hb dX1_measure_20 (by decide) ?_
      refine lv_iadd hx hb dX1_measure_21 ?_
      refine lv_topi (fun v3 ev3 => ?_)
      replace hF := xlet ev3 hF
      refine lv_istore (lv' := [(7, .int v3), (0, va_rf (some a0)), (1, va_rf (some a1)), (2, .int x2), (3, .int x3), (4, .int x4), (5, .int x5), (6, .int x6)]) hx hb dX1_measure_22 hl (by decide) (by first | rfl | simp [xrf_cat]) (fun ls hl => ?_)
      refine lv_iload hx hb dX1_measure_24 (lv_at hl 5 rfl) ?_
      refine x_aload_n (o := (some a1)) hx hb dX1_measure_26 rfl (lv_at hl 2 rfl) ?_
      refine lv_iload hx hb dX1_measure_27 (lv_at hl 0 rfl) ?_
      refine lv_iload hx hb dX1_measure_29 (lv_at hl 0 rfl) ?_
      replace hF := xbind hF; obtain ⟨v4, ev4, hF⟩ := hF
      refine x_callF2 (o := (some a1)) (As := [.int v3, .int v3]) (rest := [.int x4]) (v := (some (.int v4))) (k := 2) hx hb hml hown hts hR hS rfl rfl (by decide +kernel) (by decide +kernel) (xI_or ev4 (fun z e => t_X7_asksIn l D G h z v3 v3 v4 e) (fun z e => t_X9_asksIn l D G h z v3 v3 v4 e)) f_X7_asksIn f_X9_asksIn mm_682 mm_451 mm_619 mm_613 mm_617 (by decide +kernel) rfl rfl rfl rfl rfl hl.1 rfl (by first | exact Nat.le_of_ble_eq_true rfl | simp [xrf_cat, xcI, xcJ, xcA]) dX1_measure_31 (by decide) (by decide) (by decide) rfl (fun H locs hR hS => ?_)
      refine lv_iadd hx hb dX1_measure_36 ?_
      refine lv_topi (fun v5 ev5 => ?_)
      replace hF := xlet ev5 hF
      refine lv_istore (lv' := [(4, .int v5), (7, .int v3), (0, va_rf (some a0)), (1, va_rf (some a1)), (2, .int x2), (3, .int x3), (5, .int x5), (6, .int x6)]) hx hb dX1_measure_37 hl (by decide) (by first | rfl | simp [xrf_cat]) (fun ls hl => ?_)
      refine lv_iload hx hb dX1_measure_39 (lv_at hl 6 rfl) ?_
      refine x_aload_n (o := (some a1)) hx hb dX1_measure_41 rfl (lv_at hl 3 rfl) ?_
      refine lv_iload hx hb dX1_measure_42 (lv_at hl 1 rfl) ?_
      refine lv_iload hx hb dX1_measure_44 (lv_at hl 1 rfl) ?_
      replace hF := xbind hF; obtain ⟨v6, ev6, hF⟩ := hF
      refine x_callF2 (o := (some a1)) (As := [.int v3, .int v3]) (rest := [.int x5]) (v := (some (.int v6))) (k := 2) hx hb hml hown hts hR hS rfl rfl (by decide +kernel) (by decide +kernel) (xI_or ev6 (fun z e => t_X7_badIn l D G h z v3 v3 v6 e) (fun z e => t_X9_badIn l D G h z v3 v3 v6 e)) f_X7_badIn f_X9_badIn mm_684 mm_459 mm_632 mm_627 mm_630 (by decide +kernel) rfl rfl rfl rfl rfl hl.1 rfl (by first | exact Nat.le_of_ble_eq_true rfl | simp [xrf_cat, xcI, xcJ, xcA]) dX1_measure_46 (by decide) (by decide) (by decide) rfl (fun H locs hR hS => ?_)
      refine lv_iadd hx hb dX1_measure_51 ?_
      refine lv_topi (fun v7 ev7 => ?_)
      replace hF := xlet ev7 hF
      refine lv_istore (lv' := [(5, .int v7), (4, .int v5), (7, .int v3), (0, va_rf (some a0)), (1, va_rf (some a1)), (2, .int x2), (3, .int x3), (6, .int x6)]) hx hb dX1_measure_52 hl (by decide) (by first | rfl | simp [xrf_cat]) (fun ls hl => ?_)
      refine x_aload_n (o := (some a0)) hx hb dX1_measure_54 rfl (lv_at hl 3 rfl) ?_
      replace hF := xbind hF; obtain ⟨w8, ew8, hF⟩ := hF
      refine x_getR (o := (some a0)) (ci := 2) (C := RX1) (T := TX1) (N := 5) hx hb hts iw_X1 hown hR rfl 0 (by decide) mm_171 (Or.inl rfl) ew8 dX1_measure_55 ?_
      refine lv_iload hx hb dX1_measure_58 (lv_at hl 7 rfl) ?_
      refine lv_iload_n hx hb dX1_measure_60 rfl (lv_at hl 5 rfl) ?_
      refine lv_i2l (v := ((x2 : Int32).toInt64)) hx hb dX1_measure_61 rfl ?_
      refine lv_iload hx hb dX1_measure_62 (lv_at hl 1 rfl) ?_
      refine lv_i2l (v := ((v5 : Int32).toInt64)) hx hb dX1_measure_64 rfl ?_
      refine lv_lmul hx hb dX1_measure_65 ?_
      refine lv_iload hx hb dX1_measure_66 (lv_at hl 0 rfl) ?_
      replace hF := xbind hF; obtain ⟨v9, ev9, hF⟩ := hF
      refine x_callS (As := [.long (((x2 : Int32).toInt64) * ((v5 : Int32).toInt64)), .int v7]) (rest := [.int x6, va_rf w8]) (v := (some (.int v9))) (k := 2) hx hb hml hown hts hR hS (t_X1_levelOf l D G h (((x2 : Int32).toInt64) * ((v5 : Int32).toInt64)) v7 v9 ev9) f_X1_levelOf mm_685 mm_686 rfl hl.1 rfl (by first | exact Nat.le_of_ble_eq_true rfl | simp [xrf_cat, xcI, xcJ, xcA]) dX1_measure_68 (by decide) (by decide) rfl (fun H locs hR hS => ?_)
      replace hF := xbind hF; obtain ⟨h10, eh10, hF⟩ := hF
      refine x_ist (o := w8) hx hb hR hS eh10 dX1_measure_71 (fun H locs hR hS => ?_)
      obtain ⟨v11, ev11⟩ : ∃ z : Int32, z = (x6 + 1) := ⟨_, rfl⟩
      replace hF := xlet ev11 hF
      refine lv_iinc (v := v11) (lv' := [(6, .int v11), (5, .int v7), (4, .int v5), (7, .int v3), (0, va_rf (some a0)), (1, va_rf (some a1)), (2, .int x2), (3, .int x3)]) hx hb dX1_measure_72 hl (k := 7) rfl (by rw [ev11]; rfl) (by decide) (by first | rfl | simp [xrf_cat]) (fun ls hl => ?_)
      refine lv_goto (tgt := 9) hx hb dX1_measure_75 (by decide) ?_
      exact ih h10 v5 v7 v11 _ _ _ hF hR hS (lv_sub hl [4, 5, 6, 7, 2, 1, 0] rfl)
def F_X1_measure (G : Nat → Nat) (h : xH) (a0 : Nat) (a1 : Nat) (x2 : Int32) (x3 : Int32) : Option (Int32 × xH) :=
  F_X1_measure_9 G a0 a1 x2 x3 xN h 0 0 1
set_option maxHeartbeats 4000000 in
set_option maxRecDepth 100000 in
theorem t_X1_measure (l : Launch) (D : va_G) (G : Nat → Nat) (h : xH) (a0 : Nat) (a1 : Nat) (x2 : Int32) (x3 : Int32) (r : Int32) (h' : xH) (hF : F_X1_measure G h a0 a1 x2 x3 = some (r, h')) : xC l yX1_measure cX1_measure 8 (some .boolean) rm_X1_measure D G h [.ref a0, .ref a1, .int x2, .int x3] (some (.int r)) h' := by
  refine xC_of (by decide) (by first | decide | exact Nat.le_of_ble_eq_true rfl) ?_
  intro p e s m args below meth c ls hx hb hr hlk hml hown hnm hts hR hS hl
  have hl : lv_has ls 8 [(0, va_rf (some a0)), (1, va_rf (some a1)), (2, .int x2), (3, .int x3)] := hl
  unfold F_X1_measure at hF
  refine lv_iconst (v := 0) hx hb dX1_measure_0 (by decide) ?_
  refine lv_istore (lv' := [(4, .int 0), (0, va_rf (some a0)), (1, va_rf (some a1)), (2, .int x2), (3, .int x3)]) hx hb dX1_measure_1 hl (by decide) (by first | rfl | simp [xrf_cat]) (fun ls hl => ?_)
  refine lv_iconst (v := 0) hx hb dX1_measure_3 (by decide) ?_
  refine lv_istore (lv' := [(5, .int 0), (4, .int 0), (0, va_rf (some a0)), (1, va_rf (some a1)), (2, .int x2), (3, .int x3)]) hx hb dX1_measure_4 hl (by decide) (by first | rfl | simp [xrf_cat]) (fun ls hl => ?_)
  refine lv_iconst (v := 1) hx hb dX1_measure_6 (by decide) ?_
  refine lv_istore (lv' := [(6, .int 1), (5, .int 0), (4, .int 0), (0, va_rf (some a0)), (1, va_rf (some a1)), (2, .int x2), (3, .int x3)]) hx hb dX1_measure_7 hl (by decide) (by first | rfl | simp [xrf_cat]) (fun ls hl => ?_)
  refine W.widen (k := 0) (n := 0) (by decide) (by decide) ?_
  exact tl_X1_measure_9 hx hb hr hlk hml hown hnm hts G a0 a1 x2 x3 _ h 0 0 1 _ _ _ hF hR hS (lv_sub hl [3, 4, 5, 6, 2, 1, 0] rfl)
def rm_X1_noteReached : Room := { frames := 1, cells := 0, slots := 0, locals := 23 }
theorem f_X1_noteReached : xM yX1_noteReached cX1_noteReached 4 none 0 := ⟨mm_696, mm_61, by decide +kernel, by decide +kernel⟩
theorem dX1_noteReached_0 : decode cX1_noteReached 0 = .ok (.iconst 1, 1) := by decide +kernel
theorem dX1_noteReached_1 : decode cX1_noteReached 1 = .ok (.istore_n 1, 1) := by decide +kernel
theorem dX1_noteReached_2 : decode cX1_noteReached 2 = .ok (.iload_n 1, 1) := by decide +kernel
theorem dX1_noteReached_3 : decode cX1_noteReached 3 = .ok (.bipush 12, 2) := by decide +kernel
theorem dX1_noteReached_5 : decode cX1_noteReached 5 = .ok (.if_icmp .gt 68, 3) := by decide +kernel
theorem dX1_noteReached_8 : decode cX1_noteReached 8 = .ok (.iconst 1, 1) := by decide +kernel
theorem dX1_noteReached_9 : decode cX1_noteReached 9 = .ok (.istore_n 2, 1) := by decide +kernel
theorem dX1_noteReached_10 : decode cX1_noteReached 10 = .ok (.iload_n 2, 1) := by decide +kernel
theorem dX1_noteReached_11 : decode cX1_noteReached 11 = .ok (.iload_n 1, 1) := by decide +kernel
theorem dX1_noteReached_12 : decode cX1_noteReached 12 = .ok (.if_icmp .gt 55, 3) := by decide +kernel
theorem dX1_noteReached_15 : decode cX1_noteReached 15 = .ok (.iload_n 1, 1) := by decide +kernel
theorem dX1_noteReached_16 : decode cX1_noteReached 16 = .ok (.iload_n 2, 1) := by decide +kernel
theorem dX1_noteReached_17 : decode cX1_noteReached 17 = .ok (.invokestatic 86, 3) := by decide +kernel
theorem dX1_noteReached_20 : decode cX1_noteReached 20 = .ok (.istore_n 3, 1) := by decide +kernel
theorem dX1_noteReached_21 : decode cX1_noteReached 21 = .ok (.iload_n 3, 1) := by decide +kernel
theorem dX1_noteReached_22 : decode cX1_noteReached 22 = .ok (.ifCond .lt 39, 3) := by decide +kernel
theorem dX1_noteReached_25 : decode cX1_noteReached 25 = .ok (.iload_n 3, 1) := by decide +kernel
theorem dX1_noteReached_26 : decode cX1_noteReached 26 = .ok (.bipush 78, 2) := by decide +kernel
theorem dX1_noteReached_28 : decode cX1_noteReached 28 = .ok (.if_icmp .ge 33, 3) := by decide +kernel
theorem dX1_noteReached_31 : decode cX1_noteReached 31 = .ok (.aload_n 0, 1) := by decide +kernel
theorem dX1_noteReached_32 : decode cX1_noteReached 32 = .ok (.getfield 15, 3) := by decide +kernel
theorem dX1_noteReached_35 : decode cX1_noteReached 35 = .ok (.iload_n 3, 1) := by decide +kernel
theorem dX1_noteReached_36 : decode cX1_noteReached 36 = .ok (.aload_n 0, 1) := by decide +kernel
theorem dX1_noteReached_37 : decode cX1_noteReached 37 = .ok (.getfield 15, 3) := by decide +kernel
theorem dX1_noteReached_40 : decode cX1_noteReached 40 = .ok (.iload_n 3, 1) := by decide +kernel
theorem dX1_noteReached_41 : decode cX1_noteReached 41 = .ok (.iaload, 1) := by decide +kernel
theorem dX1_noteReached_42 : decode cX1_noteReached 42 = .ok (.aload_n 0, 1) := by decide +kernel
theorem dX1_noteReached_43 : decode cX1_noteReached 43 = .ok (.getfield 11, 3) := by decide +kernel
theorem dX1_noteReached_46 : decode cX1_noteReached 46 = .ok (.iload_n 1, 1) := by decide +kernel
theorem dX1_noteReached_47 : decode cX1_noteReached 47 = .ok (.iaload, 1) := by decide +kernel
theorem dX1_noteReached_48 : decode cX1_noteReached 48 = .ok (.aload_n 0, 1) := by decide +kernel
theorem dX1_noteReached_49 : decode cX1_noteReached 49 = .ok (.getfield 11, 3) := by decide +kernel
theorem dX1_noteReached_52 : decode cX1_noteReached 52 = .ok (.iload_n 2, 1) := by decide +kernel
theorem dX1_noteReached_53 : decode cX1_noteReached 53 = .ok (.iaload, 1) := by decide +kernel
theorem dX1_noteReached_54 : decode cX1_noteReached 54 = .ok (.invokestatic 57, 3) := by decide +kernel
theorem dX1_noteReached_57 : decode cX1_noteReached 57 = .ok (.invokestatic 89, 3) := by decide +kernel
theorem dX1_noteReached_60 : decode cX1_noteReached 60 = .ok (.iastore, 1) := by decide +kernel
theorem dX1_noteReached_61 : decode cX1_noteReached 61 = .ok (.iinc 2 1, 3) := by decide +kernel
theorem dX1_noteReached_64 : decode cX1_noteReached 64 = .ok (.goto (-54), 3) := by decide +kernel
theorem dX1_noteReached_67 : decode cX1_noteReached 67 = .ok (.iinc 1 1, 3) := by decide +kernel
theorem dX1_noteReached_70 : decode cX1_noteReached 70 = .ok (.goto (-68), 3) := by decide +kernel
theorem dX1_noteReached_73 : decode cX1_noteReached 73 = .ok (.return_, 1) := by decide +kernel
def F_X1_noteReached_10 (G : Nat → Nat) (a0 : Nat) (x1 : Int32) (k2 : xH → Int32 → Option xH) : Nat → xH → Int32 → Option xH
  | 0, _, _ => none
  | n + 1, h, x2 =>
    if x1 < x2 then
      xl (x1 + 1) fun v3 =>
      k2 h v3
    else
    (F_X1_pairOf x1 x2).bind fun v4 =>
    if v4 < 0 then
      xl (x2 + 1) fun v6 =>
      F_X1_noteReached_10 G a0 x1 k2 n h v6
    else
    if 78 ≤ v4 then
      xl (x2 + 1) fun v8 =>
      F_X1_noteReached_10 G a0 x1 k2 n h v8
    else
    (gR h (some a0) 2 1).bind fun w9 =>
    (gR h (some a0) 2 1).bind fun w10 =>
    (ldI 2 G h w10 v4).bind fun v11 =>
    (gR h (some a0) 2 0).bind fun w12 =>
    (ldI 2 G h w12 x1).bind fun v13 =>
    (gR h (some a0) 2 0).bind fun w14 =>
    (ldI 2 G h w14 x2).bind fun v15 =>
    (stI 2 G h w9 v4 (xmax v11 (xmin v13 v15))).bind fun h16 =>
    xl (x2 + 1) fun v17 =>
    F_X1_noteReached_10 G a0 x1 k2 n h16 v17
set_option maxHeartbeats 4000000 in
set_option maxRecDepth 100000 in
theorem tl_X1_noteReached_10 {p : Program} {l : Launch} {e : Env} {s : State} {m : MethodId} {args : Array Value} {below : List Frame} {meth : Method} {c : Code} {D : va_G} {h' : xH} (hx : p.tables.exec = Jvm.exec) (hb : c.code = cX1_noteReached) (hr : meth.sig.returnType = none) (hlk : meth.locks = false) (hml : c.maxLocals = 4) (hown : s.vm.findClass RX1 = some m.cls) (hnm : meth.name = "noteReached") (hts : ∀ w ∈ xt, w.before args s = true) (G : Nat → Nat) (a0 : Nat) (x1 : Int32) (k2 : xH → Int32 → Option xH) (hk2 : ∀ (g' : xH) (x1' : Int32) (H : Heap) (locs : List Loc) (ls : Array Slot), k2 g' x1' = some h' → xR D G g' s H → va_S (xA G) s.heap H locs → lv_has ls 4 [(0, va_rf (some a0)), (1, .int x1')] → W p l e rm_X1_noteReached s m args below meth c H locs 0 0 (MQ below (xQ D G none h') args s rm_X1_noteReached.cells rm_X1_noteReached.slots (xA G)) (F0 m 2 ls [])) : ∀ (n : Nat) (h : xH) (x2 : Int32) (H : Heap) (locs : List Loc) (ls : Array Slot), F_X1_noteReached_10 G a0 x1 k2 n h x2 = some h' → xR D G h s H → va_S (xA G) s.heap H locs → lv_has ls 4 [(0, va_rf (some a0)), (1, .int x1), (2, .int x2)] → W p l e rm_X1_noteReached s m args below meth c H locs 0 0 (MQ below (xQ D G none h') args s rm_X1_noteReached.cells rm_X1_noteReached.slots (xA G)) (F0 m 10 ls []) := by
  intro n
  induction n with
  | zero =>
    intro h x2 H locs ls hF
    rw [F_X1_noteReached_10.eq_1] at hF
    cases hF
  | succ n ih =>
    intro h x2 H locs ls hF hR hS hl
    rw [F_X1_noteReached_10.eq_2] at hF
    refine lv_iload_n hx hb dX1_noteReached_10 rfl (lv_at hl 2 rfl) ?_
    refine lv_iload_n hx hb dX1_noteReached_11 rfl (lv_at hl 1 rfl) ?_
    refine lv_icmp_gt (tgt := 67) hx hb dX1_noteReached_12 (by decide) (fun c2 => ?_) (fun c2 => ?_)
    · replace hF := xift c2 hF
      obtain ⟨v3, ev3⟩ : ∃ z : Int32, z = (x1 + 1) := ⟨_, rfl⟩
      replace hF := xlet ev3 hF
      refine lv_iinc (v := v3) (lv' := [(1, .int v3), (0, va_rf (some a0)), (2, .int x2)]) hx hb dX1_noteReached_67 hl (k := 1) rfl (by rw [ev3]; rfl) (by decide) (by first | rfl | simp [xrf_cat]) (fun ls hl => ?_)
      refine lv_goto (tgt := 2) hx hb dX1_noteReached_70 (by decide) ?_
      exact hk2 h v3 _ _ _ hF hR hS (lv_sub hl [1, 0] rfl)
    · replace hF := xiff c2 hF
      refine lv_iload_n hx hb dX1_noteReached_15 rfl (lv_at hl 1 rfl) ?_
      refine lv_iload_n hx hb dX1_noteReached_16 rfl (lv_at hl 2 rfl) ?_
      replace hF := xbind hF; obtain ⟨v4, ev4, hF⟩ := hF
      refine x_callS (As := [.int x1, .int x2]) (rest := []) (v := (some (.int v4))) (k := 2) hx hb hml hown hts hR hS (t_X1_pairOf l D G h x1 x2 v4 ev4) f_X1_pairOf mm_697 mm_698 rfl hl.1 rfl (by first | exact Nat.le_of_ble_eq_true rfl | simp [xrf_cat, xcI, xcJ, xcA]) dX1_noteReached_17 (by decide) (by decide) rfl (fun H locs hR hS => ?_)
      refine lv_istore_n (lv' := [(3, .int v4), (0, va_rf (some a0)), (1, .int x1), (2, .int x2)]) hx hb dX1_noteReached_20 rfl hl (by decide) (by first | rfl | simp [xrf_cat]) (fun ls hl => ?_)
      refine lv_iload_n hx hb dX1_noteReached_21 rfl (lv_at hl 0 rfl) ?_
      refine lv_if_lt (tgt := 61) hx hb dX1_noteReached_22 (by decide) (fun c5 => ?_) (fun c5 => ?_)
      · replace hF := xift c5 hF
        obtain ⟨v6, ev6⟩ : ∃ z : Int32, z = (x2 + 1) := ⟨_, rfl⟩
        replace hF := xlet ev6 hF
        refine lv_iinc (v := v6) (lv' := [(2, .int v6), (3, .int v4), (0, va_rf (some a0)), (1, .int x1)]) hx hb dX1_noteReached_61 hl (k := 3) rfl (by rw [ev6]; rfl) (by decide) (by first | rfl | simp [xrf_cat]) (fun ls hl => ?_)
        refine lv_goto (tgt := 10) hx hb dX1_noteReached_64 (by decide) ?_
        exact ih h v6 _ _ _ hF hR hS (lv_sub hl [2, 3, 0] rfl)
      · replace hF := xiff c5 hF
        refine lv_iload_n hx hb dX1_noteReached_25 rfl (lv_at hl 0 rfl) ?_
        refine lv_bipush (v := 78) hx hb dX1_noteReached_26 (by decide) ?_
        refine lv_icmp_ge (tgt := 61) hx hb dX1_noteReached_28 (by decide) (fun c7 => ?_) (fun c7 => ?_)
        · replace hF := xift c7 hF
          obtain ⟨v8, ev8⟩ : ∃ z : Int32, z = (x2 + 1) := ⟨_, rfl⟩
          replace hF := xlet ev8 hF
          refine lv_iinc (v := v8) (lv' := [(2, .int v8), (3, .int v4), (0, va_rf (some a0)), (1, .int x1)]) hx hb dX1_noteReached_61 hl (k := 3) rfl (by rw [ev8]; rfl) (by decide) (by first | rfl | simp [xrf_cat]) (fun ls hl => ?_)
          refine lv_goto (tgt := 10) hx hb dX1_noteReached_64 (by decide) ?_
          exact ih h v8 _ _ _ hF hR hS (lv_sub hl [2, 3, 0] rfl)
        · replace hF := xiff c7 hF
          refine x_aload_n (o := (some a0)) hx hb dX1_noteReached_31 rfl (lv_at hl 1 rfl) ?_
          replace hF := xbind hF; obtain ⟨w9, ew9, hF⟩ := hF
          refine x_getR (o := (some a0)) (ci := 2) (C := RX1) (T := TX1) (N := 5) hx hb hts iw_X1 hown hR rfl 1 (by decide) mm_172 (Or.inl rfl) ew9 dX1_noteReached_32 ?_
          refine lv_iload_n hx hb dX1_noteReached_35 rfl (lv_at hl 0 rfl) ?_
          refine x_aload_n (o := (some a0)) hx hb dX1_noteReached_36 rfl (lv_at hl 1 rfl) ?_
          replace hF := xbind hF; obtain ⟨w10, ew10, hF⟩ := hF
          refine x_getR (o := (some a0)) (ci := 2) (C := RX1) (T := TX1) (N := 5) hx hb hts iw_X1 hown hR rfl 1 (by decide) mm_172 (Or.inl rfl) ew10 dX1_noteReached_37 ?_
          refine lv_iload_n hx hb dX1_noteReached_40 rfl (lv_at hl 0 rfl) ?_
          replace hF := xbind hF; obtain ⟨v11, ev11, hF⟩ := hF
          refine x_ild (o := w10) hx hb hR ev11 dX1_noteReached_41 ?_
          refine x_aload_n (o := (some a0)) hx hb dX1_noteReached_42 rfl (lv_at hl 1 rfl) ?_
          replace hF := xbind hF; obtain ⟨w12, ew12, hF⟩ := hF
          refine x_getR (o := (some a0)) (ci := 2) (C := RX1) (T := TX1) (N := 5) hx hb hts iw_X1 hown hR rfl 0 (by decide) mm_171 (Or.inl rfl) ew12 dX1_noteReached_43 ?_
          refine lv_iload_n hx hb dX1_noteReached_46 rfl (lv_at hl 2 rfl) ?_
          replace hF := xbind hF; obtain ⟨v13, ev13, hF⟩ := hF
          refine x_ild (o := w12) hx hb hR ev13 dX1_noteReached_47 ?_
          refine x_aload_n (o := (some a0)) hx hb dX1_noteReached_48 rfl (lv_at hl 1 rfl) ?_
          replace hF := xbind hF; obtain ⟨w14, ew14, hF⟩ := hF
          refine x_getR (o := (some a0)) (ci := 2) (C := RX1) (T := TX1) (N := 5) hx hb hts iw_X1 hown hR rfl 0 (by decide) mm_171 (Or.inl rfl) ew14 dX1_noteReached_49 ?_
          refine lv_iload_n hx hb dX1_noteReached_52 rfl (lv_at hl 3 rfl) ?_
          replace hF := xbind hF; obtain ⟨v15, ev15, hF⟩ := hF
          refine x_ild (o := w14) hx hb hR ev15 dX1_noteReached_53 ?_
          refine x_min hx hb (hml.trans hl.1.symm) hown hts mm_675 mm_313 mm_65 mm_314 (by decide) (by first | exact Nat.le_of_ble_eq_true rfl | simp [xrf_cat, xcI, xcJ, xcA]) (by decide) (by decide) dX1_noteReached_54 ?_
          refine x_max hx hb (hml.trans hl.1.symm) hown hts mm_700 mm_280 mm_65 mm_281 (by decide) (by first | exact Nat.le_of_ble_eq_true rfl | simp [xrf_cat, xcI, xcJ, xcA]) (by decide) (by decide) dX1_noteReached_57 ?_
          replace hF := xbind hF; obtain ⟨h16, eh16, hF⟩ := hF
          refine x_ist (o := w9) hx hb hR hS eh16 dX1_noteReached_60 (fun H locs hR hS => ?_)
          obtain ⟨v17, ev17⟩ : ∃ z : Int32, z = (x2 + 1) := ⟨_, rfl⟩
          replace hF := xlet ev17 hF
          refine lv_iinc (v := v17) (lv' := [(2, .int v17), (3, .int v4), (0, va_rf (some a0)), (1, .int x1)]) hx hb dX1_noteReached_61 hl (k := 3) rfl (by rw [ev17]; rfl) (by decide) (by first | rfl | simp [xrf_cat]) (fun ls hl => ?_)
          refine lv_goto (tgt := 10) hx hb dX1_noteReached_64 (by decide) ?_
          exact ih h16 v17 _ _ _ hF hR hS (lv_sub hl [2, 3, 0] rfl)
def F_X1_noteReached_2 (G : Nat → Nat) (a0 : Nat) : Nat → xH → Int32 → Option xH
  | 0, _, _ => none
  | n + 1, h, x1 =>
    if 12 < x1 then
      some h
    else
    F_X1_noteReached_10 G a0 x1 (fun h' x1' => F_X1_noteReached_2 G a0 n h' x1') xN h 1
set_option maxHeartbeats 4000000 in
set_option maxRecDepth 100000 in
theorem tl_X1_noteReached_2 {p : Program} {l : Launch} {e : Env} {s : State} {m : MethodId} {args : Array Value} {below : List Frame} {meth : Method} {c : Code} {D : va_G} {h' : xH} (hx : p.tables.exec = Jvm.exec) (hb : c.code = cX1_noteReached) (hr : meth.sig.returnType = none) (hlk : meth.locks = false) (hml : c.maxLocals = 4) (hown : s.vm.findClass RX1 = some m.cls) (hnm : meth.name = "noteReached") (hts : ∀ w ∈ xt, w.before args s = true) (G : Nat → Nat) (a0 : Nat) : ∀ (n : Nat) (h : xH) (x1 : Int32) (H : Heap) (locs : List Loc) (ls : Array Slot), F_X1_noteReached_2 G a0 n h x1 = some h' → xR D G h s H → va_S (xA G) s.heap H locs → lv_has ls 4 [(0, va_rf (some a0)), (1, .int x1)] → W p l e rm_X1_noteReached s m args below meth c H locs 0 0 (MQ below (xQ D G none h') args s rm_X1_noteReached.cells rm_X1_noteReached.slots (xA G)) (F0 m 2 ls []) := by
  intro n
  induction n with
  | zero =>
    intro h x1 H locs ls hF
    rw [F_X1_noteReached_2.eq_1] at hF
    cases hF
  | succ n ih =>
    intro h x1 H locs ls hF hR hS hl
    rw [F_X1_noteReached_2.eq_2] at hF
    refine lv_iload_n hx hb dX1_noteReached_2 rfl (lv_at hl 1 rfl) ?_
    refine lv_bipush (v := 12) hx hb dX1_noteReached_3 (by decide) ?_
    refine lv_icmp_gt (tgt := 73) hx hb dX1_noteReached_5 (by decide) (fun c1 => ?_) (fun c1 => ?_)
    · replace hF := xift c1 hF
      cases hF
      exact x_vret hx hb hr hlk hR hS (by decide) (by decide) dX1_noteReached_73
    · replace hF := xiff c1 hF
      refine lv_iconst (v := 1) hx hb dX1_noteReached_8 (by decide) ?_
      refine lv_istore_n (lv' := [(2, .int 1), (0, va_rf (some a0)), (1, .int x1)]) hx hb dX1_noteReached_9 rfl hl (by decide) (by first | rfl | simp [xrf_cat]) (fun ls hl => ?_)
      refine W.widen (k := 0) (n := 0) (by decide) (by decide) ?_
      exact tl_X1_noteReached_10 hx hb hr hlk hml hown hnm hts G a0 x1 (fun h' x1' => F_X1_noteReached_2 G a0 n h' x1') (fun h' x1' H locs ls => ih h' x1' H locs ls) _ h 1 _ _ _ hF hR hS (lv_sub hl [1, 2, 0] rfl)
def F_X1_noteReached (G : Nat → Nat) (h : xH) (a0 : Nat) : Option xH :=
  F_X1_noteReached_2 G a0 xN h 1
set_option maxHeartbeats 4000000 in
set_option maxRecDepth 100000 in
theorem t_X1_noteReached (l : Launch) (D : va_G) (G : Nat → Nat) (h : xH) (a0 : Nat) (h' : xH) (hF : F_X1_noteReached G h a0 = some h') : xC l yX1_noteReached cX1_noteReached 4 none rm_X1_noteReached D G h [.ref a0] none h' := by
  refine xC_of (by decide) (by first | decide | exact Nat.le_of_ble_eq_true rfl) ?_
  intro p e s m args below meth c ls hx hb hr hlk hml hown hnm hts hR hS hl
  have hl : lv_has ls 4 [(0, va_rf (some a0))] := hl
  unfold F_X1_noteReached at hF
  refine lv_iconst (v := 1) hx hb dX1_noteReached_0 (by decide) ?_
  refine lv_istore_n (lv' := [(1, .int 1), (0, va_rf (some a0))]) hx hb dX1_noteReached_1 rfl hl (by decide) (by first | rfl | simp [xrf_cat]) (fun ls hl => ?_)
  refine W.widen (k := 0) (n := 0) (by decide) (by decide) ?_
  exact tl_X1_noteReached_2 hx hb hr hlk hml hown hnm hts G a0 _ h 1 _ _ _ hF hR hS (lv_sub hl [1, 0] rfl)
def rm_X1_noteRings : Room := { frames := 1, cells := 0, slots := 0, locals := 23 }
theorem f_X1_noteRings : xM yX1_noteRings cX1_noteRings 4 none 0 := ⟨mm_704, mm_61, by decide +kernel, by decide +kernel⟩
theorem dX1_noteRings_0 : decode cX1_noteRings 0 = .ok (.iconst 1, 1) := by decide +kernel
theorem dX1_noteRings_1 : decode cX1_noteRings 1 = .ok (.istore_n 1, 1) := by decide +kernel
theorem dX1_noteRings_2 : decode cX1_noteRings 2 = .ok (.iload_n 1, 1) := by decide +kernel
theorem dX1_noteRings_3 : decode cX1_noteRings 3 = .ok (.bipush 12, 2) := by decide +kernel
theorem dX1_noteRings_5 : decode cX1_noteRings 5 = .ok (.if_icmp .gt 70, 3) := by decide +kernel
theorem dX1_noteRings_8 : decode cX1_noteRings 8 = .ok (.iconst 1, 1) := by decide +kernel
theorem dX1_noteRings_9 : decode cX1_noteRings 9 = .ok (.istore_n 2, 1) := by decide +kernel
theorem dX1_noteRings_10 : decode cX1_noteRings 10 = .ok (.iload_n 2, 1) := by decide +kernel
theorem dX1_noteRings_11 : decode cX1_noteRings 11 = .ok (.iload_n 1, 1) := by decide +kernel
theorem dX1_noteRings_12 : decode cX1_noteRings 12 = .ok (.if_icmp .gt 57, 3) := by decide +kernel
theorem dX1_noteRings_15 : decode cX1_noteRings 15 = .ok (.iload_n 1, 1) := by decide +kernel
theorem dX1_noteRings_16 : decode cX1_noteRings 16 = .ok (.iload_n 2, 1) := by decide +kernel
theorem dX1_noteRings_17 : decode cX1_noteRings 17 = .ok (.invokestatic 86, 3) := by decide +kernel
theorem dX1_noteRings_20 : decode cX1_noteRings 20 = .ok (.bipush 21, 2) := by decide +kernel
theorem dX1_noteRings_22 : decode cX1_noteRings 22 = .ok (.imul, 1) := by decide +kernel
theorem dX1_noteRings_23 : decode cX1_noteRings 23 = .ok (.aload_n 0, 1) := by decide +kernel
theorem dX1_noteRings_24 : decode cX1_noteRings 24 = .ok (.getfield 11, 3) := by decide +kernel
theorem dX1_noteRings_27 : decode cX1_noteRings 27 = .ok (.iload_n 1, 1) := by decide +kernel
theorem dX1_noteRings_28 : decode cX1_noteRings 28 = .ok (.iaload, 1) := by decide +kernel
theorem dX1_noteRings_29 : decode cX1_noteRings 29 = .ok (.aload_n 0, 1) := by decide +kernel
theorem dX1_noteRings_30 : decode cX1_noteRings 30 = .ok (.getfield 11, 3) := by decide +kernel
theorem dX1_noteRings_33 : decode cX1_noteRings 33 = .ok (.iload_n 2, 1) := by decide +kernel
theorem dX1_noteRings_34 : decode cX1_noteRings 34 = .ok (.iaload, 1) := by decide +kernel
theorem dX1_noteRings_35 : decode cX1_noteRings 35 = .ok (.invokestatic 57, 3) := by decide +kernel
theorem dX1_noteRings_38 : decode cX1_noteRings 38 = .ok (.iadd, 1) := by decide +kernel
theorem dX1_noteRings_39 : decode cX1_noteRings 39 = .ok (.istore_n 3, 1) := by decide +kernel
theorem dX1_noteRings_40 : decode cX1_noteRings 40 = .ok (.iload_n 3, 1) := by decide +kernel
theorem dX1_noteRings_41 : decode cX1_noteRings 41 = .ok (.ifCond .lt 22, 3) := by decide +kernel
theorem dX1_noteRings_44 : decode cX1_noteRings 44 = .ok (.iload_n 3, 1) := by decide +kernel
theorem dX1_noteRings_45 : decode cX1_noteRings 45 = .ok (.aload_n 0, 1) := by decide +kernel
theorem dX1_noteRings_46 : decode cX1_noteRings 46 = .ok (.getfield 18, 3) := by decide +kernel
theorem dX1_noteRings_49 : decode cX1_noteRings 49 = .ok (.arraylength, 1) := by decide +kernel
theorem dX1_noteRings_50 : decode cX1_noteRings 50 = .ok (.if_icmp .ge 13, 3) := by decide +kernel
theorem dX1_noteRings_53 : decode cX1_noteRings 53 = .ok (.aload_n 0, 1) := by decide +kernel
theorem dX1_noteRings_54 : decode cX1_noteRings 54 = .ok (.getfield 18, 3) := by decide +kernel
theorem dX1_noteRings_57 : decode cX1_noteRings 57 = .ok (.iload_n 3, 1) := by decide +kernel
theorem dX1_noteRings_58 : decode cX1_noteRings 58 = .ok (.dup2, 1) := by decide +kernel
theorem dX1_noteRings_59 : decode cX1_noteRings 59 = .ok (.iaload, 1) := by decide +kernel
theorem dX1_noteRings_60 : decode cX1_noteRings 60 = .ok (.iconst 1, 1) := by decide +kernel
theorem dX1_noteRings_61 : decode cX1_noteRings 61 = .ok (.iadd, 1) := by decide +kernel
theorem dX1_noteRings_62 : decode cX1_noteRings 62 = .ok (.iastore, 1) := by decide +kernel
theorem dX1_noteRings_63 : decode cX1_noteRings 63 = .ok (.iinc 2 1, 3) := by decide +kernel
theorem dX1_noteRings_66 : decode cX1_noteRings 66 = .ok (.goto (-56), 3) := by decide +kernel
theorem dX1_noteRings_69 : decode cX1_noteRings 69 = .ok (.iinc 1 1, 3) := by decide +kernel
theorem dX1_noteRings_72 : decode cX1_noteRings 72 = .ok (.goto (-70), 3) := by decide +kernel
theorem dX1_noteRings_75 : decode cX1_noteRings 75 = .ok (.return_, 1) := by decide +kernel
def F_X1_noteRings_10 (G : Nat → Nat) (a0 : Nat) (x1 : Int32) (k2 : xH → Int32 → Option xH) : Nat → xH → Int32 → Option xH
  | 0, _, _ => none
  | n + 1, h, x2 =>
    if x1 < x2 then
      xl (x1 + 1) fun v3 =>
      k2 h v3
    else
    (F_X1_pairOf x1 x2).bind fun v4 =>
    (gR h (some a0) 2 0).bind fun w5 =>
    (ldI 2 G h w5 x1).bind fun v6 =>
    (gR h (some a0) 2 0).bind fun w7 =>
    (ldI 2 G h w7 x2).bind fun v8 =>
    xl ((v4 * 21) + (xmin v6 v8)) fun v9 =>
    if v9 < 0 then
      xl (x2 + 1) fun v11 =>
      F_X1_noteRings_10 G a0 x1 k2 n h v11
    else
    (gR h (some a0) 2 2).bind fun w12 =>
    (aln G h w12).bind fun v13 =>
    if v13 ≤ v9 then
      xl (x2 + 1) fun v15 =>
      F_X1_noteRings_10 G a0 x1 k2 n h v15
    else
    (gR h (some a0) 2 2).bind fun w16 =>
    (ldI 2 G h w16 v9).bind fun v17 =>
    (stI 2 G h w16 v9 (v17 + 1)).bind fun h18 =>
    xl (x2 + 1) fun v19 =>
    F_X1_noteRings_10 G a0 x1 k2 n h18 v19
set_option maxHeartbeats 4000000 in
set_option maxRecDepth 100000 in
theorem tl_X1_noteRings_10 {p : Program} {l : Launch} {e : Env} {s : State} {m : MethodId} {args : Array Value} {below : List Frame} {meth : Method} {c : Code} {D : va_G} {h' : xH} (hx : p.tables.exec = Jvm.exec) (hb : c.code = cX1_noteRings) (hr : meth.sig.returnType = none) (hlk : meth.locks = false) (hml : c.maxLocals = 4) (hown : s.vm.findClass RX1 = some m.cls) (hnm : meth.name = "noteRings") (hts : ∀ w ∈ xt, w.before args s = true) (G : Nat → Nat) (a0 : Nat) (x1 : Int32) (k2 : xH → Int32 → Option xH) (hk2 : ∀ (g' : xH) (x1' : Int32) (H : Heap) (locs : List Loc) (ls : Array Slot), k2 g' x1' = some h' → xR D G g' s H → va_S (xA G) s.heap H locs → lv_has ls 4 [(0, va_rf (some a0)), (1, .int x1')] → W p l e rm_X1_noteRings s m args below meth c H locs 0 0 (MQ below (xQ D G none h') args s rm_X1_noteRings.cells rm_X1_noteRings.slots (xA G)) (F0 m 2 ls [])) : ∀ (n : Nat) (h : xH) (x2 : Int32) (H : Heap) (locs : List Loc) (ls : Array Slot), F_X1_noteRings_10 G a0 x1 k2 n h x2 = some h' → xR D G h s H → va_S (xA G) s.heap H locs → lv_has ls 4 [(0, va_rf (some a0)), (1, .int x1), (2, .int x2)] → W p l e rm_X1_noteRings s m args below meth c H locs 0 0 (MQ below (xQ D G none h') args s rm_X1_noteRings.cells rm_X1_noteRings.slots (xA G)) (F0 m 10 ls []) := by
  intro n
  induction n with
  | zero =>
    intro h x2 H locs ls hF
    rw [F_X1_noteRings_10.eq_1] at hF
    cases hF
  | succ n ih =>
    intro h x2 H locs ls hF hR hS hl
    rw [F_X1_noteRings_10.eq_2] at hF
    refine lv_iload_n hx hb dX1_noteRings_10 rfl (lv_at hl 2 rfl) ?_
    refine lv_iload_n hx hb dX1_noteRings_11 rfl (lv_at hl 1 rfl) ?_
    refine lv_icmp_gt (tgt := 69) hx hb dX1_noteRings_12 (by decide) (fun c2 => ?_) (fun c2 => ?_)
    · replace hF := xift c2 hF
      obtain ⟨v3, ev3⟩ : ∃ z : Int32, z = (x1 + 1) := ⟨_, rfl⟩
      replace hF := xlet ev3 hF
      refine lv_iinc (v := v3) (lv' := [(1, .int v3), (0, va_rf (some a0)), (2, .int x2)]) hx hb dX1_noteRings_69 hl (k := 1) rfl (by rw [ev3]; rfl) (by decide) (by first | rfl | simp [xrf_cat]) (fun ls hl => ?_)
      refine lv_goto (tgt := 2) hx hb dX1_noteRings_72 (by decide) ?_
      exact hk2 h v3 _ _ _ hF hR hS (lv_sub hl [1, 0] rfl)
    · replace hF := xiff c2 hF
      refine lv_iload_n hx hb dX1_noteRings_15 rfl (lv_at hl 1 rfl) ?_
      refine lv_iload_n hx hb dX1_noteRings_16 rfl (lv_at hl 2 rfl) ?_
      replace hF := xbind hF; obtain ⟨v4, ev4, hF⟩ := hF
      refine x_callS (As := [.int x1, .int x2]) (rest := []) (v := (some (.int v4))) (k := 2) hx hb hml hown hts hR hS (t_X1_pairOf l D G h x1 x2 v4 ev4) f_X1_pairOf mm_697 mm_698 rfl hl.1 rfl (by first | exact Nat.le_of_ble_eq_true rfl | simp [xrf_cat, xcI, xcJ, xcA]) dX1_noteRings_17 (by decide) (by decide) rfl (fun H locs hR hS => ?_)
      refine lv_bipush (v := 21) hx hb dX1_noteRings_20 (by decide) ?_
      refine lv_imul hx hb dX1_noteRings_22 ?_
      refine x_aload_n (o := (some a0)) hx hb dX1_noteRings_23 rfl (lv_at hl 0 rfl) ?_
      replace hF := xbind hF; obtain ⟨w5, ew5, hF⟩ := hF
      refine x_getR (o := (some a0)) (ci := 2) (C := RX1) (T := TX1) (N := 5) hx hb hts iw_X1 hown hR rfl 0 (by decide) mm_171 (Or.inl rfl) ew5 dX1_noteRings_24 ?_
      refine lv_iload_n hx hb dX1_noteRings_27 rfl (lv_at hl 1 rfl) ?_
      replace hF := xbind hF; obtain ⟨v6, ev6, hF⟩ := hF
      refine x_ild (o := w5) hx hb hR ev6 dX1_noteRings_28 ?_
      refine x_aload_n (o := (some a0)) hx hb dX1_noteRings_29 rfl (lv_at hl 0 rfl) ?_
      replace hF := xbind hF; obtain ⟨w7, ew7, hF⟩ := hF
      refine x_getR (o := (some a0)) (ci := 2) (C := RX1) (T := TX1) (N := 5) hx hb hts iw_X1 hown hR rfl 0 (by decide) mm_171 (Or.inl rfl) ew7 dX1_noteRings_30 ?_
      refine lv_iload_n hx hb dX1_noteRings_33 rfl (lv_at hl 2 rfl) ?_
      replace hF := xbind hF; obtain ⟨v8, ev8, hF⟩ := hF
      refine x_ild (o := w7) hx hb hR ev8 dX1_noteRings_34 ?_
      refine x_min hx hb (hml.trans hl.1.symm) hown hts mm_675 mm_313 mm_65 mm_314 (by decide) (by first | exact Nat.le_of_ble_eq_true rfl | simp [xrf_cat, xcI, xcJ, xcA]) (by decide) (by decide) dX1_noteRings_35 ?_
      refine lv_iadd hx hb dX1_noteRings_38 ?_
      refine lv_topi (fun v9 ev9 => ?_)
      replace hF := xlet ev9 hF
      refine lv_istore_n (lv' := [(3, .int v9), (0, va_rf (some a0)), (1, .int x1), (2, .int x2)]) hx hb dX1_noteRings_39 rfl hl (by decide) (by first | rfl | simp [xrf_cat]) (fun ls hl => ?_)
      refine lv_iload_n hx hb dX1_noteRings_40 rfl (lv_at hl 0 rfl) ?_
      refine lv_if_lt (tgt := 63) hx hb dX1_noteRings_41 (by decide) (fun c10 => ?_) (fun c10 => ?_)
      · replace hF := xift c10 hF
        obtain ⟨v11, ev11⟩ : ∃ z : Int32, z = (x2 + 1) := ⟨_, rfl⟩
        replace hF := xlet ev11 hF
        refine lv_iinc (v := v11) (lv' := [(2, .int v11), (3, .int v9), (0, va_rf (some a0)), (1, .int x1)]) hx hb dX1_noteRings_63 hl (k := 3) rfl (by rw [ev11]; rfl) (by decide) (by first | rfl | simp [xrf_cat]) (fun ls hl => ?_)
        refine lv_goto (tgt := 10) hx hb dX1_noteRings_66 (by decide) ?_
        exact ih h v11 _ _ _ hF hR hS (lv_sub hl [2, 3, 0] rfl)
      · replace hF := xiff c10 hF
        refine lv_iload_n hx hb dX1_noteRings_44 rfl (lv_at hl 0 rfl) ?_
        refine x_aload_n (o := (some a0)) hx hb dX1_noteRings_45 rfl (lv_at hl 1 rfl) ?_
        replace hF := xbind hF; obtain ⟨w12, ew12, hF⟩ := hF
        refine x_getR (o := (some a0)) (ci := 2) (C := RX1) (T := TX1) (N := 5) hx hb hts iw_X1 hown hR rfl 2 (by decide) mm_173 (Or.inl rfl) ew12 dX1_noteRings_46 ?_
        replace hF := xbind hF; obtain ⟨v13, ev13, hF⟩ := hF
        refine x_aln (o := w12) hx hb hR ev13 dX1_noteRings_49 ?_
        refine lv_icmp_ge (tgt := 63) hx hb dX1_noteRings_50 (by decide) (fun c14 => ?_) (fun c14 => ?_)
        · replace hF := xift c14 hF
          obtain ⟨v15, ev15⟩ : ∃ z : Int32, z = (x2 + 1) := ⟨_, rfl⟩
          replace hF := xlet ev15 hF
          refine lv_iinc (v := v15) (lv' := [(2, .int v15), (3, .int v9), (0, va_rf (some a0)), (1, .int x1)]) hx hb dX1_noteRings_63 hl (k := 3) rfl (by rw [ev15]; rfl) (by decide) (by first | rfl | simp [xrf_cat]) (fun ls hl => ?_)
          refine lv_goto (tgt := 10) hx hb dX1_noteRings_66 (by decide) ?_
          exact ih h v15 _ _ _ hF hR hS (lv_sub hl [2, 3, 0] rfl)
        · replace hF := xiff c14 hF
          refine x_aload_n (o := (some a0)) hx hb dX1_noteRings_53 rfl (lv_at hl 1 rfl) ?_
          replace hF := xbind hF; obtain ⟨w16, ew16, hF⟩ := hF
          refine x_getR (o := (some a0)) (ci := 2) (C := RX1) (T := TX1) (N := 5) hx hb hts iw_X1 hown hR rfl 2 (by decide) mm_173 (Or.inl rfl) ew16 dX1_noteRings_54 ?_
          refine lv_iload_n hx hb dX1_noteRings_57 rfl (lv_at hl 0 rfl) ?_
          refine lv_dup2_11 hx hb dX1_noteRings_58 rfl xrf_cat ?_
          replace hF := xbind hF; obtain ⟨v17, ev17, hF⟩ := hF
          refine x_ild (o := w16) hx hb hR ev17 dX1_noteRings_59 ?_
          refine lv_iconst (v := 1) hx hb dX1_noteRings_60 (by decide) ?_
          refine lv_iadd hx hb dX1_noteRings_61 ?_
          replace hF := xbind hF; obtain ⟨h18, eh18, hF⟩ := hF
          refine x_ist (o := w16) hx hb hR hS eh18 dX1_noteRings_62 (fun H locs hR hS => ?_)
          obtain ⟨v19, ev19⟩ : ∃ z : Int32, z = (x2 + 1) := ⟨_, rfl⟩
          replace hF := xlet ev19 hF
          refine lv_iinc (v := v19) (lv' := [(2, .int v19), (3, .int v9), (0, va_rf (some a0)), (1, .int x1)]) hx hb dX1_noteRings_63 hl (k := 3) rfl (by rw [ev19]; rfl) (by decide) (by first | rfl | simp [xrf_cat]) (fun ls hl => ?_)
          refine lv_goto (tgt := 10) hx hb dX1_noteRings_66 (by decide) ?_
          exact ih h18 v19 _ _ _ hF hR hS (lv_sub hl [2, 3, 0] rfl)
def F_X1_noteRings_2 (G : Nat → Nat) (a0 : Nat) : Nat → xH → Int32 → Option xH
  | 0, _, _ => none
  | n + 1, h, x1 =>
    if 12 < x1 then
      some h
    else
    F_X1_noteRings_10 G a0 x1 (fun h' x1' => F_X1_noteRings_2 G a0 n h' x1') xN h 1
set_option maxHeartbeats 4000000 in
set_option maxRecDepth 100000 in
theorem tl_X1_noteRings_2 {p : Program} {l : Launch} {e : Env} {s : State} {m : MethodId} {args : Array Value} {below : List Frame} {meth : Method} {c : Code} {D : va_G} {h' : xH} (hx : p.tables.exec = Jvm.exec) (hb : c.code = cX1_noteRings) (hr : meth.sig.returnType = none) (hlk : meth.locks = false) (hml : c.maxLocals = 4) (hown : s.vm.findClass RX1 = some m.cls) (hnm : meth.name = "noteRings") (hts : ∀ w ∈ xt, w.before args s = true) (G : Nat → Nat) (a0 : Nat) : ∀ (n : Nat) (h : xH) (x1 : Int32) (H : Heap) (locs : List Loc) (ls : Array Slot), F_X1_noteRings_2 G a0 n h x1 = some h' → xR D G h s H → va_S (xA G) s.heap H locs → lv_has ls 4 [(0, va_rf (some a0)), (1, .int x1)] → W p l e rm_X1_noteRings s m args below meth c H locs 0 0 (MQ below (xQ D G none h') args s rm_X1_noteRings.cells rm_X1_noteRings.slots (xA G)) (F0 m 2 ls []) := by
  intro n
  induction n with
  | zero =>
    intro h x1 H locs ls hF
    rw [F_X1_noteRings_2.eq_1] at hF
    cases hF
  | succ n ih =>
    intro h x1 H locs ls hF hR hS hl
    rw [F_X1_noteRings_2.eq_2] at hF
    refine lv_iload_n hx hb dX1_noteRings_2 rfl (lv_at hl 1 rfl) ?_
    refine lv_bipush (v := 12) hx hb dX1_noteRings_3 (by decide) ?_
    refine lv_icmp_gt (tgt := 75) hx hb dX1_noteRings_5 (by decide) (fun c1 => ?_) (fun c1 => ?_)
    · replace hF := xift c1 hF
      cases hF
      exact x_vret hx hb hr hlk hR hS (by decide) (by decide) dX1_noteRings_75
    · replace hF := xiff c1 hF
      refine lv_iconst (v := 1) hx hb dX1_noteRings_8 (by decide) ?_
      refine lv_istore_n (lv' := [(2, .int 1), (0, va_rf (some a0)), (1, .int x1)]) hx hb dX1_noteRings_9 rfl hl (by decide) (by first | rfl | simp [xrf_cat]) (fun ls hl => ?_)
      refine W.widen (k := 0) (n := 0) (by decide) (by decide) ?_
      exact tl_X1_noteRings_10 hx hb hr hlk hml hown hnm hts G a0 x1 (fun h' x1' => F_X1_noteRings_2 G a0 n h' x1') (fun h' x1' H locs ls => ih h' x1' H locs ls) _ h 1 _ _ _ hF hR hS (lv_sub hl [1, 2, 0] rfl)
def F_X1_noteRings (G : Nat → Nat) (h : xH) (a0 : Nat) : Option xH :=
  F_X1_noteRings_2 G a0 xN h 1
set_option maxHeartbeats 4000000 in
set_option maxRecDepth 100000 in
theorem t_X1_noteRings (l : Launch) (D : va_G) (G : Nat → Nat) (h : xH) (a0 : Nat) (h' : xH) (hF : F_X1_noteRings G h a0 = some h') : xC l yX1_noteRings cX1_noteRings 4 none rm_X1_noteRings D G h [.ref a0] none h' := by
  refine xC_of (by decide) (by first | decide | exact Nat.le_of_ble_eq_true rfl) ?_
  intro p e s m args below meth c ls hx hb hr hlk hml hown hnm hts hR hS hl
  have hl : lv_has ls 4 [(0, va_rf (some a0))] := hl
  unfold F_X1_noteRings at hF
  refine lv_iconst (v := 1) hx hb dX1_noteRings_0 (by decide) ?_
  refine lv_istore_n (lv' := [(1, .int 1), (0, va_rf (some a0))]) hx hb dX1_noteRings_1 rfl hl (by decide) (by first | rfl | simp [xrf_cat]) (fun ls hl => ?_)
  refine W.widen (k := 0) (n := 0) (by decide) (by decide) ?_
  exact tl_X1_noteRings_2 hx hb hr hlk hml hown hnm hts G a0 _ h 1 _ _ _ hF hR hS (lv_sub hl [1, 0] rfl)
def rm_X1_chooseRate : Room := { frames := 0, cells := 0, slots := 0, locals := 0 }
theorem f_X1_chooseRate : xM yX1_chooseRate cX1_chooseRate 4 none 1 := ⟨mm_712, mm_61, by decide +kernel, by decide +kernel⟩
theorem dX1_chooseRate_0 : decode cX1_chooseRate 0 = .ok (.aload_n 0, 1) := by decide +kernel
theorem dX1_chooseRate_1 : decode cX1_chooseRate 1 = .ok (.iconst 0, 1) := by decide +kernel
theorem dX1_chooseRate_2 : decode cX1_chooseRate 2 = .ok (.putfield 96, 3) := by decide +kernel
theorem dX1_chooseRate_5 : decode cX1_chooseRate 5 = .ok (.aload_n 0, 1) := by decide +kernel
theorem dX1_chooseRate_6 : decode cX1_chooseRate 6 = .ok (.sipush 602, 3) := by decide +kernel
theorem dX1_chooseRate_9 : decode cX1_chooseRate 9 = .ok (.putfield 99, 3) := by decide +kernel
theorem dX1_chooseRate_12 : decode cX1_chooseRate 12 = .ok (.iload_n 1, 1) := by decide +kernel
theorem dX1_chooseRate_13 : decode cX1_chooseRate 13 = .ok (.ifCond .lt 9, 3) := by decide +kernel
theorem dX1_chooseRate_16 : decode cX1_chooseRate 16 = .ok (.iload_n 1, 1) := by decide +kernel
theorem dX1_chooseRate_17 : decode cX1_chooseRate 17 = .ok (.bipush 78, 2) := by decide +kernel
theorem dX1_chooseRate_19 : decode cX1_chooseRate 19 = .ok (.if_icmp .lt 4, 3) := by decide +kernel
theorem dX1_chooseRate_22 : decode cX1_chooseRate 22 = .ok (.return_, 1) := by decide +kernel
theorem dX1_chooseRate_23 : decode cX1_chooseRate 23 = .ok (.iconst 0, 1) := by decide +kernel
theorem dX1_chooseRate_24 : decode cX1_chooseRate 24 = .ok (.istore_n 2, 1) := by decide +kernel
theorem dX1_chooseRate_25 : decode cX1_chooseRate 25 = .ok (.bipush 20, 2) := by decide +kernel
theorem dX1_chooseRate_27 : decode cX1_chooseRate 27 = .ok (.istore_n 3, 1) := by decide +kernel
theorem dX1_chooseRate_28 : decode cX1_chooseRate 28 = .ok (.iload_n 3, 1) := by decide +kernel
theorem dX1_chooseRate_29 : decode cX1_chooseRate 29 = .ok (.ifCond .le 51, 3) := by decide +kernel
theorem dX1_chooseRate_32 : decode cX1_chooseRate 32 = .ok (.iload_n 2, 1) := by decide +kernel
theorem dX1_chooseRate_33 : decode cX1_chooseRate 33 = .ok (.aload_n 0, 1) := by decide +kernel
theorem dX1_chooseRate_34 : decode cX1_chooseRate 34 = .ok (.getfield 18, 3) := by decide +kernel
theorem dX1_chooseRate_37 : decode cX1_chooseRate 37 = .ok (.iload_n 1, 1) := by decide +kernel
theorem dX1_chooseRate_38 : decode cX1_chooseRate 38 = .ok (.bipush 21, 2) := by decide +kernel
theorem dX1_chooseRate_40 : decode cX1_chooseRate 40 = .ok (.imul, 1) := by decide +kernel
theorem dX1_chooseRate_41 : decode cX1_chooseRate 41 = .ok (.iload_n 3, 1) := by decide +kernel
theorem dX1_chooseRate_42 : decode cX1_chooseRate 42 = .ok (.iadd, 1) := by decide +kernel
theorem dX1_chooseRate_43 : decode cX1_chooseRate 43 = .ok (.iaload, 1) := by decide +kernel
theorem dX1_chooseRate_44 : decode cX1_chooseRate 44 = .ok (.iadd, 1) := by decide +kernel
theorem dX1_chooseRate_45 : decode cX1_chooseRate 45 = .ok (.istore_n 2, 1) := by decide +kernel
theorem dX1_chooseRate_46 : decode cX1_chooseRate 46 = .ok (.iload_n 3, 1) := by decide +kernel
theorem dX1_chooseRate_47 : decode cX1_chooseRate 47 = .ok (.aload_n 0, 1) := by decide +kernel
theorem dX1_chooseRate_48 : decode cX1_chooseRate 48 = .ok (.getfield 15, 3) := by decide +kernel
theorem dX1_chooseRate_51 : decode cX1_chooseRate 51 = .ok (.iload_n 1, 1) := by decide +kernel
theorem dX1_chooseRate_52 : decode cX1_chooseRate 52 = .ok (.iaload, 1) := by decide +kernel
theorem dX1_chooseRate_53 : decode cX1_chooseRate 53 = .ok (.if_icmp .gt 21, 3) := by decide +kernel
theorem dX1_chooseRate_56 : decode cX1_chooseRate 56 = .ok (.iload_n 2, 1) := by decide +kernel
theorem dX1_chooseRate_57 : decode cX1_chooseRate 57 = .ok (.aload_n 0, 1) := by decide +kernel
theorem dX1_chooseRate_58 : decode cX1_chooseRate 58 = .ok (.getfield 99, 3) := by decide +kernel
theorem dX1_chooseRate_61 : decode cX1_chooseRate 61 = .ok (.if_icmp .gt 13, 3) := by decide +kernel
theorem dX1_chooseRate_64 : decode cX1_chooseRate 64 = .ok (.aload_n 0, 1) := by decide +kernel
theorem dX1_chooseRate_65 : decode cX1_chooseRate 65 = .ok (.iload_n 2, 1) := by decide +kernel
theorem dX1_chooseRate_66 : decode cX1_chooseRate 66 = .ok (.putfield 99, 3) := by decide +kernel
theorem dX1_chooseRate_69 : decode cX1_chooseRate 69 = .ok (.aload_n 0, 1) := by decide +kernel
theorem dX1_chooseRate_70 : decode cX1_chooseRate 70 = .ok (.iload_n 3, 1) := by decide +kernel
theorem dX1_chooseRate_71 : decode cX1_chooseRate 71 = .ok (.putfield 96, 3) := by decide +kernel
theorem dX1_chooseRate_74 : decode cX1_chooseRate 74 = .ok (.iinc 3 (-1), 3) := by decide +kernel
theorem dX1_chooseRate_77 : decode cX1_chooseRate 77 = .ok (.goto (-49), 3) := by decide +kernel
theorem dX1_chooseRate_80 : decode cX1_chooseRate 80 = .ok (.return_, 1) := by decide +kernel
def F_X1_chooseRate_28 (G : Nat → Nat) (a0 : Nat) (x1 : Int32) : Nat → xH → Int32 → Int32 → Option xH
  | 0, _, _, _ => none
  | n + 1, h, x2, x3 =>
    if x3 ≤ 0 then
      some h
    else
    (gR h (some a0) 2 2).bind fun w6 =>
    (ldI 2 G h w6 ((x1 * 21) + x3)).bind fun v7 =>
    xl (x2 + v7) fun v8 =>
    (gR h (some a0) 2 1).bind fun w9 =>
    (ldI 2 G h w9 x1).bind fun v10 =>
    if v10 < x3 then
      xl (x3 + (-1)) fun v12 =>
      F_X1_chooseRate_28 G a0 x1 n h v8 v12
    else
    (gI h (some a0) 2 4).bind fun v13 =>
    if v13 < v8 then
      xl (x3 + (-1)) fun v15 =>
      F_X1_chooseRate_28 G a0 x1 n h v8 v15
    else
    (xp G h (some a0) 2 4 (.int v8)).bind fun h16 =>
    (xp G h16 (some a0) 2 3 (.int x3)).bind fun h17 =>
    xl (x3 + (-1)) fun v18 =>
    F_X1_chooseRate_28 G a0 x1 n h17 v8 v18
set_option maxHeartbeats 4000000 in
set_option maxRecDepth 100000 in
theorem tl_X1_chooseRate_28 {p : Program} {l : Launch} {e : Env} {s : State} {m : MethodId} {args : Array Value} {below : List Frame} {meth : Method} {c : Code} {D : va_G} {h' : xH} (hx : p.tables.exec = Jvm.exec) (hb : c.code = cX1_chooseRate) (hr : meth.sig.returnType = none) (hlk : meth.locks = false) (hml : c.maxLocals = 4) (hown : s.vm.findClass RX1 = some m.cls) (hnm : meth.name = "chooseRate") (hts : ∀ w ∈ xt, w.before args s = true) (G : Nat → Nat) (a0 : Nat) (x1 : Int32) : ∀ (n : Nat) (h : xH) (x2 : Int32) (x3 : Int32) (H : Heap) (locs : List Loc) (ls : Array Slot), F_X1_chooseRate_28 G a0 x1 n h x2 x3 = some h' → xR D G h s H → va_S (xA G) s.heap H locs → lv_has ls 4 [(0, va_rf (some a0)), (1, .int x1), (2, .int x2), (3, .int x3)] → W p l e rm_X1_chooseRate s m args below meth c H locs 0 0 (MQ below (xQ D G none h') args s rm_X1_chooseRate.cells rm_X1_chooseRate.slots (xA G)) (F0 m 28 ls []) := by
  intro n
  induction n with
  | zero =>
    intro h x2 x3 H locs ls hF
    rw [F_X1_chooseRate_28.eq_1] at hF
    cases hF
  | succ n ih =>
    intro h x2 x3 H locs ls hF hR hS hl
    rw [F_X1_chooseRate_28.eq_2] at hF
    refine lv_iload_n hx hb dX1_chooseRate_28 rfl (lv_at hl 3 rfl) ?_
    refine lv_if_le (tgt := 80) hx hb dX1_chooseRate_29 (by decide) (fun c5 => ?_) (fun c5 => ?_)
    · replace hF := xift c5 hF
      cases hF
      exact x_vret hx hb hr hlk hR hS (by decide) (by decide) dX1_chooseRate_80
    · replace hF := xiff c5 hF
      refine lv_iload_n hx hb dX1_chooseRate_32 rfl (lv_at hl 2 rfl) ?_
      refine x_aload_n (o := (some a0)) hx hb dX1_chooseRate_33 rfl (lv_at hl 0 rfl) ?_
      replace hF := xbind hF; obtain ⟨w6, ew6, hF⟩ := hF
      refine x_getR (o := (some a0)) (ci := 2) (C := RX1) (T := TX1) (N := 5) hx hb hts iw_X1 hown hR rfl 2 (by decide) mm_173 (Or.inl rfl) ew6 dX1_chooseRate_34 ?_
      refine lv_iload_n hx hb dX1_chooseRate_37 rfl (lv_at hl 1 rfl) ?_
      refine lv_bipush (v := 21) hx hb dX1_chooseRate_38 (by decide) ?_
      refine lv_imul hx hb dX1_chooseRate_40 ?_
      refine lv_iload_n hx hb dX1_chooseRate_41 rfl (lv_at hl 3 rfl) ?_
      refine lv_iadd hx hb dX1_chooseRate_42 ?_
      replace hF := xbind hF; obtain ⟨v7, ev7, hF⟩ := hF
      refine x_ild (o := w6) hx hb hR ev7 dX1_chooseRate_43 ?_
      refine lv_iadd hx hb dX1_chooseRate_44 ?_
      refine lv_topi (fun v8 ev8 => ?_)
      replace hF := xlet ev8 hF
      refine lv_istore_n (lv' := [(2, .int v8), (0, va_rf (some a0)), (1, .int x1), (3, .int x3)]) hx hb dX1_chooseRate_45 rfl hl (by decide) (by first | rfl | simp [xrf_cat]) (fun ls hl => ?_)
      refine lv_iload_n hx hb dX1_chooseRate_46 rfl (lv_at hl 3 rfl) ?_
      refine x_aload_n (o := (some a0)) hx hb dX1_chooseRate_47 rfl (lv_at hl 1 rfl) ?_
      replace hF := xbind hF; obtain ⟨w9, ew9, hF⟩ := hF
      refine x_getR (o := (some a0)) (ci := 2) (C := RX1) (T := TX1) (N := 5) hx hb hts iw_X1 hown hR rfl 1 (by decide) mm_172 (Or.inl rfl) ew9 dX1_chooseRate_48 ?_
      refine lv_iload_n hx hb dX1_chooseRate_51 rfl (lv_at hl 2 rfl) ?_
      replace hF := xbind hF; obtain ⟨v10, ev10, hF⟩ := hF
      refine x_ild (o := w9) hx hb hR ev10 dX1_chooseRate_52 ?_
      refine lv_icmp_gt (tgt := 74) hx hb dX1_chooseRate_53 (by decide) (fun c11 => ?_) (fun c11 => ?_)
      · replace hF := xift c11 hF
        obtain ⟨v12, ev12⟩ : ∃ z : Int32, z = (x3 + (-1)) := ⟨_, rfl⟩
        replace hF := xlet ev12 hF
        refine lv_iinc (v := v12) (lv' := [(3, .int v12), (2, .int v8), (0, va_rf (some a0)), (1, .int x1)]) hx hb dX1_chooseRate_74 hl (k := 3) rfl (by rw [ev12]; rfl) (by decide) (by first | rfl | simp [xrf_cat]) (fun ls hl => ?_)
        refine lv_goto (tgt := 28) hx hb dX1_chooseRate_77 (by decide) ?_
        exact ih h v8 v12 _ _ _ hF hR hS (lv_sub hl [2, 3, 1, 0] rfl)
      · replace hF := xiff c11 hF
        refine lv_iload_n hx hb dX1_chooseRate_56 rfl (lv_at hl 0 rfl) ?_
        refine x_aload_n (o := (some a0)) hx hb dX1_chooseRate_57 rfl (lv_at hl 1 rfl) ?_
        replace hF := xbind hF; obtain ⟨v13, ev13, hF⟩ := hF
        refine x_getI (o := (some a0)) (ci := 2) (C := RX1) (T := TX1) (N := 5) hx hb hts iw_X1 hown hR rfl 4 (by decide) mm_175 (Or.inl rfl) ev13 dX1_chooseRate_58 ?_
        refine lv_icmp_gt (tgt := 74) hx hb dX1_chooseRate_61 (by decide) (fun c14 => ?_) (fun c14 => ?_)
        · replace hF := xift c14 hF
          obtain ⟨v15, ev15⟩ : ∃ z : Int32, z = (x3 + (-1)) := ⟨_, rfl⟩
          replace hF := xlet ev15 hF
          refine lv_iinc (v := v15) (lv' := [(3, .int v15), (2, .int v8), (0, va_rf (some a0)), (1, .int x1)]) hx hb dX1_chooseRate_74 hl (k := 3) rfl (by rw [ev15]; rfl) (by decide) (by first | rfl | simp [xrf_cat]) (fun ls hl => ?_)
          refine lv_goto (tgt := 28) hx hb dX1_chooseRate_77 (by decide) ?_
          exact ih h v8 v15 _ _ _ hF hR hS (lv_sub hl [2, 3, 1, 0] rfl)
        · replace hF := xiff c14 hF
          refine x_aload_n (o := (some a0)) hx hb dX1_chooseRate_64 rfl (lv_at hl 1 rfl) ?_
          refine lv_iload_n hx hb dX1_chooseRate_65 rfl (lv_at hl 0 rfl) ?_
          replace hF := xbind hF; obtain ⟨h16, eh16, hF⟩ := hF
          refine x_put (o := (some a0)) (ci := 2) (C := RX1) (T := TX1) (N := 5) hx hb hts iw_X1 tyX1_ok nmX1 hown hR hS rfl 4 (by decide) mm_175 (Or.inl rfl) rfl rfl rfl eh16 dX1_chooseRate_66 (fun H locs hR hS => ?_)
          refine x_aload_n (o := (some a0)) hx hb dX1_chooseRate_69 rfl (lv_at hl 1 rfl) ?_
          refine lv_iload_n hx hb dX1_chooseRate_70 rfl (lv_at hl 3 rfl) ?_
          replace hF := xbind hF; obtain ⟨h17, eh17, hF⟩ := hF
          refine x_put (o := (some a0)) (ci := 2) (C := RX1) (T := TX1) (N := 5) hx hb hts iw_X1 tyX1_ok nmX1 hown hR hS rfl 3 (by decide) mm_174 (Or.inl rfl) rfl rfl rfl eh17 dX1_chooseRate_71 (fun H locs hR hS => ?_)
          obtain ⟨v18, ev18⟩ : ∃ z : Int32, z = (x3 + (-1)) := ⟨_, rfl⟩
          replace hF := xlet ev18 hF
          refine lv_iinc (v := v18) (lv' := [(3, .int v18), (2, .int v8), (0, va_rf (some a0)), (1, .int x1)]) hx hb dX1_chooseRate_74 hl (k := 3) rfl (by rw [ev18]; rfl) (by decide) (by first | rfl | simp [xrf_cat]) (fun ls hl => ?_)
          refine lv_goto (tgt := 28) hx hb dX1_chooseRate_77 (by decide) ?_
          exact ih h17 v8 v18 _ _ _ hF hR hS (lv_sub hl [2, 3, 1, 0] rfl)
def F_X1_chooseRate (G : Nat → Nat) (h : xH) (a0 : Nat) (x1 : Int32) : Option xH :=
  (xp G h (some a0) 2 3 (.int 0)).bind fun h1 =>
  (xp G h1 (some a0) 2 4 (.int 602)).bind fun h2 =>
  if x1 < 0 then
    some h2
  else
  if x1 < 78 then
    F_X1_chooseRate_28 G a0 x1 xN h2 0 20
  else
  some h2
set_option maxHeartbeats 4000000 in
set_option maxRecDepth 100000 in
theorem t_X1_chooseRate (l : Launch) (D : va_G) (G : Nat → Nat) (h : xH) (a0 : Nat) (x1 : Int32) (h' : xH) (hF : F_X1_chooseRate G h a0 x1 = some h') : xC l yX1_chooseRate cX1_chooseRate 4 none rm_X1_chooseRate D G h [.ref a0, .int x1] none h' := by
  refine xC_of (by decide) (by first | decide | exact Nat.le_of_ble_eq_true rfl) ?_
  intro p e s m args below meth c ls hx hb hr hlk hml hown hnm hts hR hS hl
  have hl : lv_has ls 4 [(0, va_rf (some a0)), (1, .int x1)] := hl
  unfold F_X1_chooseRate at hF
  refine x_aload_n (o := (some a0)) hx hb dX1_chooseRate_0 rfl (lv_at hl 0 rfl) ?_
  refine lv_iconst (v := 0) hx hb dX1_chooseRate_1 (by decide) ?_
  replace hF := xbind hF; obtain ⟨h1, eh1, hF⟩ := hF
  refine x_put (o := (some a0)) (ci := 2) (C := RX1) (T := TX1) (N := 5) hx hb hts iw_X1 tyX1_ok nmX1 hown hR hS rfl 3 (by decide) mm_174 (Or.inl rfl) rfl rfl rfl eh1 dX1_chooseRate_2 (fun H locs hR hS => ?_)
  refine x_aload_n (o := (some a0)) hx hb dX1_chooseRate_5 rfl (lv_at hl 0 rfl) ?_
  refine lv_sipush (v := 602) hx hb dX1_chooseRate_6 (by decide) ?_
  replace hF := xbind hF; obtain ⟨h2, eh2, hF⟩ := hF
  refine x_put (o := (some a0)) (ci := 2) (C := RX1) (T := TX1) (N := 5) hx hb hts iw_X1 tyX1_ok nmX1 hown hR hS rfl 4 (by decide) mm_175 (Or.inl rfl) rfl rfl rfl eh2 dX1_chooseRate_9 (fun H locs hR hS => ?_)
  refine lv_iload_n hx hb dX1_chooseRate_12 rfl (lv_at hl 1 rfl) ?_
  refine lv_if_lt (tgt := 22) hx hb dX1_chooseRate_13 (by decide) (fun c3 => ?_) (fun c3 => ?_)
  · replace hF := xift c3 hF
    cases hF
    exact x_vret hx hb hr hlk hR hS (by decide) (by decide) dX1_chooseRate_22
  · replace hF := xiff c3 hF
    refine lv_iload_n hx hb dX1_chooseRate_16 rfl (lv_at hl 1 rfl) ?_
    refine lv_bipush (v := 78) hx hb dX1_chooseRate_17 (by decide) ?_
    refine lv_icmp_lt (tgt := 23) hx hb dX1_chooseRate_19 (by decide) (fun c4 => ?_) (fun c4 => ?_)
    · replace hF := xift c4 hF
      refine lv_iconst (v := 0) hx hb dX1_chooseRate_23 (by decide) ?_
      refine lv_istore_n (lv' := [(2, .int 0), (0, va_rf (some a0)), (1, .int x1)]) hx hb dX1_chooseRate_24 rfl hl (by decide) (by first | rfl | simp [xrf_cat]) (fun ls hl => ?_)
      refine lv_bipush (v := 20) hx hb dX1_chooseRate_25 (by decide) ?_
      refine lv_istore_n (lv' := [(3, .int 20), (2, .int 0), (0, va_rf (some a0)), (1, .int x1)]) hx hb dX1_chooseRate_27 rfl hl (by decide) (by first | rfl | simp [xrf_cat]) (fun ls hl => ?_)
      refine W.widen (k := 0) (n := 0) (by decide) (by decide) ?_
      exact tl_X1_chooseRate_28 hx hb hr hlk hml hown hnm hts G a0 x1 _ h2 0 20 _ _ _ hF hR hS (lv_sub hl [2, 3, 1, 0] rfl)
    · replace hF := xiff c4 hF
      cases hF
      exact x_vret hx hb hr hlk hR hS (by decide) (by decide) dX1_chooseRate_22
def rm_X1_choose : Room := { frames := 1, cells := 0, slots := 0, locals := 23 }
theorem f_X1_choose : xM yX1_choose cX1_choose 5 (some .int) 0 := ⟨mm_708, mm_61, by decide +kernel, by decide +kernel⟩
theorem dX1_choose_0 : decode cX1_choose 0 = .ok (.iconst (-1), 1) := by decide +kernel
theorem dX1_choose_1 : decode cX1_choose 1 = .ok (.istore_n 1, 1) := by decide +kernel
theorem dX1_choose_2 : decode cX1_choose 2 = .ok (.sipush 602, 3) := by decide +kernel
theorem dX1_choose_5 : decode cX1_choose 5 = .ok (.istore_n 2, 1) := by decide +kernel
theorem dX1_choose_6 : decode cX1_choose 6 = .ok (.iconst 1, 1) := by decide +kernel
theorem dX1_choose_7 : decode cX1_choose 7 = .ok (.istore_n 3, 1) := by decide +kernel
theorem dX1_choose_8 : decode cX1_choose 8 = .ok (.iload_n 3, 1) := by decide +kernel
theorem dX1_choose_9 : decode cX1_choose 9 = .ok (.bipush 12, 2) := by decide +kernel
theorem dX1_choose_11 : decode cX1_choose 11 = .ok (.if_icmp .gt 74, 3) := by decide +kernel
theorem dX1_choose_14 : decode cX1_choose 14 = .ok (.iconst 1, 1) := by decide +kernel
theorem dX1_choose_15 : decode cX1_choose 15 = .ok (.istore 4, 2) := by decide +kernel
theorem dX1_choose_17 : decode cX1_choose 17 = .ok (.iload 4, 2) := by decide +kernel
theorem dX1_choose_19 : decode cX1_choose 19 = .ok (.iload_n 3, 1) := by decide +kernel
theorem dX1_choose_20 : decode cX1_choose 20 = .ok (.if_icmp .gt 59, 3) := by decide +kernel
theorem dX1_choose_23 : decode cX1_choose 23 = .ok (.aload_n 0, 1) := by decide +kernel
theorem dX1_choose_24 : decode cX1_choose 24 = .ok (.iload_n 3, 1) := by decide +kernel
theorem dX1_choose_25 : decode cX1_choose 25 = .ok (.iload 4, 2) := by decide +kernel
theorem dX1_choose_27 : decode cX1_choose 27 = .ok (.invokestatic 86, 3) := by decide +kernel
theorem dX1_choose_30 : decode cX1_choose 30 = .ok (.invokevirtual 92, 3) := by decide +kernel
theorem dX1_choose_33 : decode cX1_choose 33 = .ok (.aload_n 0, 1) := by decide +kernel
theorem dX1_choose_34 : decode cX1_choose 34 = .ok (.getfield 96, 3) := by decide +kernel
theorem dX1_choose_37 : decode cX1_choose 37 = .ok (.ifCond .le 36, 3) := by decide +kernel
theorem dX1_choose_40 : decode cX1_choose 40 = .ok (.aload_n 0, 1) := by decide +kernel
theorem dX1_choose_41 : decode cX1_choose 41 = .ok (.getfield 99, 3) := by decide +kernel
theorem dX1_choose_44 : decode cX1_choose 44 = .ok (.iload_n 2, 1) := by decide +kernel
theorem dX1_choose_45 : decode cX1_choose 45 = .ok (.if_icmp .ge 28, 3) := by decide +kernel
theorem dX1_choose_48 : decode cX1_choose 48 = .ok (.aload_n 0, 1) := by decide +kernel
theorem dX1_choose_49 : decode cX1_choose 49 = .ok (.getfield 99, 3) := by decide +kernel
theorem dX1_choose_52 : decode cX1_choose 52 = .ok (.istore_n 2, 1) := by decide +kernel
theorem dX1_choose_53 : decode cX1_choose 53 = .ok (.ldc 102, 2) := by decide +kernel
theorem dX1_choose_55 : decode cX1_choose 55 = .ok (.iload_n 3, 1) := by decide +kernel
theorem dX1_choose_56 : decode cX1_choose 56 = .ok (.imul, 1) := by decide +kernel
theorem dX1_choose_57 : decode cX1_choose 57 = .ok (.sipush 1000, 3) := by decide +kernel
theorem dX1_choose_60 : decode cX1_choose 60 = .ok (.iload 4, 2) := by decide +kernel
theorem dX1_choose_62 : decode cX1_choose 62 = .ok (.imul, 1) := by decide +kernel
theorem dX1_choose_63 : decode cX1_choose 63 = .ok (.iadd, 1) := by decide +kernel
theorem dX1_choose_64 : decode cX1_choose 64 = .ok (.bipush 10, 2) := by decide +kernel
theorem dX1_choose_66 : decode cX1_choose 66 = .ok (.aload_n 0, 1) := by decide +kernel
theorem dX1_choose_67 : decode cX1_choose 67 = .ok (.getfield 96, 3) := by decide +kernel
theorem dX1_choose_70 : decode cX1_choose 70 = .ok (.imul, 1) := by decide +kernel
theorem dX1_choose_71 : decode cX1_choose 71 = .ok (.iadd, 1) := by decide +kernel
theorem dX1_choose_72 : decode cX1_choose 72 = .ok (.istore_n 1, 1) := by decide +kernel
theorem dX1_choose_73 : decode cX1_choose 73 = .ok (.iinc 4 1, 3) := by decide +kernel
theorem dX1_choose_76 : decode cX1_choose 76 = .ok (.goto (-59), 3) := by decide +kernel
theorem dX1_choose_79 : decode cX1_choose 79 = .ok (.iinc 3 1, 3) := by decide +kernel
theorem dX1_choose_82 : decode cX1_choose 82 = .ok (.goto (-74), 3) := by decide +kernel
theorem dX1_choose_85 : decode cX1_choose 85 = .ok (.iload_n 1, 1) := by decide +kernel
theorem dX1_choose_86 : decode cX1_choose 86 = .ok (.ireturn, 1) := by decide +kernel
def F_X1_choose_17 (G : Nat → Nat) (a0 : Nat) (x3 : Int32) (k8 : xH → Int32 → Int32 → Int32 → Option (Int32 × xH)) : Nat → xH → Int32 → Int32 → Int32 → Option (Int32 × xH)
  | 0, _, _, _, _ => none
  | n + 1, h, x1, x2, x4 =>
    if x3 < x4 then
      xl (x3 + 1) fun v3 =>
      k8 h x1 x2 v3
    else
    (F_X1_pairOf x3 x4).bind fun v4 =>
    (xc h (some a0) 2).bind fun b6 =>
    (F_X1_chooseRate G h b6 v4).bind fun h5 =>
    (gI h5 (some a0) 2 3).bind fun v7 =>
    if v7 ≤ 0 then
      xl (x4 + 1) fun v9 =>
      F_X1_choose_17 G a0 x3 k8 n h5 x1 x2 v9
    else
    (gI h5 (some a0) 2 4).bind fun v10 =>
    if x2 ≤ v10 then
      xl (x4 + 1) fun v12 =>
      F_X1_choose_17 G a0 x3 k8 n h5 x1 x2 v12
    else
    (gI h5 (some a0) 2 4).bind fun v13 =>
    (gI h5 (some a0) 2 3).bind fun v14 =>
    xl (((1000000 * x3) + (1000 * x4)) + (10 * v14)) fun v15 =>
    xl (x4 + 1) fun v16 =>
    F_X1_choose_17 G a0 x3 k8 n h5 v15 v13 v16
set_option maxHeartbeats 4000000 in
set_option maxRecDepth 100000 in
theorem tl_X1_choose_17 {p : Program} {l : Launch} {e : Env} {s : State} {m : MethodId} {args : Array Value} {below : List Frame} {meth : Method} {c : Code} {D : va_G} {r : Int32} {h' : xH} (hx : p.tables.exec = Jvm.exec) (hb : c.code = cX1_choose) (hr : meth.sig.returnType = (some .int)) (hlk : meth.locks = false) (hml : c.maxLocals = 5) (hown : s.vm.findClass RX1 = some m.cls) (hnm : meth.name = "choose") (hts : ∀ w ∈ xt, w.before args s = true) (G : Nat → Nat) (a0 : Nat) (x3 : Int32) (k8 : xH → Int32 → Int32 → Int32 → Option (Int32 × xH)) (hk8 : ∀ (g' : xH) (x1' : Int32) (x2' : Int32) (x3' : Int32) (H : Heap) (locs : List Loc) (ls : Array Slot), k8 g' x1' x2' x3' = some (r, h') → xR D G g' s H → va_S (xA G) s.heap H locs → lv_has ls 5 [(0, va_rf (some a0)), (1, .int x1'), (2, .int x2'), (3, .int x3')] → W p l e rm_X1_choose s m args below meth c H locs 0 0 (MQ below (xQ D G (some (.int r)) h') args s rm_X1_choose.cells rm_X1_choose.slots (xA G)) (F0 m 8 ls [])) : ∀ (n : Nat) (h : xH) (x1 : Int32) (x2 : Int32) (x4 : Int32) (H : Heap) (locs : List Loc) (ls : Array Slot), F_X1_choose_17 G a0 x3 k8 n h x1 x2 x4 = some (r, h') → xR D G h s H → va_S (xA G) s.heap H locs → lv_has ls 5 [(0, va_rf (some a0)), (1, .int x1), (2, .int x2), (3, .int x3), (4, .int x4)] → W p l e rm_X1_choose s m args below meth c H locs 0 0 (MQ below (xQ D G (some (.int r)) h') args s rm_X1_choose.cells rm_X1_choose.slots (xA G)) (F0 m 17 ls []) := by
  intro n
  induction n with
  | zero =>
    intro h x1 x2 x4 H locs ls hF
    rw [F_X1_choose_17.eq_1] at hF
    cases hF
  | succ n ih =>
    intro h x1 x2 x4 H locs ls hF hR hS hl
    rw [F_X1_choose_17.eq_2] at hF
    refine lv_iload hx hb dX1_choose_17 (lv_at hl 4 rfl) ?_
    refine lv_iload_n hx hb dX1_choose_19 rfl (lv_at hl 3 rfl) ?_
    refine lv_icmp_gt (tgt := 79) hx hb dX1_choose_20 (by decide) (fun c2 => ?_) (fun c2 => ?_)
    · replace hF := xift c2 hF
      obtain ⟨v3, ev3⟩ : ∃ z : Int32, z = (x3 + 1) := ⟨_, rfl⟩
      replace hF := xlet ev3 hF
      refine lv_iinc (v := v3) (lv' := [(3, .int v3), (0, va_rf (some a0)), (1, .int x1), (2, .int x2), (4, .int x4)]) hx hb dX1_choose_79 hl (k := 3) rfl (by rw [ev3]; rfl) (by decide) (by first | rfl | simp [xrf_cat]) (fun ls hl => ?_)
      refine lv_goto (tgt := 8) hx hb dX1_choose_82 (by decide) ?_
      exact hk8 h x1 x2 v3 _ _ _ hF hR hS (lv_sub hl [1, 2, 3, 0] rfl)
    · replace hF := xiff c2 hF
      refine x_aload_n (o := (some a0)) hx hb dX1_choose_23 rfl (lv_at hl 0 rfl) ?_
      refine lv_iload_n hx hb dX1_choose_24 rfl (lv_at hl 3 rfl) ?_
      refine lv_iload hx hb dX1_choose_25 (lv_at hl 4 rfl) ?_
      replace hF := xbind hF; obtain ⟨v4, ev4, hF⟩ := hF
      refine x_callS (As := [.int x3, .int x4]) (rest := [va_rf (some a0)]) (v := (some (.int v4))) (k := 2) hx hb hml hown hts hR hS (t_X1_pairOf l D G h x3 x4 v4 ev4) f_X1_pairOf mm_697 mm_698 rfl hl.1 rfl (by first | exact Nat.le_of_ble_eq_true rfl | simp [xrf_cat, xcI, xcJ, xcA]) dX1_choose_27 (by decide) (by decide) rfl (fun H locs hR hS => ?_)
      replace hF := xbind hF; obtain ⟨b6, eb6, hF⟩ := hF
      replace hF := xbind hF; obtain ⟨h5, eh5, hF⟩ := hF
      refine x_callV (o := (some a0)) (ci := 2) (As := [.int v4]) (rest := []) (v := none) (k := 1) hx hb hml hown hts hR hS eb6 rfl rfl (t_X1_chooseRate l D G h b6 v4 h5 eh5) f_X1_chooseRate mm_709 mm_711 mm_22 rfl hl.1 rfl (by first | exact Nat.le_of_ble_eq_true rfl | simp [xrf_cat, xcI, xcJ, xcA]) dX1_choose_30 (by decide) (by decide) rfl (fun H locs hR hS => ?_)
      refine x_aload_n (o := (some a0)) hx hb dX1_choose_33 rfl (lv_at hl 0 rfl) ?_
      replace hF := xbind hF; obtain ⟨v7, ev7, hF⟩ := hF
      refine x_getI (o := (some a0)) (ci := 2) (C := RX1) (T := TX1) (N := 5) hx hb hts iw_X1 hown hR rfl 3 (by decide) mm_174 (Or.inl rfl) ev7 dX1_choose_34 ?_
      refine lv_if_le (tgt := 73) hx hb dX1_choose_37 (by decide) (fun c8 => ?_) (fun c8 => ?_)
      · replace hF := xift c8 hF
        obtain ⟨v9, ev9⟩ : ∃ z : Int32, z = (x4 + 1) := ⟨_, rfl⟩
        replace hF := xlet ev9 hF
        refine lv_iinc (v := v9) (lv' := [(4, .int v9), (0, va_rf (some a0)), (1, .int x1), (2, .int x2), (3, .int x3)]) hx hb dX1_choose_73 hl (k := 4) rfl (by rw [ev9]; rfl) (by decide) (by first | rfl | simp [xrf_cat]) (fun ls hl => ?_)
        refine lv_goto (tgt := 17) hx hb dX1_choose_76 (by decide) ?_
        exact ih h5 x1 x2 v9 _ _ _ hF hR hS (lv_sub hl [1, 2, 3, 4, 0] rfl)
      · replace hF := xiff c8 hF
        refine x_aload_n (o := (some a0)) hx hb dX1_choose_40 rfl (lv_at hl 0 rfl) ?_
        replace hF := xbind hF; obtain ⟨v10, ev10, hF⟩ := hF
        refine x_getI (o := (some a0)) (ci := 2) (C := RX1) (T := TX1) (N := 5) hx hb hts iw_X1 hown hR rfl 4 (by decide) mm_175 (Or.inl rfl) ev10 dX1_choose_41 ?_
        refine lv_iload_n hx hb dX1_choose_44 rfl (lv_at hl 2 rfl) ?_
        refine lv_icmp_ge (tgt := 73) hx hb dX1_choose_45 (by decide) (fun c11 => ?_) (fun c11 => ?_)
        · replace hF := xift c11 hF
          obtain ⟨v12, ev12⟩ : ∃ z : Int32, z = (x4 + 1) := ⟨_, rfl⟩
          replace hF := xlet ev12 hF
          refine lv_iinc (v := v12) (lv' := [(4, .int v12), (0, va_rf (some a0)), (1, .int x1), (2, .int x2), (3, .int x3)]) hx hb dX1_choose_73 hl (k := 4) rfl (by rw [ev12]; rfl) (by decide) (by first | rfl | simp [xrf_cat]) (fun ls hl => ?_)
          refine lv_goto (tgt := 17) hx hb dX1_choose_76 (by decide) ?_
          exact ih h5 x1 x2 v12 _ _ _ hF hR hS (lv_sub hl [1, 2, 3, 4, 0] rfl)
        · replace hF := xiff c11 hF
          refine x_aload_n (o := (some a0)) hx hb dX1_choose_48 rfl (lv_at hl 0 rfl) ?_
          replace hF := xbind hF; obtain ⟨v13, ev13, hF⟩ := hF
          refine x_getI (o := (some a0)) (ci := 2) (C := RX1) (T := TX1) (N := 5) hx hb hts iw_X1 hown hR rfl 4 (by decide) mm_175 (Or.inl rfl) ev13 dX1_choose_49 ?_
          refine lv_istore_n (lv' := [(2, .int v13), (0, va_rf (some a0)), (1, .int x1), (3, .int x3), (4, .int x4)]) hx hb dX1_choose_52 rfl hl (by decide) (by first | rfl | simp [xrf_cat]) (fun ls hl => ?_)
          refine lv_ldc hx hb hown (hts _ mm_713) dX1_choose_53 ?_
          refine lv_iload_n hx hb dX1_choose_55 rfl (lv_at hl 3 rfl) ?_
          refine lv_imul hx hb dX1_choose_56 ?_
          refine lv_sipush (v := 1000) hx hb dX1_choose_57 (by decide) ?_
          refine lv_iload hx hb dX1_choose_60 (lv_at hl 4 rfl) ?_
          refine lv_imul hx hb dX1_choose_62 ?_
          refine lv_iadd hx hb dX1_choose_63 ?_
          refine lv_bipush (v := 10) hx hb dX1_choose_64 (by decide) ?_
          refine x_aload_n (o := (some a0)) hx hb dX1_choose_66 rfl (lv_at hl 1 rfl) ?_
          replace hF := xbind hF; obtain ⟨v14, ev14, hF⟩ := hF
          refine x_getI (o := (some a0)) (ci := 2) (C := RX1) (T := TX1) (N := 5) hx hb hts iw_X1 hown hR rfl 3 (by decide) mm_174 (Or.inl rfl) ev14 dX1_choose_67 ?_
          refine lv_imul hx hb dX1_choose_70 ?_
          refine lv_iadd hx hb dX1_choose_71 ?_
          refine lv_topi (fun v15 ev15 => ?_)
          replace hF := xlet ev15 hF
          refine lv_istore_n (lv' := [(1, .int v15), (2, .int v13), (0, va_rf (some a0)), (3, .int x3), (4, .int x4)]) hx hb dX1_choose_72 rfl hl (by decide) (by first | rfl | simp [xrf_cat]) (fun ls hl => ?_)
          obtain ⟨v16, ev16⟩ : ∃ z : Int32, z = (x4 + 1) := ⟨_, rfl⟩
          replace hF := xlet ev16 hF
          refine lv_iinc (v := v16) (lv' := [(4, .int v16), (1, .int v15), (2, .int v13), (0, va_rf (some a0)), (3, .int x3)]) hx hb dX1_choose_73 hl (k := 4) rfl (by rw [ev16]; rfl) (by decide) (by first | rfl | simp [xrf_cat]) (fun ls hl => ?_)
          refine lv_goto (tgt := 17) hx hb dX1_choose_76 (by decide) ?_
          exact ih h5 v15 v13 v16 _ _ _ hF hR hS (lv_sub hl [3, 1, 2, 4, 0] rfl)
def F_X1_choose_8 (G : Nat → Nat) (a0 : Nat) : Nat → xH → Int32 → Int32 → Int32 → Option (Int32 × xH)
  | 0, _, _, _, _ => none
  | n + 1, h, x1, x2, x3 =>
    if 12 < x3 then
      some (x1, h)
    else
    F_X1_choose_17 G a0 x3 (fun h' x1' x2' x3' => F_X1_choose_8 G a0 n h' x1' x2' x3') xN h x1 x2 1
set_option maxHeartbeats 4000000 in
set_option maxRecDepth 100000 in
theorem tl_X1_choose_8 {p : Program} {l : Launch} {e : Env} {s : State} {m : MethodId} {args : Array Value} {below : List Frame} {meth : Method} {c : Code} {D : va_G} {r : Int32} {h' : xH} (hx : p.tables.exec = Jvm.exec) (hb : c.code = cX1_choose) (hr : meth.sig.returnType = (some .int)) (hlk : meth.locks = false) (hml : c.maxLocals = 5) (hown : s.vm.findClass RX1 = some m.cls) (hnm : meth.name = "choose") (hts : ∀ w ∈ xt, w.before args s = true) (G : Nat → Nat) (a0 : Nat) : ∀ (n : Nat) (h : xH) (x1 : Int32) (x2 : Int32) (x3 : Int32) (H : Heap) (locs : List Loc) (ls : Array Slot), F_X1_choose_8 G a0 n h x1 x2 x3 = some (r, h') → xR D G h s H → va_S (xA G) s.heap H locs → lv_has ls 5 [(0, va_rf (some a0)), (1, .int x1), (2, .int x2), (3, .int x3)] → W p l e rm_X1_choose s m args below meth c H locs 0 0 (MQ below (xQ D G (some (.int r)) h') args s rm_X1_choose.cells rm_X1_choose.slots (xA G)) (F0 m 8 ls []) := by
  intro n
  induction n with
  | zero =>
    intro h x1 x2 x3 H locs ls hF
    rw [F_X1_choose_8.eq_1] at hF
    cases hF
  | succ n ih =>
    intro h x1 x2 x3 H locs ls hF hR hS hl
    rw [F_X1_choose_8.eq_2] at hF
    refine lv_iload_n hx hb dX1_choose_8 rfl (lv_at hl 3 rfl) ?_
    refine lv_bipush (v := 12) hx hb dX1_choose_9 (by decide) ?_
    refine lv_icmp_gt (tgt := 85) hx hb dX1_choose_11 (by decide) (fun c1 => ?_) (fun c1 => ?_)
    · replace hF := xift c1 hF
      refine lv_iload_n hx hb dX1_choose_85 rfl (lv_at hl 1 rfl) ?_
      cases hF
      exact x_iret hx hb hr rfl hlk hR hS (by decide) (by decide) dX1_choose_86
    · replace hF := xiff c1 hF
      refine lv_iconst (v := 1) hx hb dX1_choose_14 (by decide) ?_
      refine lv_istore (lv' := [(4, .int 1), (0, va_rf (some a0)), (1, .int x1), (2, .int x2), (3, .int x3)]) hx hb dX1_choose_15 hl (by decide) (by first | rfl | simp [xrf_cat]) (fun ls hl => ?_)
      refine W.widen (k := 0) (n := 0) (by decide) (by decide) ?_
      exact tl_X1_choose_17 hx hb hr hlk hml hown hnm hts G a0 x3 (fun h' x1' x2' x3' => F_X1_choose_8 G a0 n h' x1' x2' x3') (fun h' x1' x2' x3' H locs ls => ih h' x1' x2' x3' H locs ls) _ h x1 x2 1 _ _ _ hF hR hS (lv_sub hl [1, 2, 3, 4, 0] rfl)
def F_X1_choose (G : Nat → Nat) (h : xH) (a0 : Nat) : Option (Int32 × xH) :=
  F_X1_choose_8 G a0 xN h (-1) 602 1
set_option maxHeartbeats 4000000 in
set_option maxRecDepth 100000 in
theorem t_X1_choose (l : Launch) (D : va_G) (G : Nat → Nat) (h : xH) (a0 : Nat) (r : Int32) (h' : xH) (hF : F_X1_choose G h a0 = some (r, h')) : xC l yX1_choose cX1_choose 5 (some .int) rm_X1_choose D G h [.ref a0] (some (.int r)) h' := by
  refine xC_of (by decide) (by first | decide | exact Nat.le_of_ble_eq_true rfl) ?_
  intro p e s m args below meth c ls hx hb hr hlk hml hown hnm hts hR hS hl
  have hl : lv_has ls 5 [(0, va_rf (some a0))] := hl
  unfold F_X1_choose at hF
  refine lv_iconst (v := (-1)) hx hb dX1_choose_0 (by decide) ?_
  refine lv_istore_n (lv' := [(1, .int (-1)), (0, va_rf (some a0))]) hx hb dX1_choose_1 rfl hl (by decide) (by first | rfl | simp [xrf_cat]) (fun ls hl => ?_)
  refine lv_sipush (v := 602) hx hb dX1_choose_2 (by decide) ?_
  refine lv_istore_n (lv' := [(2, .int 602), (1, .int (-1)), (0, va_rf (some a0))]) hx hb dX1_choose_5 rfl hl (by decide) (by first | rfl | simp [xrf_cat]) (fun ls hl => ?_)
  refine lv_iconst (v := 1) hx hb dX1_choose_6 (by decide) ?_
  refine lv_istore_n (lv' := [(3, .int 1), (2, .int 602), (1, .int (-1)), (0, va_rf (some a0))]) hx hb dX1_choose_7 rfl hl (by decide) (by first | rfl | simp [xrf_cat]) (fun ls hl => ?_)
  refine W.widen (k := 0) (n := 0) (by decide) (by decide) ?_
  exact tl_X1_choose_8 hx hb hr hlk hml hown hnm hts G a0 _ h (-1) 602 1 _ _ _ hF hR hS (lv_sub hl [3, 2, 1, 0] rfl)
def rm_X1_noteHistory : Room := { frames := 4, cells := 0, slots := 0, locals := 96 }
theorem f_X1_noteHistory : xM yX1_noteHistory cX1_noteHistory 6 none 3 := ⟨mm_674, mm_61, by decide +kernel, by decide +kernel⟩
theorem dX1_noteHistory_0 : decode cX1_noteHistory 0 = .ok (.aload_n 1, 1) := by decide +kernel
theorem dX1_noteHistory_1 : decode cX1_noteHistory 1 = .ok (.getfield 51, 3) := by decide +kernel
theorem dX1_noteHistory_4 : decode cX1_noteHistory 4 = .ok (.bipush 12, 2) := by decide +kernel
theorem dX1_noteHistory_6 : decode cX1_noteHistory 6 = .ok (.iadd, 1) := by decide +kernel
theorem dX1_noteHistory_7 : decode cX1_noteHistory 7 = .ok (.sipush 599, 3) := by decide +kernel
theorem dX1_noteHistory_10 : decode cX1_noteHistory 10 = .ok (.invokestatic 57, 3) := by decide +kernel
theorem dX1_noteHistory_13 : decode cX1_noteHistory 13 = .ok (.istore 4, 2) := by decide +kernel
theorem dX1_noteHistory_15 : decode cX1_noteHistory 15 = .ok (.aload_n 1, 1) := by decide +kernel
theorem dX1_noteHistory_16 : decode cX1_noteHistory 16 = .ok (.getfield 51, 3) := by decide +kernel
theorem dX1_noteHistory_19 : decode cX1_noteHistory 19 = .ok (.istore 5, 2) := by decide +kernel
theorem dX1_noteHistory_21 : decode cX1_noteHistory 21 = .ok (.iload 5, 2) := by decide +kernel
theorem dX1_noteHistory_23 : decode cX1_noteHistory 23 = .ok (.iload 4, 2) := by decide +kernel
theorem dX1_noteHistory_25 : decode cX1_noteHistory 25 = .ok (.if_icmp .gt 35, 3) := by decide +kernel
theorem dX1_noteHistory_28 : decode cX1_noteHistory 28 = .ok (.aload_n 1, 1) := by decide +kernel
theorem dX1_noteHistory_29 : decode cX1_noteHistory 29 = .ok (.iconst 0, 1) := by decide +kernel
theorem dX1_noteHistory_30 : decode cX1_noteHistory 30 = .ok (.iload 5, 2) := by decide +kernel
theorem dX1_noteHistory_32 : decode cX1_noteHistory 32 = .ok (.invokevirtual 63, 3) := by decide +kernel
theorem dX1_noteHistory_35 : decode cX1_noteHistory 35 = .ok (.iload_n 3, 1) := by decide +kernel
theorem dX1_noteHistory_36 : decode cX1_noteHistory 36 = .ok (.if_icmp .gt 24, 3) := by decide +kernel
theorem dX1_noteHistory_39 : decode cX1_noteHistory 39 = .ok (.aload_n 0, 1) := by decide +kernel
theorem dX1_noteHistory_40 : decode cX1_noteHistory 40 = .ok (.aload_n 1, 1) := by decide +kernel
theorem dX1_noteHistory_41 : decode cX1_noteHistory 41 = .ok (.iload_n 2, 1) := by decide +kernel
theorem dX1_noteHistory_42 : decode cX1_noteHistory 42 = .ok (.iload 5, 2) := by decide +kernel
theorem dX1_noteHistory_44 : decode cX1_noteHistory 44 = .ok (.invokevirtual 41, 3) := by decide +kernel
theorem dX1_noteHistory_47 : decode cX1_noteHistory 47 = .ok (.ifCond .eq 7, 3) := by decide +kernel
theorem dX1_noteHistory_50 : decode cX1_noteHistory 50 = .ok (.aload_n 0, 1) := by decide +kernel
theorem dX1_noteHistory_51 : decode cX1_noteHistory 51 = .ok (.invokevirtual 66, 3) := by decide +kernel
theorem dX1_noteHistory_54 : decode cX1_noteHistory 54 = .ok (.iinc 5 1, 3) := by decide +kernel
theorem dX1_noteHistory_57 : decode cX1_noteHistory 57 = .ok (.goto (-36), 3) := by decide +kernel
theorem dX1_noteHistory_60 : decode cX1_noteHistory 60 = .ok (.return_, 1) := by decide +kernel
def F_X1_noteHistory_21 (G : Nat → Nat) (a0 : Nat) (a1 : Nat) (x2 : Int32) (x3 : Int32) (x4 : Int32) : Nat → xH → Int32 → Option xH
  | 0, _, _ => none
  | n + 1, h, x5 =>
    if x4 < x5 then
      some h
    else
    (xc h (some a1) 9).bind fun b6 =>
    (F_X9_badIn G h b6 0 x5).bind fun v5 =>
    if x3 < v5 then
      some h
    else
    (xc h (some a0) 2).bind fun b10 =>
    (F_X1_measure G h b10 a1 x2 x5).bind fun (v8, h9) =>
    if v8 = 0 then
      xl (x5 + 1) fun v12 =>
      F_X1_noteHistory_21 G a0 a1 x2 x3 x4 n h9 v12
    else
    (xc h9 (some a0) 2).bind fun b14 =>
    (F_X1_noteReached G h9 b14).bind fun h13 =>
    xl (x5 + 1) fun v15 =>
    F_X1_noteHistory_21 G a0 a1 x2 x3 x4 n h13 v15
set_option maxHeartbeats 4000000 in
set_option maxRecDepth 100000 in
theorem tl_X1_noteHistory_21 {p : Program} {l : Launch} {e : Env} {s : State} {m : MethodId} {args : Array Value} {below : List Frame} {meth : Method} {c : Code} {D : va_G} {h' : xH} (hx : p.tables.exec = Jvm.exec) (hb : c.code = cX1_noteHistory) (hr : meth.sig.returnType = none) (hlk : meth.locks = false) (hml : c.maxLocals = 6) (hown : s.vm.findClass RX1 = some m.cls) (hnm : meth.name = "noteHistory") (hts : ∀ w ∈ xt, w.before args s = true) (G : Nat → Nat) (a0 : Nat) (a1 : Nat) (x2 : Int32) (x3 : Int32) (x4 : Int32) : ∀ (n : Nat) (h : xH) (x5 : Int32) (H : Heap) (locs : List Loc) (ls : Array Slot), F_X1_noteHistory_21 G a0 a1 x2 x3 x4 n h x5 = some h' → xR D G h s H → va_S (xA G) s.heap H locs → lv_has ls 6 [(0, va_rf (some a0)), (1, va_rf (some a1)), (2, .int x2), (3, .int x3), (4, .int x4), (5, .int x5)] → W p l e rm_X1_noteHistory s m args below meth c H locs 0 0 (MQ below (xQ D G none h') args s rm_X1_noteHistory.cells rm_X1_noteHistory.slots (xA G)) (F0 m 21 ls []) := by
  intro n
  induction n with
  | zero =>
    intro h x5 H locs ls hF
    rw [F_X1_noteHistory_21.eq_1] at hF
    cases hF
  | succ n ih =>
    intro h x5 H locs ls hF hR hS hl
    rw [F_X1_noteHistory_21.eq_2] at hF
    refine lv_iload hx hb dX1_noteHistory_21 (lv_at hl 5 rfl) ?_
    refine lv_iload hx hb dX1_noteHistory_23 (lv_at hl 4 rfl) ?_
    refine lv_icmp_gt (tgt := 60) hx hb dX1_noteHistory_25 (by decide) (fun c4 => ?_) (fun c4 => ?_)
    · replace hF := xift c4 hF
      cases hF
      exact x_vret hx hb hr hlk hR hS (by decide) (by decide) dX1_noteHistory_60
    · replace hF := xiff c4 hF
      refine x_aload_n (o := (some a1)) hx hb dX1_noteHistory_28 rfl (lv_at hl 1 rfl) ?_
      refine lv_iconst (v := 0) hx hb dX1_noteHistory_29 (by decide) ?_
      refine lv_iload hx hb dX1_noteHistory_30 (lv_at hl 5 rfl) ?_
      replace hF := xbind hF; obtain ⟨b6, eb6, hF⟩ := hF
      replace hF := xbind hF; obtain ⟨v5, ev5, hF⟩ := hF
      refine x_callV (o := (some a1)) (ci := 9) (As := [.int 0, .int x5]) (rest := []) (v := (some (.int v5))) (k := 2) hx hb hml hown hts hR hS eb6 rfl rfl (t_X9_badIn l D G h b6 0 x5 v5 ev5) f_X9_badIn mm_676 mm_632 mm_1256 rfl hl.1 rfl (by first | exact Nat.le_of_ble_eq_true rfl | simp [xrf_cat, xcI, xcJ, xcA]) dX1_noteHistory_32 (by decide) (by decide) rfl (fun H locs hR hS => ?_)
      refine lv_iload_n hx hb dX1_noteHistory_35 rfl (lv_at hl 3 rfl) ?_
      refine lv_icmp_gt (tgt := 60) hx hb dX1_noteHistory_36 (by decide) (fun c7 => ?_) (fun c7 => ?_)
      · replace hF := xift c7 hF
        cases hF
        exact x_vret hx hb hr hlk hR hS (by decide) (by decide) dX1_noteHistory_60
      · replace hF := xiff c7 hF
        refine x_aload_n (o := (some a0)) hx hb dX1_noteHistory_39 rfl (lv_at hl 0 rfl) ?_
        refine x_aload_n (o := (some a1)) hx hb dX1_noteHistory_40 rfl (lv_at hl 1 rfl) ?_
        refine lv_iload_n hx hb dX1_noteHistory_41 rfl (lv_at hl 2 rfl) ?_
        refine lv_iload hx hb dX1_noteHistory_42 (lv_at hl 5 rfl) ?_
        replace hF := xbind hF; obtain ⟨b10, eb10, hF⟩ := hF
        replace hF := xbind hF; obtain ⟨⟨v8, h9⟩, ev8, hF⟩ := hF
        refine x_callV (o := (some a0)) (ci := 2) (As := [.ref a1, .int x2, .int x5]) (rest := []) (v := (some (.int v8))) (k := 3) hx hb hml hown hts hR hS eb10 rfl rfl (t_X1_measure l D G h b10 a1 x2 x5 v8 h9 ev8) f_X1_measure mm_677 mm_679 mm_18 rfl hl.1 rfl (by first | exact Nat.le_of_ble_eq_true rfl | simp [xrf_cat, xcI, xcJ, xcA]) dX1_noteHistory_44 (by decide) (by decide) rfl (fun H locs hR hS => ?_)
        refine lv_if_eq (tgt := 54) hx hb dX1_noteHistory_47 (by decide) (fun c11 => ?_) (fun c11 => ?_)
        · replace hF := xift c11 hF
          obtain ⟨v12, ev12⟩ : ∃ z : Int32, z = (x5 + 1) := ⟨_, rfl⟩
          replace hF := xlet ev12 hF
          refine lv_iinc (v := v12) (lv' := [(5, .int v12), (0, va_rf (some a0)), (1, va_rf (some a1)), (2, .int x2), (3, .int x3), (4, .int x4)]) hx hb dX1_noteHistory_54 hl (k := 5) rfl (by rw [ev12]; rfl) (by decide) (by first | rfl | simp [xrf_cat]) (fun ls hl => ?_)
          refine lv_goto (tgt := 21) hx hb dX1_noteHistory_57 (by decide) ?_
          exact ih h9 v12 _ _ _ hF hR hS (lv_sub hl [1, 2, 3, 4, 5, 0] rfl)
        · replace hF := xiff c11 hF
          refine x_aload_n (o := (some a0)) hx hb dX1_noteHistory_50 rfl (lv_at hl 0 rfl) ?_
          replace hF := xbind hF; obtain ⟨b14, eb14, hF⟩ := hF
          replace hF := xbind hF; obtain ⟨h13, eh13, hF⟩ := hF
          refine x_callV (o := (some a0)) (ci := 2) (As := []) (rest := []) (v := none) (k := 0) hx hb hml hown hts hR hS eb14 rfl rfl (t_X1_noteReached l D G h9 b14 h13 eh13) f_X1_noteReached mm_693 mm_695 mm_19 rfl hl.1 rfl (by first | exact Nat.le_of_ble_eq_true rfl | simp [xrf_cat, xcI, xcJ, xcA]) dX1_noteHistory_51 (by decide) (by decide) rfl (fun H locs hR hS => ?_)
          obtain ⟨v15, ev15⟩ : ∃ z : Int32, z = (x5 + 1) := ⟨_, rfl⟩
          replace hF := xlet ev15 hF
          refine lv_iinc (v := v15) (lv' := [(5, .int v15), (0, va_rf (some a0)), (1, va_rf (some a1)), (2, .int x2), (3, .int x3), (4, .int x4)]) hx hb dX1_noteHistory_54 hl (k := 5) rfl (by rw [ev15]; rfl) (by decide) (by first | rfl | simp [xrf_cat]) (fun ls hl => ?_)
          refine lv_goto (tgt := 21) hx hb dX1_noteHistory_57 (by decide) ?_
          exact ih h13 v15 _ _ _ hF hR hS (lv_sub hl [1, 2, 3, 4, 5, 0] rfl)
def F_X1_noteHistory (G : Nat → Nat) (h : xH) (a0 : Nat) (a1 : Nat) (x2 : Int32) (x3 : Int32) : Option xH :=
  (gI h (some a1) 9 0).bind fun v1 =>
  xl (xmin (v1 + 12) 599) fun v2 =>
  (gI h (some a1) 9 0).bind fun v3 =>
  F_X1_noteHistory_21 G a0 a1 x2 x3 v2 xN h v3
set_option maxHeartbeats 4000000 in
set_option maxRecDepth 100000 in
theorem t_X1_noteHistory (l : Launch) (D : va_G) (G : Nat → Nat) (h : xH) (a0 : Nat) (a1 : Nat) (x2 : Int32) (x3 : Int32) (h' : xH) (hF : F_X1_noteHistory G h a0 a1 x2 x3 = some h') : xC l yX1_noteHistory cX1_noteHistory 6 none rm_X1_noteHistory D G h [.ref a0, .ref a1, .int x2, .int x3] none h' := by
  refine xC_of (by decide) (by first | decide | exact Nat.le_of_ble_eq_true rfl) ?_
  intro p e s m args below meth c ls hx hb hr hlk hml hown hnm hts hR hS hl
  have hl : lv_has ls 6 [(0, va_rf (some a0)), (1, va_rf (some a1)), (2, .int x2), (3, .int x3)] := hl
  unfold F_X1_noteHistory at hF
  refine x_aload_n (o := (some a1)) hx hb dX1_noteHistory_0 rfl (lv_at hl 1 rfl) ?_
  replace hF := xbind hF; obtain ⟨v1, ev1, hF⟩ := hF
  refine x_getI (o := (some a1)) (ci := 9) (C := RX9) (T := TX9) (N := 2) hx hb hts iw_X9 hown hR rfl 0 (by decide) mm_651 (Or.inl rfl) ev1 dX1_noteHistory_1 ?_
  refine lv_bipush (v := 12) hx hb dX1_noteHistory_4 (by decide) ?_
  refine lv_iadd hx hb dX1_noteHistory_6 ?_
  refine lv_sipush (v := 599) hx hb dX1_noteHistory_7 (by decide) ?_
  refine x_min hx hb (hml.trans hl.1.symm) hown hts mm_675 mm_313 mm_65 mm_314 (by decide) (by first | exact Nat.le_of_ble_eq_true rfl | simp [xrf_cat, xcI, xcJ, xcA]) (by decide) (by decide) dX1_noteHistory_10 ?_
  refine lv_topi (fun v2 ev2 => ?_)
  replace hF := xlet ev2 hF
  refine lv_istore (lv' := [(4, .int v2), (0, va_rf (some a0)), (1, va_rf (some a1)), (2, .int x2), (3, .int x3)]) hx hb dX1_noteHistory_13 hl (by decide) (by first | rfl | simp [xrf_cat]) (fun ls hl => ?_)
  refine x_aload_n (o := (some a1)) hx hb dX1_noteHistory_15 rfl (lv_at hl 2 rfl) ?_
  replace hF := xbind hF; obtain ⟨v3, ev3, hF⟩ := hF
  refine x_getI (o := (some a1)) (ci := 9) (C := RX9) (T := TX9) (N := 2) hx hb hts iw_X9 hown hR rfl 0 (by decide) mm_651 (Or.inl rfl) ev3 dX1_noteHistory_16 ?_
  refine lv_istore (lv' := [(5, .int v3), (4, .int v2), (0, va_rf (some a0)), (1, va_rf (some a1)), (2, .int x2), (3, .int x3)]) hx hb dX1_noteHistory_19 hl (by decide) (by first | rfl | simp [xrf_cat]) (fun ls hl => ?_)
  refine W.widen (k := 0) (n := 0) (by decide) (by decide) ?_
  exact tl_X1_noteHistory_21 hx hb hr hlk hml hown hnm hts G a0 a1 x2 x3 v2 _ h v3 _ _ _ hF hR hS (lv_sub hl [2, 3, 4, 5, 1, 0] rfl)
def rm_X1_find : Room := { frames := 5, cells := 0, slots := 0, locals := 121 }
theorem f_X1_find : xM yX1_find cX1_find 6 (some .int) 4 := ⟨mm_666, mm_61, by decide +kernel, by decide +kernel⟩
theorem dX1_find_0 : decode cX1_find 0 = .ok (.aload_n 0, 1) := by decide +kernel
theorem dX1_find_1 : decode cX1_find 1 = .ok (.getfield 15, 3) := by decide +kernel
theorem dX1_find_4 : decode cX1_find 4 = .ok (.iconst 0, 1) := by decide +kernel
theorem dX1_find_5 : decode cX1_find 5 = .ok (.invokestatic 21, 3) := by decide +kernel
theorem dX1_find_8 : decode cX1_find 8 = .ok (.aload_n 0, 1) := by decide +kernel
theorem dX1_find_9 : decode cX1_find 9 = .ok (.getfield 18, 3) := by decide +kernel
theorem dX1_find_12 : decode cX1_find 12 = .ok (.iconst 0, 1) := by decide +kernel
theorem dX1_find_13 : decode cX1_find 13 = .ok (.invokestatic 21, 3) := by decide +kernel
theorem dX1_find_16 : decode cX1_find 16 = .ok (.aload_n 0, 1) := by decide +kernel
theorem dX1_find_17 : decode cX1_find 17 = .ok (.aload_n 2, 1) := by decide +kernel
theorem dX1_find_18 : decode cX1_find 18 = .ok (.aload_n 1, 1) := by decide +kernel
theorem dX1_find_19 : decode cX1_find 19 = .ok (.invokevirtual 27, 3) := by decide +kernel
theorem dX1_find_22 : decode cX1_find 22 = .ok (.iload_n 3, 1) := by decide +kernel
theorem dX1_find_23 : decode cX1_find 23 = .ok (.invokevirtual 33, 3) := by decide +kernel
theorem dX1_find_26 : decode cX1_find 26 = .ok (.iconst 0, 1) := by decide +kernel
theorem dX1_find_27 : decode cX1_find 27 = .ok (.istore 5, 2) := by decide +kernel
theorem dX1_find_29 : decode cX1_find 29 = .ok (.iload 5, 2) := by decide +kernel
theorem dX1_find_31 : decode cX1_find 31 = .ok (.iload 4, 2) := by decide +kernel
theorem dX1_find_33 : decode cX1_find 33 = .ok (.if_icmp .gt 30, 3) := by decide +kernel
theorem dX1_find_36 : decode cX1_find 36 = .ok (.aload_n 0, 1) := by decide +kernel
theorem dX1_find_37 : decode cX1_find 37 = .ok (.aload_n 1, 1) := by decide +kernel
theorem dX1_find_38 : decode cX1_find 38 = .ok (.getfield 37, 3) := by decide +kernel
theorem dX1_find_41 : decode cX1_find 41 = .ok (.aload_n 1, 1) := by decide +kernel
theorem dX1_find_42 : decode cX1_find 42 = .ok (.invokevirtual 27, 3) := by decide +kernel
theorem dX1_find_45 : decode cX1_find 45 = .ok (.iload 5, 2) := by decide +kernel
theorem dX1_find_47 : decode cX1_find 47 = .ok (.invokevirtual 41, 3) := by decide +kernel
theorem dX1_find_50 : decode cX1_find 50 = .ok (.ifCond .eq 7, 3) := by decide +kernel
theorem dX1_find_53 : decode cX1_find 53 = .ok (.aload_n 0, 1) := by decide +kernel
theorem dX1_find_54 : decode cX1_find 54 = .ok (.invokevirtual 45, 3) := by decide +kernel
theorem dX1_find_57 : decode cX1_find 57 = .ok (.iinc 5 1, 3) := by decide +kernel
theorem dX1_find_60 : decode cX1_find 60 = .ok (.goto (-31), 3) := by decide +kernel
theorem dX1_find_63 : decode cX1_find 63 = .ok (.aload_n 0, 1) := by decide +kernel
theorem dX1_find_64 : decode cX1_find 64 = .ok (.invokevirtual 48, 3) := by decide +kernel
theorem dX1_find_67 : decode cX1_find 67 = .ok (.ireturn, 1) := by decide +kernel
def F_X1_find_29 (G : Nat → Nat) (a0 : Nat) (a1 : Nat) (x4 : Int32) : Nat → xH → Int32 → Option (Int32 × xH)
  | 0, _, _ => none
  | n + 1, h, x5 =>
    if x4 < x5 then
      (xc h (some a0) 2).bind fun b14 =>
      (F_X1_choose G h b14).bind fun (v12, h13) =>
      some (v12, h13)
    else
    (gR h (some a1) 6 0).bind fun w15 =>
    (xc h (some a1) 6).bind fun b17 =>
    (F_X6_slack G h b17).bind fun v16 =>
    w15.bind fun b18 =>
    (xc h (some a0) 2).bind fun b21 =>
    (F_X1_measure G h b21 b18 v16 x5).bind fun (v19, h20) =>
    if v19 = 0 then
      xl (x5 + 1) fun v23 =>
      F_X1_find_29 G a0 a1 x4 n h20 v23
    else
    (xc h20 (some a0) 2).bind fun b25 =>
    (F_X1_noteRings G h20 b25).bind fun h24 =>
    xl (x5 + 1) fun v26 =>
    F_X1_find_29 G a0 a1 x4 n h24 v26
set_option maxHeartbeats 4000000 in
set_option maxRecDepth 100000 in
theorem tl_X1_find_29 {p : Program} {l : Launch} {e : Env} {s : State} {m : MethodId} {args : Array Value} {below : List Frame} {meth : Method} {c : Code} {D : va_G} {r : Int32} {h' : xH} (hx : p.tables.exec = Jvm.exec) (hb : c.code = cX1_find) (hr : meth.sig.returnType = (some .int)) (hlk : meth.locks = false) (hml : c.maxLocals = 6) (hown : s.vm.findClass RX1 = some m.cls) (hnm : meth.name = "find") (hts : ∀ w ∈ xt, w.before args s = true) (G : Nat → Nat) (a0 : Nat) (a1 : Nat) (x4 : Int32) : ∀ (n : Nat) (h : xH) (x5 : Int32) (H : Heap) (locs : List Loc) (ls : Array Slot), F_X1_find_29 G a0 a1 x4 n h x5 = some (r, h') → xR D G h s H → va_S (xA G) s.heap H locs → lv_has ls 6 [(0, va_rf (some a0)), (1, va_rf (some a1)), (4, .int x4), (5, .int x5)] → W p l e rm_X1_find s m args below meth c H locs 0 0 (MQ below (xQ D G (some (.int r)) h') args s rm_X1_find.cells rm_X1_find.slots (xA G)) (F0 m 29 ls []) := by
  intro n
  induction n with
  | zero =>
    intro h x5 H locs ls hF
    rw [F_X1_find_29.eq_1] at hF
    cases hF
  | succ n ih =>
    intro h x5 H locs ls hF hR hS hl
    rw [F_X1_find_29.eq_2] at hF
    refine lv_iload hx hb dX1_find_29 (lv_at hl 3 rfl) ?_
    refine lv_iload hx hb dX1_find_31 (lv_at hl 2 rfl) ?_
    refine lv_icmp_gt (tgt := 63) hx hb dX1_find_33 (by decide) (fun c11 => ?_) (fun c11 => ?_)
    · replace hF := xift c11 hF
      refine x_aload_n (o := (some a0)) hx hb dX1_find_63 rfl (lv_at hl 0 rfl) ?_
      replace hF := xbind hF; obtain ⟨b14, eb14, hF⟩ := hF
      replace hF := xbind hF; obtain ⟨⟨v12, h13⟩, ev12, hF⟩ := hF
      refine x_callV (o := (some a0)) (ci := 2) (As := []) (rest := []) (v := (some (.int v12))) (k := 0) hx hb hml hown hts hR hS eb14 rfl rfl (t_X1_choose l D G h b14 v12 h13 ev12) f_X1_choose mm_705 mm_707 mm_21 rfl hl.1 rfl (by first | exact Nat.le_of_ble_eq_true rfl | simp [xrf_cat, xcI, xcJ, xcA]) dX1_find_64 (by decide) (by decide) rfl (fun H locs hR hS => ?_)
      cases hF
      exact x_iret hx hb hr rfl hlk hR hS (by decide) (by decide) dX1_find_67
    · replace hF := xiff c11 hF
      refine x_aload_n (o := (some a0)) hx hb dX1_find_36 rfl (lv_at hl 0 rfl) ?_
      refine x_aload_n (o := (some a1)) hx hb dX1_find_37 rfl (lv_at hl 1 rfl) ?_
      replace hF := xbind hF; obtain ⟨w15, ew15, hF⟩ := hF
      refine x_getR (o := (some a1)) (ci := 6) (C := RX6) (T := TX6) (N := 6) hx hb hts iw_X6 hown hR rfl 0 (by decide) mm_413 (Or.inl rfl) ew15 dX1_find_38 ?_
      refine x_aload_n (o := (some a1)) hx hb dX1_find_41 rfl (lv_at hl 1 rfl) ?_
      replace hF := xbind hF; obtain ⟨b17, eb17, hF⟩ := hF
      replace hF := xbind hF; obtain ⟨v16, ev16, hF⟩ := hF
      refine x_callV (o := (some a1)) (ci := 6) (As := []) (rest := [va_rf w15, va_rf (some a0)]) (v := (some (.int v16))) (k := 0) hx hb hml hown hts hR hS eb17 rfl rfl (t_X6_slack l D G h b17 v16 ev16) f_X6_slack mm_670 mm_521 mm_522 rfl hl.1 rfl (by first | exact Nat.le_of_ble_eq_true rfl | simp [xrf_cat, xcI, xcJ, xcA]) dX1_find_42 (by decide) (by decide) rfl (fun H locs hR hS => ?_)
      refine lv_iload hx hb dX1_find_45 (lv_at hl 3 rfl) ?_
      replace hF := xbind hF; obtain ⟨b18, eb18, hF⟩ := hF
      subst eb18
      replace hF := xbind hF; obtain ⟨b21, eb21, hF⟩ := hF
      replace hF := xbind hF; obtain ⟨⟨v19, h20⟩, ev19, hF⟩ := hF
      refine x_callV (o := (some a0)) (ci := 2) (As := [.ref b18, .int v16, .int x5]) (rest := []) (v := (some (.int v19))) (k := 3) hx hb hml hown hts hR hS eb21 rfl rfl (t_X1_measure l D G h b21 b18 v16 x5 v19 h20 ev19) f_X1_measure mm_677 mm_679 mm_18 rfl hl.1 rfl (by first | exact Nat.le_of_ble_eq_true rfl | simp [xrf_cat, xcI, xcJ, xcA]) dX1_find_47 (by decide) (by decide) rfl (fun H locs hR hS => ?_)
      refine lv_if_eq (tgt := 57) hx hb dX1_find_50 (by decide) (fun c22 => ?_) (fun c22 => ?_)
      · replace hF := xift c22 hF
        obtain ⟨v23, ev23⟩ : ∃ z : Int32, z = (x5 + 1) := ⟨_, rfl⟩
        replace hF := xlet ev23 hF
        refine lv_iinc (v := v23) (lv' := [(5, .int v23), (0, va_rf (some a0)), (1, va_rf (some a1)), (4, .int x4)]) hx hb dX1_find_57 hl (k := 3) rfl (by rw [ev23]; rfl) (by decide) (by first | rfl | simp [xrf_cat]) (fun ls hl => ?_)
        refine lv_goto (tgt := 29) hx hb dX1_find_60 (by decide) ?_
        exact ih h20 v23 _ _ _ hF hR hS (lv_sub hl [1, 2, 3, 0] rfl)
      · replace hF := xiff c22 hF
        refine x_aload_n (o := (some a0)) hx hb dX1_find_53 rfl (lv_at hl 0 rfl) ?_
        replace hF := xbind hF; obtain ⟨b25, eb25, hF⟩ := hF
        replace hF := xbind hF; obtain ⟨h24, eh24, hF⟩ := hF
        refine x_callV (o := (some a0)) (ci := 2) (As := []) (rest := []) (v := none) (k := 0) hx hb hml hown hts hR hS eb25 rfl rfl (t_X1_noteRings l D G h20 b25 h24 eh24) f_X1_noteRings mm_701 mm_703 mm_20 rfl hl.1 rfl (by first | exact Nat.le_of_ble_eq_true rfl | simp [xrf_cat, xcI, xcJ, xcA]) dX1_find_54 (by decide) (by decide) rfl (fun H locs hR hS => ?_)
        obtain ⟨v26, ev26⟩ : ∃ z : Int32, z = (x5 + 1) := ⟨_, rfl⟩
        replace hF := xlet ev26 hF
        refine lv_iinc (v := v26) (lv' := [(5, .int v26), (0, va_rf (some a0)), (1, va_rf (some a1)), (4, .int x4)]) hx hb dX1_find_57 hl (k := 3) rfl (by rw [ev26]; rfl) (by decide) (by first | rfl | simp [xrf_cat]) (fun ls hl => ?_)
        refine lv_goto (tgt := 29) hx hb dX1_find_60 (by decide) ?_
        exact ih h24 v26 _ _ _ hF hR hS (lv_sub hl [1, 2, 3, 0] rfl)
def F_X1_find (G : Nat → Nat) (h : xH) (a0 : Nat) (a1 : Nat) (a2 : Nat) (x3 : Int32) (x4 : Int32) : Option (Int32 × xH) :=
  (gR h (some a0) 2 1).bind fun w1 =>
  w1.bind fun b2 =>
  (F_J7_fill_53178 G h b2 0).bind fun h3 =>
  (gR h3 (some a0) 2 2).bind fun w4 =>
  w4.bind fun b5 =>
  (F_J7_fill_53178 G h3 b5 0).bind fun h6 =>
  (xc h6 (some a1) 6).bind fun b8 =>
  (F_X6_slack G h6 b8).bind fun v7 =>
  (xc h6 (some a0) 2).bind fun b10 =>
  (F_X1_noteHistory G h6 b10 a2 v7 x3).bind fun h9 =>
  F_X1_find_29 G a0 a1 x4 xN h9 0
set_option maxHeartbeats 4000000 in
set_option maxRecDepth 100000 in
theorem t_X1_find (l : Launch) (D : va_G) (G : Nat → Nat) (h : xH) (a0 : Nat) (a1 : Nat) (a2 : Nat) (x3 : Int32) (x4 : Int32) (r : Int32) (h' : xH) (hF : F_X1_find G h a0 a1 a2 x3 x4 = some (r, h')) : xC l yX1_find cX1_find 6 (some .int) rm_X1_find D G h [.ref a0, .ref a1, .ref a2, .int x3, .int x4] (some (.int r)) h' := by
  refine xC_of (by decide) (by first | decide | exact Nat.le_of_ble_eq_true rfl) ?_
  intro p e s m args below meth c ls hx hb hr hlk hml hown hnm hts hR hS hl
  have hl : lv_has ls 6 [(0, va_rf (some a0)), (1, va_rf (some a1)), (2, va_rf (some a2)), (3, .int x3), (4, .int x4)] := hl
  unfold F_X1_find at hF
  refine x_aload_n (o := (some a0)) hx hb dX1_find_0 rfl (lv_at hl 0 rfl) ?_
  replace hF := xbind hF; obtain ⟨w1, ew1, hF⟩ := hF
  refine x_getR (o := (some a0)) (ci := 2) (C := RX1) (T := TX1) (N := 5) hx hb hts iw_X1 hown hR rfl 1 (by decide) mm_172 (Or.inl rfl) ew1 dX1_find_1 ?_
  refine lv_iconst (v := 0) hx hb dX1_find_4 (by decide) ?_
  replace hF := xbind hF; obtain ⟨b2, eb2, hF⟩ := hF
  subst eb2
  replace hF := xbind hF; obtain ⟨h3, eh3, hF⟩ := hF
  refine x_callS (As := [.ref b2, .int 0]) (rest := []) (v := none) (k := 2) hx hb hml hown hts hR hS (t_J7_fill_53178 l D G h b2 0 h3 eh3) f_J7_fill_53178 mm_667 mm_668 rfl hl.1 rfl (by first | exact Nat.le_of_ble_eq_true rfl | simp [xrf_cat, xcI, xcJ, xcA]) dX1_find_5 (by decide) (by decide) rfl (fun H locs hR hS => ?_)
  refine x_aload_n (o := (some a0)) hx hb dX1_find_8 rfl (lv_at hl 0 rfl) ?_
  replace hF := xbind hF; obtain ⟨w4, ew4, hF⟩ := hF
  refine x_getR (o := (some a0)) (ci := 2) (C := RX1) (T := TX1) (N := 5) hx hb hts iw_X1 hown hR rfl 2 (by decide) mm_173 (Or.inl rfl) ew4 dX1_find_9 ?_
  refine lv_iconst (v := 0) hx hb dX1_find_12 (by decide) ?_
  replace hF := xbind hF; obtain ⟨b5, eb5, hF⟩ := hF
  subst eb5
  replace hF := xbind hF; obtain ⟨h6, eh6, hF⟩ := hF
  refine x_callS (As := [.ref b5, .int 0]) (rest := []) (v := none) (k := 2) hx hb hml hown hts hR hS (t_J7_fill_53178 l D G h3 b5 0 h6 eh6) f_J7_fill_53178 mm_667 mm_668 rfl hl.1 rfl (by first | exact Nat.le_of_ble_eq_true rfl | simp [xrf_cat, xcI, xcJ, xcA]) dX1_find_13 (by decide) (by decide) rfl (fun H locs hR hS => ?_)
  refine x_aload_n (o := (some a0)) hx hb dX1_find_16 rfl (lv_at hl 0 rfl) ?_
  refine x_aload_n (o := (some a2)) hx hb dX1_find_17 rfl (lv_at hl 2 rfl) ?_
  refine x_aload_n (o := (some a1)) hx hb dX1_find_18 rfl (lv_at hl 1 rfl) ?_
  replace hF := xbind hF; obtain ⟨b8, eb8, hF⟩ := hF
  replace hF := xbind hF; obtain ⟨v7, ev7, hF⟩ := hF
  refine x_callV (o := (some a1)) (ci := 6) (As := []) (rest := [va_rf (some a2), va_rf (some a0)]) (v := (some (.int v7))) (k := 0) hx hb hml hown hts hR hS eb8 rfl rfl (t_X6_slack l D G h6 b8 v7 ev7) f_X6_slack mm_670 mm_521 mm_522 rfl hl.1 rfl (by first | exact Nat.le_of_ble_eq_true rfl | simp [xrf_cat, xcI, xcJ, xcA]) dX1_find_19 (by decide) (by decide) rfl (fun H locs hR hS => ?_)
  refine lv_iload_n hx hb dX1_find_22 rfl (lv_at hl 3 rfl) ?_
  replace hF := xbind hF; obtain ⟨b10, eb10, hF⟩ := hF
  replace hF := xbind hF; obtain ⟨h9, eh9, hF⟩ := hF
  refine x_callV (o := (some a0)) (ci := 2) (As := [.ref a2, .int v7, .int x3]) (rest := []) (v := none) (k := 3) hx hb hml hown hts hR hS eb10 rfl rfl (t_X1_noteHistory l D G h6 b10 a2 v7 x3 h9 eh9) f_X1_noteHistory mm_671 mm_673 mm_17 rfl hl.1 rfl (by first | exact Nat.le_of_ble_eq_true rfl | simp [xrf_cat, xcI, xcJ, xcA]) dX1_find_23 (by decide) (by decide) rfl (fun H locs hR hS => ?_)
  refine lv_iconst (v := 0) hx hb dX1_find_26 (by decide) ?_
  refine lv_istore (lv' := [(5, .int 0), (0, va_rf (some a0)), (1, va_rf (some a1)), (2, va_rf (some a2)), (3, .int x3), (4, .int x4)]) hx hb dX1_find_27 hl (by decide) (by first | rfl | simp [xrf_cat]) (fun ls hl => ?_)
  refine W.widen (k := 0) (n := 0) (by decide) (by decide) ?_
  exact tl_X1_find_29 hx hb hr hlk hml hown hnm hts G a0 a1 x4 _ h9 0 _ _ _ hF hR hS (lv_sub hl [1, 2, 5, 0] rfl)
end
